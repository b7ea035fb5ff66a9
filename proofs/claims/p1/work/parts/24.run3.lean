/-! calls of the law's cases [19] (printed by wip/p1/walk.py) -/
set_option maxHeartbeats 4000000 in
set_option maxRecDepth 100000 in
theorem cX1_find_5 (l : Launch) (K : zK) (sz : Nat) (a0 : Nat) (a1 : Nat) (a2 : Nat) (a3 : Nat) (a4 : Nat) (a5 : Nat) (a6 : Nat) (a7 : Nat) (a8 : Nat) (g0 : Nat → Value) (g2 : Nat → Value) (g1 : Nat → Value) (f3 : Nat → Int32) (g4 : Nat → Value) (f5 : Nat → Int32) (f6 : Nat → Option Nat) (g7 : Nat → Value) (f8 : Nat → Int32) (e0 : g0 0 = (.ref a2)) (e1 : g2 6 = (.int 0)) (e2 : g2 4 = (.int 0)) (e3 : g2 0 = (.ref a1)) (e4 : g1 2 = (.ref a3)) (e5 : f3 0 = 0) (e6 : f3 1 = 0) (e7 : f3 2 = 0) (e8 : f3 3 = 0) (e9 : f3 4 = 0) (e10 : f3 5 = 0) (e11 : f3 6 = 0) (e12 : f3 7 = 0) (e13 : g2 1 = (.ref a4)) (e14 : g4 2 = (.ref a5)) (e15 : f5 0 = 0) (e16 : f5 1 = 0) (e17 : f5 2 = 0) (e18 : f5 3 = 0) (e19 : f5 4 = 0) (e20 : f5 5 = 0) (e21 : f5 6 = 0) (e22 : f5 7 = 0) (e23 : g2 3 = (.int 0)) (e24 : g2 2 = (.ref a6)) (e25 : g0 1 = (.ref a7)) (e26 : g0 2 = (.ref a8)) : Met l yX1_find (Cond.code yX1_find cX1_find 6 (some .int) :: WG) { frames := 4, cells := 4, slots := 4203, locals := 72 } (zPre K [(a0, zO 1 18 g0), (a2, zO 3 7 g2), (a1, zO 4 6 g1), (a3, zI K 8 f3), (a4, zO 4 6 g4), (a5, zI K 8 f5), (a6, zR K 512 f6), (a7, zO 2 6 g7), (a8, zI K 10 f8)] sz [.ref a0, .ref a1, .int 644, .int 1, .int 1]) (va_Qi (fun (r : Int32) (_ : Nat → Nat) => r = 7) (zB K (va_A [(a0, zO 1 18 g0), (a2, zO 3 7 g2), (a1, zO 4 6 g1), (a3, zI K 8 f3), (a4, zO 4 6 g4), (a5, zI K 8 f5), (a6, zR K 512 f6), (a7, zO 2 6 g7), (a8, zI K 10 f8)] sz) (fun u : Nat → Nat => [(a0, zO 1 18 (va_up (va_up (va_up (va_up (va_up (va_up (va_up (va_up (va_up (va_up (va_up (va_up (va_up (va_up (va_up (va_up (va_up g0 6 (.ref a1)) 7 (.int 1)) 9 (.int 1)) 4 (.int 0)) 5 (.int 0)) 8 (.int 0)) 10 (.int 0)) 13 (.int (-1))) 14 (.int 0)) 16 (.int 6)) 17 (.int 0)) 12 (.int 644)) 11 (.int 0)) 16 (.int 7)) 11 (.int 4)) 11 (.int 5)) 11 (.int 6))), (a2, zO 3 7 (va_up (va_up (va_up (va_up (va_up g2 5 (.int 0)) 5 (.int 0)) 3 (.int 1)) 4 (.int 0)) 6 (.int 0))), (a1, zO 4 6 g1), (a3, zI K 8 f3), (a4, zO 4 6 g4), (a5, zI K 8 f5), (a6, zR K 512 (va_up f6 0 (some (u 0)))), (a7, zO 2 6 (va_up g7 5 (.int 0))), (a8, zI K 10 (va_up (va_up (va_up (va_up (va_up (va_up (va_up (va_up (va_up (va_up f8 0 0) 1 0) 2 0) 3 0) 4 0) 5 0) 6 0) 7 0) 8 0) 9 0)), ((u 0), zO 6 3 (va_up (va_up (va_up (fun k => defaultValue (tyX7 k)) 0 (.ref (u 1))) 1 (.ref (u 2))) 2 (.ref (u 3)))), ((u 1), zJ K 1400 (fun _ => 0)), ((u 2), zJ K 1400 (fun _ => 0)), ((u 3), zJ K 1400 (fun _ => 0))])) (va_A [(a0, zO 1 18 g0), (a2, zO 3 7 g2), (a1, zO 4 6 g1), (a3, zI K 8 f3), (a4, zO 4 6 g4), (a5, zI K 8 f5), (a6, zR K 512 f6), (a7, zO 2 6 g7), (a8, zI K 10 f8)] sz)) 4 4203 (va_A [(a0, zO 1 18 g0), (a2, zO 3 7 g2), (a1, zO 4 6 g1), (a3, zI K 8 f3), (a4, zO 4 6 g4), (a5, zI K 8 f5), (a6, zR K 512 f6), (a7, zO 2 6 g7), (a8, zI K 10 f8)] sz) := by
  refine z_met (Qc := fun A => (va_Qi (fun (r : Int32) (_ : Nat → Nat) => r = 7) (zB K A (fun u : Nat → Nat => [(a0, zO 1 18 (va_up (va_up (va_up (va_up (va_up (va_up (va_up (va_up (va_up (va_up (va_up (va_up (va_up (va_up (va_up (va_up (va_up g0 6 (.ref a1)) 7 (.int 1)) 9 (.int 1)) 4 (.int 0)) 5 (.int 0)) 8 (.int 0)) 10 (.int 0)) 13 (.int (-1))) 14 (.int 0)) 16 (.int 6)) 17 (.int 0)) 12 (.int 644)) 11 (.int 0)) 16 (.int 7)) 11 (.int 4)) 11 (.int 5)) 11 (.int 6))), (a2, zO 3 7 (va_up (va_up (va_up (va_up (va_up g2 5 (.int 0)) 5 (.int 0)) 3 (.int 1)) 4 (.int 0)) 6 (.int 0))), (a1, zO 4 6 g1), (a3, zI K 8 f3), (a4, zO 4 6 g4), (a5, zI K 8 f5), (a6, zR K 512 (va_up f6 0 (some (u 0)))), (a7, zO 2 6 (va_up g7 5 (.int 0))), (a8, zI K 10 (va_up (va_up (va_up (va_up (va_up (va_up (va_up (va_up (va_up (va_up f8 0 0) 1 0) 2 0) 3 0) 4 0) 5 0) 6 0) 7 0) 8 0) 9 0)), ((u 0), zO 6 3 (va_up (va_up (va_up (fun k => defaultValue (tyX7 k)) 0 (.ref (u 1))) 1 (.ref (u 2))) 2 (.ref (u 3)))), ((u 1), zJ K 1400 (fun _ => 0)), ((u 2), zJ K 1400 (fun _ => 0)), ((u 3), zJ K 1400 (fun _ => 0))])) A)) (by decide +kernel) (Nat.le_of_ble_eq_true rfl) ?_
  intro p e s m args below meth c A ls H hx hb hr hg hown hlocks hml hin hK hP hD hA hS hZ hl
  have hown : s.vm.findClass RX1 = some m.cls := hown
  have hl : lv_has ls 6 [(0, .ref a0), (1, .ref a1), (2, .int 644), (3, .int 1), (4, .int 1)] := hl
  refine lv_aload_n hx hb dX1_find_0 rfl (lv_at hl 0 rfl) ?_
  refine z_get (v := .ref a2) hx hb hg hown hK hP i_X1 rfl 0 rfl 0 (by decide) mt249 e0 dX1_find_1 ?_
  refine z_callv [(a2, zO 3 7 g2), (a1, zO 4 6 g1), (a3, zI K 8 f3), (a4, zO 4 6 g4), (a5, zI K 8 f5), (a6, zR K 512 f6)] [(a0, zO 1 18 g0), (a7, zO 2 6 g7), (a8, zI K 10 f8)] [1, 2, 3, 4, 5, 6] [0, 7, 8] hP hD hS hA rfl rfl (by decide) (by decide) (by decide +kernel) 4 4203 rfl rfl (fun hPc hDc hF => z_runV (As := []) (rest := []) ⟨hx, hb, hml, hown, hg⟩ (cX3_prepare_1 l K H.size a2 a1 a3 a4 a5 a6 g2 g1 f3 g4 f5 f6 e1 e2 e3 e4 e5 e6 e7 e8 e9 e10 e11 e12 e13 e14 e15 e16 e17 e18 e19 e20 e21 e22 e23 e24) kV_RX1_46 hd_X3_prepare rfl rfl ⟨(Nat.le_of_ble_eq_true rfl), (Nat.le_of_ble_eq_true rfl)⟩ hK hS hZ hPc hDc hF 0 rfl rfl rfl hl.1 rfl (Nat.le_of_ble_eq_true rfl) dX1_find_4 ⟨(Nat.le_of_ble_eq_true rfl), (Nat.le_of_ble_eq_true rfl)⟩) (fun u1 H locs w2 hP hD hS => ?_)
  have hP : va_P K.1 classes [(a0, zO 1 18 g0), (a7, zO 2 6 g7), (a8, zI K 10 f8), (a2, zO 3 7 (va_up (va_up (va_up (va_up (va_up g2 5 (.int 0)) 5 (.int 0)) 3 (.int 1)) 4 (.int 0)) 6 (.int 0))), (a1, zO 4 6 g1), (a3, zI K 8 f3), (a4, zO 4 6 g4), (a5, zI K 8 f5), (a6, zR K 512 (va_up f6 0 (some (u1 0)))), ((u1 0), zO 6 3 (va_up (va_up (va_up (fun k => defaultValue (tyX7 k)) 0 (.ref (u1 1))) 1 (.ref (u1 2))) 2 (.ref (u1 3)))), ((u1 1), zJ K 1400 (fun _ => 0)), ((u1 2), zJ K 1400 (fun _ => 0)), ((u1 3), zJ K 1400 (fun _ => 0))] H := hP
  have hD : va_D A [(a0, zO 1 18 g0), (a7, zO 2 6 g7), (a8, zI K 10 f8), (a2, zO 3 7 (va_up (va_up (va_up (va_up (va_up g2 5 (.int 0)) 5 (.int 0)) 3 (.int 1)) 4 (.int 0)) 6 (.int 0))), (a1, zO 4 6 g1), (a3, zI K 8 f3), (a4, zO 4 6 g4), (a5, zI K 8 f5), (a6, zR K 512 (va_up f6 0 (some (u1 0)))), ((u1 0), zO 6 3 (va_up (va_up (va_up (fun k => defaultValue (tyX7 k)) 0 (.ref (u1 1))) 1 (.ref (u1 2))) 2 (.ref (u1 3)))), ((u1 1), zJ K 1400 (fun _ => 0)), ((u1 2), zJ K 1400 (fun _ => 0)), ((u1 3), zJ K 1400 (fun _ => 0))] := hD
  obtain ⟨gg4, y5⟩ : ∃ z, z = ((va_up (va_up (va_up (va_up (va_up g2 5 (.int 0)) 5 (.int 0)) 3 (.int 1)) 4 (.int 0)) 6 (.int 0)) : Nat → Value) := ⟨_, rfl⟩
  rw [← y5] at hP hD
  obtain ⟨gg6, y7⟩ : ∃ z, z = ((va_up (va_up (va_up (fun k => defaultValue (tyX7 k)) 0 (.ref (u1 1))) 1 (.ref (u1 2))) 2 (.ref (u1 3))) : Nat → Value) := ⟨_, rfl⟩
  rw [← y7] at hP hD
  refine lv_aload_n hx hb dX1_find_7 rfl (lv_at hl 0 rfl) ?_
  refine z_get (v := .ref a7) hx hb hg hown hK hP i_X1 rfl 0 rfl 1 (by decide) mt250 e25 dX1_find_8 ?_
  refine z_callv [(a7, zO 2 6 g7)] [(a0, zO 1 18 g0), (a8, zI K 10 f8), (a2, zO 3 7 gg4), (a1, zO 4 6 g1), (a3, zI K 8 f3), (a4, zO 4 6 g4), (a5, zI K 8 f5), (a6, zR K 512 (va_up f6 0 (some (u1 0)))), ((u1 0), zO 6 3 gg6), ((u1 1), zJ K 1400 (fun _ => 0)), ((u1 2), zJ K 1400 (fun _ => 0)), ((u1 3), zJ K 1400 (fun _ => 0))] [1] [0, 2, 3, 4, 5, 6, 7, 8, 9, 10, 11, 12] hP hD hS hA rfl rfl (by decide) (by decide) (by decide +kernel) 4 4203 rfl rfl (fun hPc hDc hF => z_runV (As := []) (rest := []) ⟨hx, hb, hml, hown, hg⟩ (cX2_clear_1 l K H.size a7 g7) kV_RX1_49 hd_X2_clear rfl rfl ⟨(Nat.le_of_ble_eq_true rfl), (Nat.le_of_ble_eq_true rfl)⟩ hK hS hZ hPc hDc hF 0 rfl rfl rfl hl.1 rfl (Nat.le_of_ble_eq_true rfl) dX1_find_11 ⟨(Nat.le_of_ble_eq_true rfl), (Nat.le_of_ble_eq_true rfl)⟩) (fun u8 H locs w9 hP hD hS => ?_)
  have hP : va_P K.1 classes [(a0, zO 1 18 g0), (a8, zI K 10 f8), (a2, zO 3 7 gg4), (a1, zO 4 6 g1), (a3, zI K 8 f3), (a4, zO 4 6 g4), (a5, zI K 8 f5), (a6, zR K 512 (va_up f6 0 (some (u1 0)))), ((u1 0), zO 6 3 gg6), ((u1 1), zJ K 1400 (fun _ => 0)), ((u1 2), zJ K 1400 (fun _ => 0)), ((u1 3), zJ K 1400 (fun _ => 0)), (a7, zO 2 6 (va_up g7 5 (.int 0)))] H := hP
  have hD : va_D A [(a0, zO 1 18 g0), (a8, zI K 10 f8), (a2, zO 3 7 gg4), (a1, zO 4 6 g1), (a3, zI K 8 f3), (a4, zO 4 6 g4), (a5, zI K 8 f5), (a6, zR K 512 (va_up f6 0 (some (u1 0)))), ((u1 0), zO 6 3 gg6), ((u1 1), zJ K 1400 (fun _ => 0)), ((u1 2), zJ K 1400 (fun _ => 0)), ((u1 3), zJ K 1400 (fun _ => 0)), (a7, zO 2 6 (va_up g7 5 (.int 0)))] := hD
  refine lv_aload_n hx hb dX1_find_14 rfl (lv_at hl 0 rfl) ?_
  refine z_get (v := .ref a8) hx hb hg hown hK hP i_X1 rfl 0 rfl 2 (by decide) mt251 e26 dX1_find_15 ?_
  refine lv_iconst (v := 0) hx hb dX1_find_18 (by decide) ?_
  refine z_callv [(a8, zI K 10 f8)] [(a0, zO 1 18 g0), (a2, zO 3 7 gg4), (a1, zO 4 6 g1), (a3, zI K 8 f3), (a4, zO 4 6 g4), (a5, zI K 8 f5), (a6, zR K 512 (va_up f6 0 (some (u1 0)))), ((u1 0), zO 6 3 gg6), ((u1 1), zJ K 1400 (fun _ => 0)), ((u1 2), zJ K 1400 (fun _ => 0)), ((u1 3), zJ K 1400 (fun _ => 0)), (a7, zO 2 6 (va_up g7 5 (.int 0)))] [1] [0, 2, 3, 4, 5, 6, 7, 8, 9, 10, 11, 12] hP hD hS hA rfl rfl (by decide) (by decide) (by decide +kernel) 4 4203 rfl rfl (fun hPc hDc hF => z_runS (As := [.ref a8, .int 0]) (rest := []) ⟨hx, hb, hml, hown, hg⟩ (cJ7_fill_53178_1 l K H.size a8 f8) kS_RX1_52 hd_J7_fill_53178 rfl rfl ⟨(Nat.le_of_ble_eq_true rfl), (Nat.le_of_ble_eq_true rfl)⟩ hK hS hZ hPc hDc hF rfl hl.1 rfl (Nat.le_of_ble_eq_true rfl) dX1_find_19 ⟨(Nat.le_of_ble_eq_true rfl), (Nat.le_of_ble_eq_true rfl)⟩) (fun u11 H locs w12 hP hD hS => ?_)
  have hP : va_P K.1 classes [(a0, zO 1 18 g0), (a2, zO 3 7 gg4), (a1, zO 4 6 g1), (a3, zI K 8 f3), (a4, zO 4 6 g4), (a5, zI K 8 f5), (a6, zR K 512 (va_up f6 0 (some (u1 0)))), ((u1 0), zO 6 3 gg6), ((u1 1), zJ K 1400 (fun _ => 0)), ((u1 2), zJ K 1400 (fun _ => 0)), ((u1 3), zJ K 1400 (fun _ => 0)), (a7, zO 2 6 (va_up g7 5 (.int 0))), (a8, zI K 10 (va_up (va_up (va_up (va_up (va_up (va_up (va_up (va_up (va_up (va_up f8 0 0) 1 0) 2 0) 3 0) 4 0) 5 0) 6 0) 7 0) 8 0) 9 0))] H := hP
  have hD : va_D A [(a0, zO 1 18 g0), (a2, zO 3 7 gg4), (a1, zO 4 6 g1), (a3, zI K 8 f3), (a4, zO 4 6 g4), (a5, zI K 8 f5), (a6, zR K 512 (va_up f6 0 (some (u1 0)))), ((u1 0), zO 6 3 gg6), ((u1 1), zJ K 1400 (fun _ => 0)), ((u1 2), zJ K 1400 (fun _ => 0)), ((u1 3), zJ K 1400 (fun _ => 0)), (a7, zO 2 6 (va_up g7 5 (.int 0))), (a8, zI K 10 (va_up (va_up (va_up (va_up (va_up (va_up (va_up (va_up (va_up (va_up f8 0 0) 1 0) 2 0) 3 0) 4 0) 5 0) 6 0) 7 0) 8 0) 9 0))] := hD
  obtain ⟨ff14, y15⟩ : ∃ z, z = ((va_up (va_up (va_up (va_up (va_up (va_up (va_up (va_up (va_up (va_up f8 0 0) 1 0) 2 0) 3 0) 4 0) 5 0) 6 0) 7 0) 8 0) 9 0) : Nat → Int32) := ⟨_, rfl⟩
  rw [← y15] at hP hD
  refine lv_aload_n hx hb dX1_find_22 rfl (lv_at hl 0 rfl) ?_
  refine lv_aload_n hx hb dX1_find_23 rfl (lv_at hl 1 rfl) ?_
  refine z_put hx hb hg hown hK hP hD hS i_X1 rfl tyX1_ok nmX1 0 rfl 6 (by decide) mt255 rfl rfl rfl dX1_find_24 (fun gg16 H locs y17 hP hD hS => ?_)
  have hP : va_P K.1 classes [(a0, zO 1 18 gg16), (a2, zO 3 7 gg4), (a1, zO 4 6 g1), (a3, zI K 8 f3), (a4, zO 4 6 g4), (a5, zI K 8 f5), (a6, zR K 512 (va_up f6 0 (some (u1 0)))), ((u1 0), zO 6 3 gg6), ((u1 1), zJ K 1400 (fun _ => 0)), ((u1 2), zJ K 1400 (fun _ => 0)), ((u1 3), zJ K 1400 (fun _ => 0)), (a7, zO 2 6 (va_up g7 5 (.int 0))), (a8, zI K 10 ff14)] H := hP
  have hD : va_D A [(a0, zO 1 18 gg16), (a2, zO 3 7 gg4), (a1, zO 4 6 g1), (a3, zI K 8 f3), (a4, zO 4 6 g4), (a5, zI K 8 f5), (a6, zR K 512 (va_up f6 0 (some (u1 0)))), ((u1 0), zO 6 3 gg6), ((u1 1), zJ K 1400 (fun _ => 0)), ((u1 2), zJ K 1400 (fun _ => 0)), ((u1 3), zJ K 1400 (fun _ => 0)), (a7, zO 2 6 (va_up g7 5 (.int 0))), (a8, zI K 10 ff14)] := hD
  refine lv_aload_n hx hb dX1_find_27 rfl (lv_at hl 0 rfl) ?_
  refine lv_iload_n hx hb dX1_find_28 rfl (lv_at hl 3 rfl) ?_
  refine z_put hx hb hg hown hK hP hD hS i_X1 rfl tyX1_ok nmX1 0 rfl 7 (by decide) mt256 rfl rfl rfl dX1_find_29 (fun gg18 H locs y19 hP hD hS => ?_)
  have hP : va_P K.1 classes [(a0, zO 1 18 gg18), (a2, zO 3 7 gg4), (a1, zO 4 6 g1), (a3, zI K 8 f3), (a4, zO 4 6 g4), (a5, zI K 8 f5), (a6, zR K 512 (va_up f6 0 (some (u1 0)))), ((u1 0), zO 6 3 gg6), ((u1 1), zJ K 1400 (fun _ => 0)), ((u1 2), zJ K 1400 (fun _ => 0)), ((u1 3), zJ K 1400 (fun _ => 0)), (a7, zO 2 6 (va_up g7 5 (.int 0))), (a8, zI K 10 ff14)] H := hP
  have hD : va_D A [(a0, zO 1 18 gg18), (a2, zO 3 7 gg4), (a1, zO 4 6 g1), (a3, zI K 8 f3), (a4, zO 4 6 g4), (a5, zI K 8 f5), (a6, zR K 512 (va_up f6 0 (some (u1 0)))), ((u1 0), zO 6 3 gg6), ((u1 1), zJ K 1400 (fun _ => 0)), ((u1 2), zJ K 1400 (fun _ => 0)), ((u1 3), zJ K 1400 (fun _ => 0)), (a7, zO 2 6 (va_up g7 5 (.int 0))), (a8, zI K 10 ff14)] := hD
  refine lv_aload_n hx hb dX1_find_32 rfl (lv_at hl 0 rfl) ?_
  refine lv_iload hx hb dX1_find_33 (lv_at hl 4 rfl) ?_
  refine z_put hx hb hg hown hK hP hD hS i_X1 rfl tyX1_ok nmX1 0 rfl 9 (by decide) mt258 rfl rfl rfl dX1_find_35 (fun gg20 H locs y21 hP hD hS => ?_)
  have hP : va_P K.1 classes [(a0, zO 1 18 gg20), (a2, zO 3 7 gg4), (a1, zO 4 6 g1), (a3, zI K 8 f3), (a4, zO 4 6 g4), (a5, zI K 8 f5), (a6, zR K 512 (va_up f6 0 (some (u1 0)))), ((u1 0), zO 6 3 gg6), ((u1 1), zJ K 1400 (fun _ => 0)), ((u1 2), zJ K 1400 (fun _ => 0)), ((u1 3), zJ K 1400 (fun _ => 0)), (a7, zO 2 6 (va_up g7 5 (.int 0))), (a8, zI K 10 ff14)] H := hP
  have hD : va_D A [(a0, zO 1 18 gg20), (a2, zO 3 7 gg4), (a1, zO 4 6 g1), (a3, zI K 8 f3), (a4, zO 4 6 g4), (a5, zI K 8 f5), (a6, zR K 512 (va_up f6 0 (some (u1 0)))), ((u1 0), zO 6 3 gg6), ((u1 1), zJ K 1400 (fun _ => 0)), ((u1 2), zJ K 1400 (fun _ => 0)), ((u1 3), zJ K 1400 (fun _ => 0)), (a7, zO 2 6 (va_up g7 5 (.int 0))), (a8, zI K 10 ff14)] := hD
  refine lv_aload_n hx hb dX1_find_38 rfl (lv_at hl 0 rfl) ?_
  refine lv_iconst (v := 0) hx hb dX1_find_39 (by decide) ?_
  refine z_put hx hb hg hown hK hP hD hS i_X1 rfl tyX1_ok nmX1 0 rfl 4 (by decide) mt253 rfl rfl rfl dX1_find_40 (fun gg22 H locs y23 hP hD hS => ?_)
  have hP : va_P K.1 classes [(a0, zO 1 18 gg22), (a2, zO 3 7 gg4), (a1, zO 4 6 g1), (a3, zI K 8 f3), (a4, zO 4 6 g4), (a5, zI K 8 f5), (a6, zR K 512 (va_up f6 0 (some (u1 0)))), ((u1 0), zO 6 3 gg6), ((u1 1), zJ K 1400 (fun _ => 0)), ((u1 2), zJ K 1400 (fun _ => 0)), ((u1 3), zJ K 1400 (fun _ => 0)), (a7, zO 2 6 (va_up g7 5 (.int 0))), (a8, zI K 10 ff14)] H := hP
  have hD : va_D A [(a0, zO 1 18 gg22), (a2, zO 3 7 gg4), (a1, zO 4 6 g1), (a3, zI K 8 f3), (a4, zO 4 6 g4), (a5, zI K 8 f5), (a6, zR K 512 (va_up f6 0 (some (u1 0)))), ((u1 0), zO 6 3 gg6), ((u1 1), zJ K 1400 (fun _ => 0)), ((u1 2), zJ K 1400 (fun _ => 0)), ((u1 3), zJ K 1400 (fun _ => 0)), (a7, zO 2 6 (va_up g7 5 (.int 0))), (a8, zI K 10 ff14)] := hD
  refine lv_aload_n hx hb dX1_find_43 rfl (lv_at hl 0 rfl) ?_
  refine lv_iconst (v := 0) hx hb dX1_find_44 (by decide) ?_
  refine z_put hx hb hg hown hK hP hD hS i_X1 rfl tyX1_ok nmX1 0 rfl 5 (by decide) mt254 rfl rfl rfl dX1_find_45 (fun gg24 H locs y25 hP hD hS => ?_)
  have hP : va_P K.1 classes [(a0, zO 1 18 gg24), (a2, zO 3 7 gg4), (a1, zO 4 6 g1), (a3, zI K 8 f3), (a4, zO 4 6 g4), (a5, zI K 8 f5), (a6, zR K 512 (va_up f6 0 (some (u1 0)))), ((u1 0), zO 6 3 gg6), ((u1 1), zJ K 1400 (fun _ => 0)), ((u1 2), zJ K 1400 (fun _ => 0)), ((u1 3), zJ K 1400 (fun _ => 0)), (a7, zO 2 6 (va_up g7 5 (.int 0))), (a8, zI K 10 ff14)] H := hP
  have hD : va_D A [(a0, zO 1 18 gg24), (a2, zO 3 7 gg4), (a1, zO 4 6 g1), (a3, zI K 8 f3), (a4, zO 4 6 g4), (a5, zI K 8 f5), (a6, zR K 512 (va_up f6 0 (some (u1 0)))), ((u1 0), zO 6 3 gg6), ((u1 1), zJ K 1400 (fun _ => 0)), ((u1 2), zJ K 1400 (fun _ => 0)), ((u1 3), zJ K 1400 (fun _ => 0)), (a7, zO 2 6 (va_up g7 5 (.int 0))), (a8, zI K 10 ff14)] := hD
  refine lv_aload_n hx hb dX1_find_48 rfl (lv_at hl 0 rfl) ?_
  refine lv_iconst (v := 0) hx hb dX1_find_49 (by decide) ?_
  refine z_put hx hb hg hown hK hP hD hS i_X1 rfl tyX1_ok nmX1 0 rfl 8 (by decide) mt257 rfl rfl rfl dX1_find_50 (fun gg26 H locs y27 hP hD hS => ?_)
  have hP : va_P K.1 classes [(a0, zO 1 18 gg26), (a2, zO 3 7 gg4), (a1, zO 4 6 g1), (a3, zI K 8 f3), (a4, zO 4 6 g4), (a5, zI K 8 f5), (a6, zR K 512 (va_up f6 0 (some (u1 0)))), ((u1 0), zO 6 3 gg6), ((u1 1), zJ K 1400 (fun _ => 0)), ((u1 2), zJ K 1400 (fun _ => 0)), ((u1 3), zJ K 1400 (fun _ => 0)), (a7, zO 2 6 (va_up g7 5 (.int 0))), (a8, zI K 10 ff14)] H := hP
  have hD : va_D A [(a0, zO 1 18 gg26), (a2, zO 3 7 gg4), (a1, zO 4 6 g1), (a3, zI K 8 f3), (a4, zO 4 6 g4), (a5, zI K 8 f5), (a6, zR K 512 (va_up f6 0 (some (u1 0)))), ((u1 0), zO 6 3 gg6), ((u1 1), zJ K 1400 (fun _ => 0)), ((u1 2), zJ K 1400 (fun _ => 0)), ((u1 3), zJ K 1400 (fun _ => 0)), (a7, zO 2 6 (va_up g7 5 (.int 0))), (a8, zI K 10 ff14)] := hD
  refine lv_aload_n hx hb dX1_find_53 rfl (lv_at hl 0 rfl) ?_
  refine lv_iconst (v := 0) hx hb dX1_find_54 (by decide) ?_
  refine z_put hx hb hg hown hK hP hD hS i_X1 rfl tyX1_ok nmX1 0 rfl 10 (by decide) mt259 rfl rfl rfl dX1_find_55 (fun gg28 H locs y29 hP hD hS => ?_)
  have hP : va_P K.1 classes [(a0, zO 1 18 gg28), (a2, zO 3 7 gg4), (a1, zO 4 6 g1), (a3, zI K 8 f3), (a4, zO 4 6 g4), (a5, zI K 8 f5), (a6, zR K 512 (va_up f6 0 (some (u1 0)))), ((u1 0), zO 6 3 gg6), ((u1 1), zJ K 1400 (fun _ => 0)), ((u1 2), zJ K 1400 (fun _ => 0)), ((u1 3), zJ K 1400 (fun _ => 0)), (a7, zO 2 6 (va_up g7 5 (.int 0))), (a8, zI K 10 ff14)] H := hP
  have hD : va_D A [(a0, zO 1 18 gg28), (a2, zO 3 7 gg4), (a1, zO 4 6 g1), (a3, zI K 8 f3), (a4, zO 4 6 g4), (a5, zI K 8 f5), (a6, zR K 512 (va_up f6 0 (some (u1 0)))), ((u1 0), zO 6 3 gg6), ((u1 1), zJ K 1400 (fun _ => 0)), ((u1 2), zJ K 1400 (fun _ => 0)), ((u1 3), zJ K 1400 (fun _ => 0)), (a7, zO 2 6 (va_up g7 5 (.int 0))), (a8, zI K 10 ff14)] := hD
  refine lv_aload_n hx hb dX1_find_58 rfl (lv_at hl 0 rfl) ?_
  refine lv_iconst (v := (-1)) hx hb dX1_find_59 (by decide) ?_
  refine z_put hx hb hg hown hK hP hD hS i_X1 rfl tyX1_ok nmX1 0 rfl 13 (by decide) mt262 rfl rfl rfl dX1_find_60 (fun gg30 H locs y31 hP hD hS => ?_)
  have hP : va_P K.1 classes [(a0, zO 1 18 gg30), (a2, zO 3 7 gg4), (a1, zO 4 6 g1), (a3, zI K 8 f3), (a4, zO 4 6 g4), (a5, zI K 8 f5), (a6, zR K 512 (va_up f6 0 (some (u1 0)))), ((u1 0), zO 6 3 gg6), ((u1 1), zJ K 1400 (fun _ => 0)), ((u1 2), zJ K 1400 (fun _ => 0)), ((u1 3), zJ K 1400 (fun _ => 0)), (a7, zO 2 6 (va_up g7 5 (.int 0))), (a8, zI K 10 ff14)] H := hP
  have hD : va_D A [(a0, zO 1 18 gg30), (a2, zO 3 7 gg4), (a1, zO 4 6 g1), (a3, zI K 8 f3), (a4, zO 4 6 g4), (a5, zI K 8 f5), (a6, zR K 512 (va_up f6 0 (some (u1 0)))), ((u1 0), zO 6 3 gg6), ((u1 1), zJ K 1400 (fun _ => 0)), ((u1 2), zJ K 1400 (fun _ => 0)), ((u1 3), zJ K 1400 (fun _ => 0)), (a7, zO 2 6 (va_up g7 5 (.int 0))), (a8, zI K 10 ff14)] := hD
  refine lv_aload_n hx hb dX1_find_63 rfl (lv_at hl 0 rfl) ?_
  refine lv_iconst (v := 0) hx hb dX1_find_64 (by decide) ?_
  refine z_put hx hb hg hown hK hP hD hS i_X1 rfl tyX1_ok nmX1 0 rfl 14 (by decide) mt263 rfl rfl rfl dX1_find_65 (fun gg32 H locs y33 hP hD hS => ?_)
  have hP : va_P K.1 classes [(a0, zO 1 18 gg32), (a2, zO 3 7 gg4), (a1, zO 4 6 g1), (a3, zI K 8 f3), (a4, zO 4 6 g4), (a5, zI K 8 f5), (a6, zR K 512 (va_up f6 0 (some (u1 0)))), ((u1 0), zO 6 3 gg6), ((u1 1), zJ K 1400 (fun _ => 0)), ((u1 2), zJ K 1400 (fun _ => 0)), ((u1 3), zJ K 1400 (fun _ => 0)), (a7, zO 2 6 (va_up g7 5 (.int 0))), (a8, zI K 10 ff14)] H := hP
  have hD : va_D A [(a0, zO 1 18 gg32), (a2, zO 3 7 gg4), (a1, zO 4 6 g1), (a3, zI K 8 f3), (a4, zO 4 6 g4), (a5, zI K 8 f5), (a6, zR K 512 (va_up f6 0 (some (u1 0)))), ((u1 0), zO 6 3 gg6), ((u1 1), zJ K 1400 (fun _ => 0)), ((u1 2), zJ K 1400 (fun _ => 0)), ((u1 3), zJ K 1400 (fun _ => 0)), (a7, zO 2 6 (va_up g7 5 (.int 0))), (a8, zI K 10 ff14)] := hD
  refine lv_aload_n hx hb dX1_find_68 rfl (lv_at hl 0 rfl) ?_
  refine lv_bipush (v := 6) hx hb dX1_find_69 (by decide) ?_
  refine z_put hx hb hg hown hK hP hD hS i_X1 rfl tyX1_ok nmX1 0 rfl 16 (by decide) mt265 rfl rfl rfl dX1_find_71 (fun gg34 H locs y35 hP hD hS => ?_)
  have hP : va_P K.1 classes [(a0, zO 1 18 gg34), (a2, zO 3 7 gg4), (a1, zO 4 6 g1), (a3, zI K 8 f3), (a4, zO 4 6 g4), (a5, zI K 8 f5), (a6, zR K 512 (va_up f6 0 (some (u1 0)))), ((u1 0), zO 6 3 gg6), ((u1 1), zJ K 1400 (fun _ => 0)), ((u1 2), zJ K 1400 (fun _ => 0)), ((u1 3), zJ K 1400 (fun _ => 0)), (a7, zO 2 6 (va_up g7 5 (.int 0))), (a8, zI K 10 ff14)] H := hP
  have hD : va_D A [(a0, zO 1 18 gg34), (a2, zO 3 7 gg4), (a1, zO 4 6 g1), (a3, zI K 8 f3), (a4, zO 4 6 g4), (a5, zI K 8 f5), (a6, zR K 512 (va_up f6 0 (some (u1 0)))), ((u1 0), zO 6 3 gg6), ((u1 1), zJ K 1400 (fun _ => 0)), ((u1 2), zJ K 1400 (fun _ => 0)), ((u1 3), zJ K 1400 (fun _ => 0)), (a7, zO 2 6 (va_up g7 5 (.int 0))), (a8, zI K 10 ff14)] := hD
  refine lv_aload_n hx hb dX1_find_74 rfl (lv_at hl 0 rfl) ?_
  refine lv_iconst (v := 0) hx hb dX1_find_75 (by decide) ?_
  refine z_put hx hb hg hown hK hP hD hS i_X1 rfl tyX1_ok nmX1 0 rfl 17 (by decide) mt266 rfl rfl rfl dX1_find_76 (fun gg36 H locs y37 hP hD hS => ?_)
  have hP : va_P K.1 classes [(a0, zO 1 18 gg36), (a2, zO 3 7 gg4), (a1, zO 4 6 g1), (a3, zI K 8 f3), (a4, zO 4 6 g4), (a5, zI K 8 f5), (a6, zR K 512 (va_up f6 0 (some (u1 0)))), ((u1 0), zO 6 3 gg6), ((u1 1), zJ K 1400 (fun _ => 0)), ((u1 2), zJ K 1400 (fun _ => 0)), ((u1 3), zJ K 1400 (fun _ => 0)), (a7, zO 2 6 (va_up g7 5 (.int 0))), (a8, zI K 10 ff14)] H := hP
  have hD : va_D A [(a0, zO 1 18 gg36), (a2, zO 3 7 gg4), (a1, zO 4 6 g1), (a3, zI K 8 f3), (a4, zO 4 6 g4), (a5, zI K 8 f5), (a6, zR K 512 (va_up f6 0 (some (u1 0)))), ((u1 0), zO 6 3 gg6), ((u1 1), zJ K 1400 (fun _ => 0)), ((u1 2), zJ K 1400 (fun _ => 0)), ((u1 3), zJ K 1400 (fun _ => 0)), (a7, zO 2 6 (va_up g7 5 (.int 0))), (a8, zI K 10 ff14)] := hD
  refine lv_aload_n hx hb dX1_find_79 rfl (lv_at hl 0 rfl) ?_
  refine lv_iload_n hx hb dX1_find_80 rfl (lv_at hl 2 rfl) ?_
  refine z_callv [(a0, zO 1 18 gg36)] [(a2, zO 3 7 gg4), (a1, zO 4 6 g1), (a3, zI K 8 f3), (a4, zO 4 6 g4), (a5, zI K 8 f5), (a6, zR K 512 (va_up f6 0 (some (u1 0)))), ((u1 0), zO 6 3 gg6), ((u1 1), zJ K 1400 (fun _ => 0)), ((u1 2), zJ K 1400 (fun _ => 0)), ((u1 3), zJ K 1400 (fun _ => 0)), (a7, zO 2 6 (va_up g7 5 (.int 0))), (a8, zI K 10 ff14)] [0] [1, 2, 3, 4, 5, 6, 7, 8, 9, 10, 11, 12] hP hD hS hA rfl rfl (by decide) (by decide) (by decide +kernel) 4 4203 rfl rfl (fun hPc hDc hF => z_runV (As := [.int 644]) (rest := []) ⟨hx, hb, hml, hown, hg⟩ (cX1_goTo_5 l K H.size a0 gg36) kV_RX1_86 hd_X1_goTo rfl rfl ⟨(Nat.le_of_ble_eq_true rfl), (Nat.le_of_ble_eq_true rfl)⟩ hK hS hZ hPc hDc hF 0 rfl rfl rfl hl.1 rfl (Nat.le_of_ble_eq_true rfl) dX1_find_81 ⟨(Nat.le_of_ble_eq_true rfl), (Nat.le_of_ble_eq_true rfl)⟩) (fun u38 H locs w39 hP hD hS => ?_)
  have hP : va_P K.1 classes [(a2, zO 3 7 gg4), (a1, zO 4 6 g1), (a3, zI K 8 f3), (a4, zO 4 6 g4), (a5, zI K 8 f5), (a6, zR K 512 (va_up f6 0 (some (u1 0)))), ((u1 0), zO 6 3 gg6), ((u1 1), zJ K 1400 (fun _ => 0)), ((u1 2), zJ K 1400 (fun _ => 0)), ((u1 3), zJ K 1400 (fun _ => 0)), (a7, zO 2 6 (va_up g7 5 (.int 0))), (a8, zI K 10 ff14), (a0, zO 1 18 (va_up (va_up gg36 12 (.int 644)) 11 (.int 0)))] H := hP
  have hD : va_D A [(a2, zO 3 7 gg4), (a1, zO 4 6 g1), (a3, zI K 8 f3), (a4, zO 4 6 g4), (a5, zI K 8 f5), (a6, zR K 512 (va_up f6 0 (some (u1 0)))), ((u1 0), zO 6 3 gg6), ((u1 1), zJ K 1400 (fun _ => 0)), ((u1 2), zJ K 1400 (fun _ => 0)), ((u1 3), zJ K 1400 (fun _ => 0)), (a7, zO 2 6 (va_up g7 5 (.int 0))), (a8, zI K 10 ff14), (a0, zO 1 18 (va_up (va_up gg36 12 (.int 644)) 11 (.int 0)))] := hD
  obtain ⟨gg41, y42⟩ : ∃ z, z = ((va_up (va_up gg36 12 (.int 644)) 11 (.int 0)) : Nat → Value) := ⟨_, rfl⟩
  rw [← y42] at hP hD
  refine lv_iconst (v := 0) hx hb dX1_find_84 (by decide) ?_
  refine lv_istore (lv' := [(5, .int 0), (0, .ref a0), (1, .ref a1), (2, .int 644), (3, .int 1), (4, .int 1)]) hx hb dX1_find_85 hl (by decide) rfl (fun ls hl => ?_)
  refine lv_iload hx hb dX1_find_87 (lv_at hl 0 rfl) ?_
  refine lv_ldc (v := 1000000) hx hb hown (hg _ mt961) dX1_find_89 ?_
  refine lv_icmp_ge (tgt := 189) hx hb dX1_find_91 (by decide) (fun c => absurd c (by decide)) (fun _ => ?_)
  refine lv_aload_n hx hb dX1_find_94 rfl (lv_at hl 1 rfl) ?_
  refine z_get (v := .int 0) hx hb hg hown hK hP i_X1 rfl 12 rfl 11 (by decide) mt260 (zu_of y42 zu_eq) dX1_find_95 ?_
  refine lv_bipush (v := 6) hx hb dX1_find_98 (by decide) ?_
  refine lv_icmp_eq (tgt := 189) hx hb dX1_find_100 (by decide) (fun c => absurd c (by decide)) (fun _ => ?_)
  refine lv_aload_n hx hb dX1_find_103 rfl (lv_at hl 1 rfl) ?_
  refine z_get (v := .int 0) hx hb hg hown hK hP i_X1 rfl 12 rfl 11 (by decide) mt260 (zu_of y42 zu_eq) dX1_find_104 ?_
  refine lv_tableIn (off := 33) (tgt := 140) hx hb dX1_find_107 (by decide) (by decide) (by decide) (by decide) ?_
  refine lv_aload_n hx hb dX1_find_140 rfl (lv_at hl 1 rfl) ?_
  refine z_callv [(a0, zO 1 18 gg41)] [(a2, zO 3 7 gg4), (a1, zO 4 6 g1), (a3, zI K 8 f3), (a4, zO 4 6 g4), (a5, zI K 8 f5), (a6, zR K 512 (va_up f6 0 (some (u1 0)))), ((u1 0), zO 6 3 gg6), ((u1 1), zJ K 1400 (fun _ => 0)), ((u1 2), zJ K 1400 (fun _ => 0)), ((u1 3), zJ K 1400 (fun _ => 0)), (a7, zO 2 6 (va_up g7 5 (.int 0))), (a8, zI K 10 ff14)] [12] [0, 1, 2, 3, 4, 5, 6, 7, 8, 9, 10, 11] hP hD hS hA rfl rfl (by decide) (by decide) (by decide +kernel) 4 4203 rfl rfl (fun hPc hDc hF => z_runV (As := []) (rest := []) ⟨hx, hb, hml, hown, hg⟩ (cX1_step_1 l K H.size a0 gg41 (zu_of y42 (zu_ne (by decide) (zu_ne (by decide) (zu_of y37 (zu_ne (by decide) (zu_of y35 (zu_ne (by decide) (zu_of y33 (zu_ne (by decide) (zu_of y31 (zu_ne (by decide) (zu_of y29 zu_eq)))))))))))) (zu_of y42 (zu_ne (by decide) (zu_ne (by decide) (zu_of y37 (zu_ne (by decide) (zu_of y35 (zu_ne (by decide) (zu_of y33 (zu_ne (by decide) (zu_of y31 (zu_ne (by decide) (zu_of y29 (zu_ne (by decide) (zu_of y27 zu_eq)))))))))))))) (zu_of y42 (zu_ne (by decide) (zu_ne (by decide) (zu_of y37 (zu_ne (by decide) (zu_of y35 (zu_ne (by decide) (zu_of y33 (zu_ne (by decide) (zu_of y31 (zu_ne (by decide) (zu_of y29 (zu_ne (by decide) (zu_of y27 (zu_ne (by decide) (zu_of y25 (zu_ne (by decide) (zu_of y23 (zu_ne (by decide) (zu_of y21 zu_eq))))))))))))))))))))) kV_RX1_91 hd_X1_step rfl rfl ⟨(Nat.le_of_ble_eq_true rfl), (Nat.le_of_ble_eq_true rfl)⟩ hK hS hZ hPc hDc hF 0 rfl rfl rfl hl.1 rfl (Nat.le_of_ble_eq_true rfl) dX1_find_141 ⟨(Nat.le_of_ble_eq_true rfl), (Nat.le_of_ble_eq_true rfl)⟩) (fun u43 H locs w44 hP hD hS => ?_)
  have hP : va_P K.1 classes [(a2, zO 3 7 gg4), (a1, zO 4 6 g1), (a3, zI K 8 f3), (a4, zO 4 6 g4), (a5, zI K 8 f5), (a6, zR K 512 (va_up f6 0 (some (u1 0)))), ((u1 0), zO 6 3 gg6), ((u1 1), zJ K 1400 (fun _ => 0)), ((u1 2), zJ K 1400 (fun _ => 0)), ((u1 3), zJ K 1400 (fun _ => 0)), (a7, zO 2 6 (va_up g7 5 (.int 0))), (a8, zI K 10 ff14), (a0, zO 1 18 (va_up (va_up gg41 16 (.int 7)) 11 (.int 4)))] H := hP
  have hD : va_D A [(a2, zO 3 7 gg4), (a1, zO 4 6 g1), (a3, zI K 8 f3), (a4, zO 4 6 g4), (a5, zI K 8 f5), (a6, zR K 512 (va_up f6 0 (some (u1 0)))), ((u1 0), zO 6 3 gg6), ((u1 1), zJ K 1400 (fun _ => 0)), ((u1 2), zJ K 1400 (fun _ => 0)), ((u1 3), zJ K 1400 (fun _ => 0)), (a7, zO 2 6 (va_up g7 5 (.int 0))), (a8, zI K 10 ff14), (a0, zO 1 18 (va_up (va_up gg41 16 (.int 7)) 11 (.int 4)))] := hD
  obtain ⟨gg46, y47⟩ : ∃ z, z = ((va_up (va_up gg41 16 (.int 7)) 11 (.int 4)) : Nat → Value) := ⟨_, rfl⟩
  rw [← y47] at hP hD
  refine lv_goto (tgt := 183) hx hb dX1_find_144 (by decide) ?_
  refine lv_iinc (v := 1) (lv' := [(5, .int 1), (0, .ref a0), (1, .ref a1), (2, .int 644), (3, .int 1), (4, .int 1)]) hx hb dX1_find_183 hl (k := 0) rfl (by decide +kernel) (by decide) rfl (fun ls hl => ?_)
  refine lv_goto (tgt := 87) hx hb dX1_find_186 (by decide) ?_
  refine lv_iload hx hb dX1_find_87 (lv_at hl 0 rfl) ?_
  refine lv_ldc (v := 1000000) hx hb hown (hg _ mt961) dX1_find_89 ?_
  refine lv_icmp_ge (tgt := 189) hx hb dX1_find_91 (by decide) (fun c => absurd c (by decide)) (fun _ => ?_)
  refine lv_aload_n hx hb dX1_find_94 rfl (lv_at hl 1 rfl) ?_
  refine z_get (v := .int 4) hx hb hg hown hK hP i_X1 rfl 12 rfl 11 (by decide) mt260 (zu_of y47 zu_eq) dX1_find_95 ?_
  refine lv_bipush (v := 6) hx hb dX1_find_98 (by decide) ?_
  refine lv_icmp_eq (tgt := 189) hx hb dX1_find_100 (by decide) (fun c => absurd c (by decide)) (fun _ => ?_)
  refine lv_aload_n hx hb dX1_find_103 rfl (lv_at hl 1 rfl) ?_
  refine z_get (v := .int 4) hx hb hg hown hK hP i_X1 rfl 12 rfl 11 (by decide) mt260 (zu_of y47 zu_eq) dX1_find_104 ?_
  refine lv_tableIn (off := 65) (tgt := 172) hx hb dX1_find_107 (by decide) (by decide) (by decide) (by decide) ?_
  refine lv_aload_n hx hb dX1_find_172 rfl (lv_at hl 1 rfl) ?_
  refine z_callv [(a0, zO 1 18 gg46), (a7, zO 2 6 (va_up g7 5 (.int 0)))] [(a2, zO 3 7 gg4), (a1, zO 4 6 g1), (a3, zI K 8 f3), (a4, zO 4 6 g4), (a5, zI K 8 f5), (a6, zR K 512 (va_up f6 0 (some (u1 0)))), ((u1 0), zO 6 3 gg6), ((u1 1), zJ K 1400 (fun _ => 0)), ((u1 2), zJ K 1400 (fun _ => 0)), ((u1 3), zJ K 1400 (fun _ => 0)), (a8, zI K 10 ff14)] [12, 10] [0, 1, 2, 3, 4, 5, 6, 7, 8, 9, 11] hP hD hS hA rfl rfl (by decide) (by decide) (by decide +kernel) 4 4203 rfl rfl (fun hPc hDc hF => z_runV (As := []) (rest := []) ⟨hx, hb, hml, hown, hg⟩ (cX1_leave_1 l K H.size a0 a7 gg46 (va_up g7 5 (.int 0)) (zu_of y47 (zu_ne (by decide) (zu_ne (by decide) (zu_of y42 (zu_ne (by decide) (zu_ne (by decide) (zu_of y37 (zu_ne (by decide) (zu_of y35 (zu_ne (by decide) (zu_of y33 (zu_ne (by decide) (zu_of y31 (zu_ne (by decide) (zu_of y29 (zu_ne (by decide) (zu_of y27 (zu_ne (by decide) (zu_of y25 (zu_ne (by decide) (zu_of y23 (zu_ne (by decide) (zu_of y21 (zu_ne (by decide) (zu_of y19 (zu_ne (by decide) (zu_of y17 (zu_ne (by decide) e25)))))))))))))))))))))))))))) zu_eq) kV_RX1_108 hd_X1_leave rfl rfl ⟨(Nat.le_of_ble_eq_true rfl), (Nat.le_of_ble_eq_true rfl)⟩ hK hS hZ hPc hDc hF 0 rfl rfl rfl hl.1 rfl (Nat.le_of_ble_eq_true rfl) dX1_find_173 ⟨(Nat.le_of_ble_eq_true rfl), (Nat.le_of_ble_eq_true rfl)⟩) (fun u48 H locs w49 hP hD hS => ?_)
  have hP : va_P K.1 classes [(a2, zO 3 7 gg4), (a1, zO 4 6 g1), (a3, zI K 8 f3), (a4, zO 4 6 g4), (a5, zI K 8 f5), (a6, zR K 512 (va_up f6 0 (some (u1 0)))), ((u1 0), zO 6 3 gg6), ((u1 1), zJ K 1400 (fun _ => 0)), ((u1 2), zJ K 1400 (fun _ => 0)), ((u1 3), zJ K 1400 (fun _ => 0)), (a8, zI K 10 ff14), (a0, zO 1 18 (va_up gg46 11 (.int 5))), (a7, zO 2 6 (va_up g7 5 (.int 0)))] H := hP
  have hD : va_D A [(a2, zO 3 7 gg4), (a1, zO 4 6 g1), (a3, zI K 8 f3), (a4, zO 4 6 g4), (a5, zI K 8 f5), (a6, zR K 512 (va_up f6 0 (some (u1 0)))), ((u1 0), zO 6 3 gg6), ((u1 1), zJ K 1400 (fun _ => 0)), ((u1 2), zJ K 1400 (fun _ => 0)), ((u1 3), zJ K 1400 (fun _ => 0)), (a8, zI K 10 ff14), (a0, zO 1 18 (va_up gg46 11 (.int 5))), (a7, zO 2 6 (va_up g7 5 (.int 0)))] := hD
  refine lv_goto (tgt := 183) hx hb dX1_find_176 (by decide) ?_
  refine lv_iinc (v := 2) (lv' := [(5, .int 2), (0, .ref a0), (1, .ref a1), (2, .int 644), (3, .int 1), (4, .int 1)]) hx hb dX1_find_183 hl (k := 0) rfl (by decide +kernel) (by decide) rfl (fun ls hl => ?_)
  refine lv_goto (tgt := 87) hx hb dX1_find_186 (by decide) ?_
  refine lv_iload hx hb dX1_find_87 (lv_at hl 0 rfl) ?_
  refine lv_ldc (v := 1000000) hx hb hown (hg _ mt961) dX1_find_89 ?_
  refine lv_icmp_ge (tgt := 189) hx hb dX1_find_91 (by decide) (fun c => absurd c (by decide)) (fun _ => ?_)
  refine lv_aload_n hx hb dX1_find_94 rfl (lv_at hl 1 rfl) ?_
  refine z_get (v := .int 5) hx hb hg hown hK hP i_X1 rfl 11 rfl 11 (by decide) mt260 zu_eq dX1_find_95 ?_
  refine lv_bipush (v := 6) hx hb dX1_find_98 (by decide) ?_
  refine lv_icmp_eq (tgt := 189) hx hb dX1_find_100 (by decide) (fun c => absurd c (by decide)) (fun _ => ?_)
  refine lv_aload_n hx hb dX1_find_103 rfl (lv_at hl 1 rfl) ?_
  refine z_get (v := .int 5) hx hb hg hown hK hP i_X1 rfl 11 rfl 11 (by decide) mt260 zu_eq dX1_find_104 ?_
  refine lv_tableOut (tgt := 179) hx hb dX1_find_107 (by decide) (by decide) ?_
  refine lv_aload_n hx hb dX1_find_179 rfl (lv_at hl 1 rfl) ?_
  refine z_callv [(a0, zO 1 18 (va_up gg46 11 (.int 5)))] [(a2, zO 3 7 gg4), (a1, zO 4 6 g1), (a3, zI K 8 f3), (a4, zO 4 6 g4), (a5, zI K 8 f5), (a6, zR K 512 (va_up f6 0 (some (u1 0)))), ((u1 0), zO 6 3 gg6), ((u1 1), zJ K 1400 (fun _ => 0)), ((u1 2), zJ K 1400 (fun _ => 0)), ((u1 3), zJ K 1400 (fun _ => 0)), (a8, zI K 10 ff14), (a7, zO 2 6 (va_up g7 5 (.int 0)))] [11] [0, 1, 2, 3, 4, 5, 6, 7, 8, 9, 10, 12] hP hD hS hA rfl rfl (by decide) (by decide) (by decide +kernel) 4 4203 rfl rfl (fun hPc hDc hF => z_runV (As := []) (rest := []) ⟨hx, hb, hml, hown, hg⟩ (cX1_rest_1 l K H.size a0 (va_up gg46 11 (.int 5)) (zu_ne (by decide) (zu_of y47 (zu_ne (by decide) zu_eq)))) kV_RX1_111 hd_X1_rest rfl rfl ⟨(Nat.le_of_ble_eq_true rfl), (Nat.le_of_ble_eq_true rfl)⟩ hK hS hZ hPc hDc hF 0 rfl rfl rfl hl.1 rfl (Nat.le_of_ble_eq_true rfl) dX1_find_180 ⟨(Nat.le_of_ble_eq_true rfl), (Nat.le_of_ble_eq_true rfl)⟩) (fun u51 H locs w52 hP hD hS => ?_)
  have hP : va_P K.1 classes [(a2, zO 3 7 gg4), (a1, zO 4 6 g1), (a3, zI K 8 f3), (a4, zO 4 6 g4), (a5, zI K 8 f5), (a6, zR K 512 (va_up f6 0 (some (u1 0)))), ((u1 0), zO 6 3 gg6), ((u1 1), zJ K 1400 (fun _ => 0)), ((u1 2), zJ K 1400 (fun _ => 0)), ((u1 3), zJ K 1400 (fun _ => 0)), (a8, zI K 10 ff14), (a7, zO 2 6 (va_up g7 5 (.int 0))), (a0, zO 1 18 (va_up (va_up gg46 11 (.int 5)) 11 (.int 6)))] H := hP
  have hD : va_D A [(a2, zO 3 7 gg4), (a1, zO 4 6 g1), (a3, zI K 8 f3), (a4, zO 4 6 g4), (a5, zI K 8 f5), (a6, zR K 512 (va_up f6 0 (some (u1 0)))), ((u1 0), zO 6 3 gg6), ((u1 1), zJ K 1400 (fun _ => 0)), ((u1 2), zJ K 1400 (fun _ => 0)), ((u1 3), zJ K 1400 (fun _ => 0)), (a8, zI K 10 ff14), (a7, zO 2 6 (va_up g7 5 (.int 0))), (a0, zO 1 18 (va_up (va_up gg46 11 (.int 5)) 11 (.int 6)))] := hD
  obtain ⟨gg54, y55⟩ : ∃ z, z = ((va_up (va_up gg46 11 (.int 5)) 11 (.int 6)) : Nat → Value) := ⟨_, rfl⟩
  rw [← y55] at hP hD
  refine lv_iinc (v := 3) (lv' := [(5, .int 3), (0, .ref a0), (1, .ref a1), (2, .int 644), (3, .int 1), (4, .int 1)]) hx hb dX1_find_183 hl (k := 0) rfl (by decide +kernel) (by decide) rfl (fun ls hl => ?_)
  refine lv_goto (tgt := 87) hx hb dX1_find_186 (by decide) ?_
  refine lv_iload hx hb dX1_find_87 (lv_at hl 0 rfl) ?_
  refine lv_ldc (v := 1000000) hx hb hown (hg _ mt961) dX1_find_89 ?_
  refine lv_icmp_ge (tgt := 189) hx hb dX1_find_91 (by decide) (fun c => absurd c (by decide)) (fun _ => ?_)
  refine lv_aload_n hx hb dX1_find_94 rfl (lv_at hl 1 rfl) ?_
  refine z_get (v := .int 6) hx hb hg hown hK hP i_X1 rfl 12 rfl 11 (by decide) mt260 (zu_of y55 zu_eq) dX1_find_95 ?_
  refine lv_bipush (v := 6) hx hb dX1_find_98 (by decide) ?_
  refine lv_icmp_eq (tgt := 189) hx hb dX1_find_100 (by decide) (fun _ => ?_) (fun c => absurd (by decide) c)
  refine lv_aload_n hx hb dX1_find_189 rfl (lv_at hl 1 rfl) ?_
  refine z_get (v := .int 7) hx hb hg hown hK hP i_X1 rfl 12 rfl 16 (by decide) mt265 (zu_of y55 (zu_ne (by decide) (zu_ne (by decide) (zu_of y47 (zu_ne (by decide) zu_eq))))) dX1_find_190 ?_
  subst y55
  subst y47
  subst y42
  subst y37
  subst y35
  subst y33
  subst y31
  subst y29
  subst y27
  subst y25
  subst y23
  subst y21
  subst y19
  subst y17
  subst y15
  subst y7
  subst y5
  have hP9 : va_P K.1 classes [(a0, zO 1 18 (va_up (va_up (va_up (va_up (va_up (va_up (va_up (va_up (va_up (va_up (va_up (va_up (va_up (va_up (va_up (va_up (va_up g0 6 (.ref a1)) 7 (.int 1)) 9 (.int 1)) 4 (.int 0)) 5 (.int 0)) 8 (.int 0)) 10 (.int 0)) 13 (.int (-1))) 14 (.int 0)) 16 (.int 6)) 17 (.int 0)) 12 (.int 644)) 11 (.int 0)) 16 (.int 7)) 11 (.int 4)) 11 (.int 5)) 11 (.int 6))), (a2, zO 3 7 (va_up (va_up (va_up (va_up (va_up g2 5 (.int 0)) 5 (.int 0)) 3 (.int 1)) 4 (.int 0)) 6 (.int 0))), (a1, zO 4 6 g1), (a3, zI K 8 f3), (a4, zO 4 6 g4), (a5, zI K 8 f5), (a6, zR K 512 (va_up f6 0 (some (u1 0)))), (a7, zO 2 6 (va_up g7 5 (.int 0))), (a8, zI K 10 (va_up (va_up (va_up (va_up (va_up (va_up (va_up (va_up (va_up (va_up f8 0 0) 1 0) 2 0) 3 0) 4 0) 5 0) 6 0) 7 0) 8 0) 9 0)), ((u1 0), zO 6 3 (va_up (va_up (va_up (fun k => defaultValue (tyX7 k)) 0 (.ref (u1 1))) 1 (.ref (u1 2))) 2 (.ref (u1 3)))), ((u1 1), zJ K 1400 (fun _ => 0)), ((u1 2), zJ K 1400 (fun _ => 0)), ((u1 3), zJ K 1400 (fun _ => 0))] H := hP.sub [12, 0, 1, 2, 3, 4, 5, 11, 10, 6, 7, 8, 9] rfl
  have hD9 : va_D A [(a0, zO 1 18 (va_up (va_up (va_up (va_up (va_up (va_up (va_up (va_up (va_up (va_up (va_up (va_up (va_up (va_up (va_up (va_up (va_up g0 6 (.ref a1)) 7 (.int 1)) 9 (.int 1)) 4 (.int 0)) 5 (.int 0)) 8 (.int 0)) 10 (.int 0)) 13 (.int (-1))) 14 (.int 0)) 16 (.int 6)) 17 (.int 0)) 12 (.int 644)) 11 (.int 0)) 16 (.int 7)) 11 (.int 4)) 11 (.int 5)) 11 (.int 6))), (a2, zO 3 7 (va_up (va_up (va_up (va_up (va_up g2 5 (.int 0)) 5 (.int 0)) 3 (.int 1)) 4 (.int 0)) 6 (.int 0))), (a1, zO 4 6 g1), (a3, zI K 8 f3), (a4, zO 4 6 g4), (a5, zI K 8 f5), (a6, zR K 512 (va_up f6 0 (some (u1 0)))), (a7, zO 2 6 (va_up g7 5 (.int 0))), (a8, zI K 10 (va_up (va_up (va_up (va_up (va_up (va_up (va_up (va_up (va_up (va_up f8 0 0) 1 0) 2 0) 3 0) 4 0) 5 0) 6 0) 7 0) 8 0) 9 0)), ((u1 0), zO 6 3 (va_up (va_up (va_up (fun k => defaultValue (tyX7 k)) 0 (.ref (u1 1))) 1 (.ref (u1 2))) 2 (.ref (u1 3)))), ((u1 1), zJ K 1400 (fun _ => 0)), ((u1 2), zJ K 1400 (fun _ => 0)), ((u1 3), zJ K 1400 (fun _ => 0))] := hD.sub [12, 0, 1, 2, 3, 4, 5, 11, 10, 6, 7, 8, 9] (by decide) rfl
  exact z_iret hx hb hr (fun k => ([(u1 0), (u1 1), (u1 2), (u1 3)] : List Nat).getD k 0) rfl hP9 hD9 hS (Nat.le_of_ble_eq_true rfl) (Nat.le_of_ble_eq_true rfl) hlocks dX1_find_193
set_option maxHeartbeats 4000000 in
set_option maxRecDepth 100000 in
theorem cX11_run_10 (l : Launch) (K : zK) (sz : Nat) (a0 : Nat) (a1 : Nat) (a2 : Nat) (a3 : Nat) (a4 : Nat) (a5 : Nat) (a6 : Nat) (a7 : Nat) (a8 : Nat) (a9 : Nat) (a10 : Nat) (a11 : Nat) (a12 : Nat) (a13 : Nat) (a14 : Nat) (a15 : Nat) (g0 : Nat → Value) (g1 : Nat → Value) (g2 : Nat → Value) (f3 : Nat → Int32) (f4 : Nat → Int32) (f5 : Nat → Int32) (f6 : Nat → Int32) (f7 : Nat → Int32) (g8 : Nat → Value) (g9 : Nat → Value) (f10 : Nat → Int32) (g11 : Nat → Value) (f12 : Nat → Int32) (f13 : Nat → Option Nat) (g14 : Nat → Value) (f15 : Nat → Int32) (j0 : Nat) (hj0 : j0 < 8) (x1 : Int32) (x2 : Int32) (e0 : g0 3 = (.ref a1)) (e1 : g1 0 = (.ref a2)) (e2 : g2 5 = (.int 645)) (e3 : g2 0 = (.ref a3)) (e4 : g2 1 = (.ref a4)) (e5 : g2 2 = (.ref a5)) (e6 : g2 3 = (.ref a6)) (e7 : g2 4 = (.ref a7)) (e8 : g0 7 = (.ref a8)) (e9 : g8 0 = (.ref a9)) (e10 : g9 6 = (.int 0)) (e11 : g9 4 = (.int 0)) (e12 : g9 0 = (.ref a1)) (e13 : g1 2 = (.ref a10)) (e14 : f10 0 = 0) (e15 : f10 1 = 0) (e16 : f10 2 = 0) (e17 : f10 3 = 0) (e18 : f10 4 = 0) (e19 : f10 5 = 0) (e20 : f10 6 = 0) (e21 : f10 7 = 0) (e22 : g9 1 = (.ref a11)) (e23 : g11 2 = (.ref a12)) (e24 : f12 0 = 0) (e25 : f12 1 = 0) (e26 : f12 2 = 0) (e27 : f12 3 = 0) (e28 : f12 4 = 0) (e29 : f12 5 = 0) (e30 : f12 6 = 0) (e31 : f12 7 = 0) (e32 : g9 3 = (.int 0)) (e33 : g9 2 = (.ref a13)) (e34 : g8 1 = (.ref a14)) (e35 : g8 2 = (.ref a15)) : Met l yX11_run (Cond.code yX11_run cX11_run 9 (some .int) :: WG) { frames := 5, cells := 4, slots := 4203, locals := 97 } (zPre K [(a0, zO 9 9 g0), (a1, zO 4 6 g1), (a2, zO 7 6 g2), (a3, zI K 645 f3), (a4, zI K 645 f4), (a5, zI K 645 f5), (a6, zI K 645 f6), (a7, zI K 1935 f7), (a8, zO 1 18 g8), (a9, zO 3 7 g9), (a10, zI K 8 f10), (a11, zO 4 6 g11), (a12, zI K 8 f12), (a13, zR K 512 f13), (a14, zO 2 6 g14), (a15, zI K 10 f15)] sz [.ref a0, .int (nI j0), .int 2, .int x1, .int x2, .int 1, .int 0]) (va_Qi (fun (r : Int32) (_ : Nat → Nat) => r = 7) (zB K (va_A [(a0, zO 9 9 g0), (a1, zO 4 6 g1), (a2, zO 7 6 g2), (a3, zI K 645 f3), (a4, zI K 645 f4), (a5, zI K 645 f5), (a6, zI K 645 f6), (a7, zI K 1935 f7), (a8, zO 1 18 g8), (a9, zO 3 7 g9), (a10, zI K 8 f10), (a11, zO 4 6 g11), (a12, zI K 8 f12), (a13, zR K 512 f13), (a14, zO 2 6 g14), (a15, zI K 10 f15)] sz) (fun u : Nat → Nat => [])) (va_A [(a0, zO 9 9 g0), (a1, zO 4 6 g1), (a2, zO 7 6 g2), (a3, zI K 645 f3), (a4, zI K 645 f4), (a5, zI K 645 f5), (a6, zI K 645 f6), (a7, zI K 1935 f7), (a8, zO 1 18 g8), (a9, zO 3 7 g9), (a10, zI K 8 f10), (a11, zO 4 6 g11), (a12, zI K 8 f12), (a13, zR K 512 f13), (a14, zO 2 6 g14), (a15, zI K 10 f15)] sz)) 4 4203 (va_A [(a0, zO 9 9 g0), (a1, zO 4 6 g1), (a2, zO 7 6 g2), (a3, zI K 645 f3), (a4, zI K 645 f4), (a5, zI K 645 f5), (a6, zI K 645 f6), (a7, zI K 1935 f7), (a8, zO 1 18 g8), (a9, zO 3 7 g9), (a10, zI K 8 f10), (a11, zO 4 6 g11), (a12, zI K 8 f12), (a13, zR K 512 f13), (a14, zO 2 6 g14), (a15, zI K 10 f15)] sz) := by
  refine z_met (Qc := fun A => (va_Qi (fun (r : Int32) (_ : Nat → Nat) => r = 7) (zB K A (fun u : Nat → Nat => [])) A)) (by decide +kernel) (Nat.le_of_ble_eq_true rfl) ?_
  intro p e s m args below meth c A ls H hx hb hr hg hown hlocks hml hin hK hP hD hA hS hZ hl
  have hown : s.vm.findClass RX11 = some m.cls := hown
  have hl : lv_has ls 9 [(0, .ref a0), (1, .int (nI j0)), (2, .int 2), (3, .int x1), (4, .int x2), (5, .int 1), (6, .int 0)] := hl
  refine lv_aload_n hx hb dX11_run_0 rfl (lv_at hl 0 rfl) ?_
  refine lv_iload hx hb dX11_run_1 (lv_at hl 5 rfl) ?_
  refine lv_sipush (v := 601) hx hb dX11_run_3 (by decide) ?_
  refine z_callv [(a0, zO 9 9 g0)] [(a1, zO 4 6 g1), (a2, zO 7 6 g2), (a3, zI K 645 f3), (a4, zI K 645 f4), (a5, zI K 645 f5), (a6, zI K 645 f6), (a7, zI K 1935 f7), (a8, zO 1 18 g8), (a9, zO 3 7 g9), (a10, zI K 8 f10), (a11, zO 4 6 g11), (a12, zI K 8 f12), (a13, zR K 512 f13), (a14, zO 2 6 g14), (a15, zI K 10 f15)] [0] [1, 2, 3, 4, 5, 6, 7, 8, 9, 10, 11, 12, 13, 14, 15] hP hD hS hA rfl rfl (by decide) (by decide) (by decide +kernel) 0 0 rfl rfl (fun hPc hDc hF => z_runV (As := [.int 1, .int 601]) (rest := []) ⟨hx, hb, hml, hown, hg⟩ (cX11_checkRange_17 l K H.size a0 g0) kV_RX11_72 hd_X11_checkRange rfl rfl ⟨(Nat.le_of_ble_eq_true rfl), (Nat.le_of_ble_eq_true rfl)⟩ hK hS hZ hPc hDc hF 0 rfl rfl rfl hl.1 rfl (Nat.le_of_ble_eq_true rfl) dX11_run_6 ⟨(Nat.le_of_ble_eq_true rfl), (Nat.le_of_ble_eq_true rfl)⟩) (fun u1 H locs w2 hP hD hS => ?_)
  have hP : va_P K.1 classes [(a1, zO 4 6 g1), (a2, zO 7 6 g2), (a3, zI K 645 f3), (a4, zI K 645 f4), (a5, zI K 645 f5), (a6, zI K 645 f6), (a7, zI K 1935 f7), (a8, zO 1 18 g8), (a9, zO 3 7 g9), (a10, zI K 8 f10), (a11, zO 4 6 g11), (a12, zI K 8 f12), (a13, zR K 512 f13), (a14, zO 2 6 g14), (a15, zI K 10 f15), (a0, zO 9 9 g0)] H := hP
  have hD : va_D A [(a1, zO 4 6 g1), (a2, zO 7 6 g2), (a3, zI K 645 f3), (a4, zI K 645 f4), (a5, zI K 645 f5), (a6, zI K 645 f6), (a7, zI K 1935 f7), (a8, zO 1 18 g8), (a9, zO 3 7 g9), (a10, zI K 8 f10), (a11, zO 4 6 g11), (a12, zI K 8 f12), (a13, zR K 512 f13), (a14, zO 2 6 g14), (a15, zI K 10 f15), (a0, zO 9 9 g0)] := hD
  refine lv_aload_n hx hb dX11_run_9 rfl (lv_at hl 0 rfl) ?_
  refine lv_iload_n hx hb dX11_run_10 rfl (lv_at hl 1 rfl) ?_
  refine lv_iload_n hx hb dX11_run_11 rfl (lv_at hl 2 rfl) ?_
  refine lv_iload hx hb dX11_run_12 (lv_at hl 6 rfl) ?_
  refine z_callr [(a0, zO 9 9 g0)] [(a1, zO 4 6 g1), (a2, zO 7 6 g2), (a3, zI K 645 f3), (a4, zI K 645 f4), (a5, zI K 645 f5), (a6, zI K 645 f6), (a7, zI K 1935 f7), (a8, zO 1 18 g8), (a9, zO 3 7 g9), (a10, zI K 8 f10), (a11, zO 4 6 g11), (a12, zI K 8 f12), (a13, zR K 512 f13), (a14, zO 2 6 g14), (a15, zI K 10 f15)] [15] [0, 1, 2, 3, 4, 5, 6, 7, 8, 9, 10, 11, 12, 13, 14] hP hD hS hA rfl rfl (by decide) (by decide) (by decide +kernel) 0 0 rfl rfl (fun hPc hDc hF => z_runV (As := [.int (nI j0), .int 2, .int 0]) (rest := []) ⟨hx, hb, hml, hown, hg⟩ (cX11_programToRun_7 l K H.size a0 a1 g0 j0 hj0 e0) kV_RX11_130 hd_X11_programToRun rfl rfl ⟨(Nat.le_of_ble_eq_true rfl), (Nat.le_of_ble_eq_true rfl)⟩ hK hS hZ hPc hDc hF 0 rfl rfl rfl hl.1 rfl (Nat.le_of_ble_eq_true rfl) dX11_run_14 ⟨(Nat.le_of_ble_eq_true rfl), (Nat.le_of_ble_eq_true rfl)⟩) (fun u4 H locs w5 hP hD hS => ?_)
  have hP : va_P K.1 classes [(a1, zO 4 6 g1), (a2, zO 7 6 g2), (a3, zI K 645 f3), (a4, zI K 645 f4), (a5, zI K 645 f5), (a6, zI K 645 f6), (a7, zI K 1935 f7), (a8, zO 1 18 g8), (a9, zO 3 7 g9), (a10, zI K 8 f10), (a11, zO 4 6 g11), (a12, zI K 8 f12), (a13, zR K 512 f13), (a14, zO 2 6 g14), (a15, zI K 10 f15), (a0, zO 9 9 g0)] H := hP
  have hD : va_D A [(a1, zO 4 6 g1), (a2, zO 7 6 g2), (a3, zI K 645 f3), (a4, zI K 645 f4), (a5, zI K 645 f5), (a6, zI K 645 f6), (a7, zI K 1935 f7), (a8, zO 1 18 g8), (a9, zO 3 7 g9), (a10, zI K 8 f10), (a11, zO 4 6 g11), (a12, zI K 8 f12), (a13, zR K 512 f13), (a14, zO 2 6 g14), (a15, zI K 10 f15), (a0, zO 9 9 g0)] := hD
  refine W.eq (g2 := F0 m 17 ls [.ref a1]) rfl ?_
  refine lv_astore (lv' := [(7, .ref a1), (0, .ref a0), (1, .int (nI j0)), (2, .int 2), (3, .int x1), (4, .int x2), (5, .int 1), (6, .int 0)]) hx hb dX11_run_17 hl (by decide) rfl (fun ls hl => ?_)
  refine lv_aload hx hb dX11_run_19 (lv_at hl 0 rfl) ?_
  refine lv_iload_n hx hb dX11_run_21 rfl (lv_at hl 2 rfl) ?_
  refine lv_iload_n hx hb dX11_run_22 rfl (lv_at hl 3 rfl) ?_
  refine lv_iload_n hx hb dX11_run_23 rfl (lv_at hl 4 rfl) ?_
  refine lv_iload hx hb dX11_run_24 (lv_at hl 5 rfl) ?_
  refine z_calli [(a1, zO 4 6 g1), (a2, zO 7 6 g2), (a3, zI K 645 f3), (a4, zI K 645 f4), (a5, zI K 645 f5), (a6, zI K 645 f6), (a7, zI K 1935 f7)] [(a8, zO 1 18 g8), (a9, zO 3 7 g9), (a10, zI K 8 f10), (a11, zO 4 6 g11), (a12, zI K 8 f12), (a13, zR K 512 f13), (a14, zO 2 6 g14), (a15, zI K 10 f15), (a0, zO 9 9 g0)] [0, 1, 2, 3, 4, 5, 6] [7, 8, 9, 10, 11, 12, 13, 14, 15] hP hD hS hA rfl rfl (by decide) (by decide) (by decide +kernel) 0 0 rfl rfl (fun hPc hDc hF => z_runV (As := [.int (nI j0), .int 2, .int x1, .int x2]) (rest := []) ⟨hx, hb, hml, hown, hg⟩ (cX5_call_5 l K H.size a1 a2 a3 a4 a5 a6 a7 g1 g2 f3 f4 f5 f6 f7 j0 hj0 x1 x2 e1 e2 e3 e4 e5 e6 e7) kV_RX11_134 hd_X5_call rfl rfl ⟨(Nat.le_of_ble_eq_true rfl), (Nat.le_of_ble_eq_true rfl)⟩ hK hS hZ hPc hDc hF 0 rfl rfl rfl hl.1 rfl (Nat.le_of_ble_eq_true rfl) dX11_run_26 ⟨(Nat.le_of_ble_eq_true rfl), (Nat.le_of_ble_eq_true rfl)⟩) (fun r9 u7 H locs w8 hP hD hS => ?_)
  subst w8
  have hP : va_P K.1 classes [(a8, zO 1 18 g8), (a9, zO 3 7 g9), (a10, zI K 8 f10), (a11, zO 4 6 g11), (a12, zI K 8 f12), (a13, zR K 512 f13), (a14, zO 2 6 g14), (a15, zI K 10 f15), (a0, zO 9 9 g0), (a1, zO 4 6 g1), (a2, zO 7 6 g2), (a3, zI K 645 (va_up (va_up (va_up (va_up (va_up f3 640 2) 641 0) 642 4) 643 0) 644 4)), (a4, zI K 645 (va_up (va_up (va_up (va_up (va_up f4 640 (nI j0)) 641 x1) 642 0) 643 x2) 644 0)), (a5, zI K 645 (va_up (va_up (va_up (va_up (va_up f5 640 0) 641 0) 642 0) 643 0) 644 0)), (a6, zI K 645 (va_up (va_up (va_up (va_up (va_up f6 640 0) 641 0) 642 0) 643 0) 644 0)), (a7, zI K 1935 (va_up (va_up (va_up (va_up (va_up (va_up (va_up (va_up (va_up (va_up (va_up (va_up (va_up (va_up (va_up (va_up (va_up (va_up (va_up (va_up (va_up f7 1920 (-1)) 1921 (-1)) 1922 (-1)) 1923 (-1)) 1924 (-1)) 1925 (-1)) 1926 (-1)) 1927 (-1)) 1928 (-1)) 1926 640) 1927 641) 1928 (-1)) 1929 (-1)) 1930 (-1)) 1931 (-1)) 1932 (-1)) 1933 (-1)) 1934 (-1)) 1932 642) 1933 643) 1934 (-1)))] H := hP
  have hD : va_D A [(a8, zO 1 18 g8), (a9, zO 3 7 g9), (a10, zI K 8 f10), (a11, zO 4 6 g11), (a12, zI K 8 f12), (a13, zR K 512 f13), (a14, zO 2 6 g14), (a15, zI K 10 f15), (a0, zO 9 9 g0), (a1, zO 4 6 g1), (a2, zO 7 6 g2), (a3, zI K 645 (va_up (va_up (va_up (va_up (va_up f3 640 2) 641 0) 642 4) 643 0) 644 4)), (a4, zI K 645 (va_up (va_up (va_up (va_up (va_up f4 640 (nI j0)) 641 x1) 642 0) 643 x2) 644 0)), (a5, zI K 645 (va_up (va_up (va_up (va_up (va_up f5 640 0) 641 0) 642 0) 643 0) 644 0)), (a6, zI K 645 (va_up (va_up (va_up (va_up (va_up f6 640 0) 641 0) 642 0) 643 0) 644 0)), (a7, zI K 1935 (va_up (va_up (va_up (va_up (va_up (va_up (va_up (va_up (va_up (va_up (va_up (va_up (va_up (va_up (va_up (va_up (va_up (va_up (va_up (va_up (va_up f7 1920 (-1)) 1921 (-1)) 1922 (-1)) 1923 (-1)) 1924 (-1)) 1925 (-1)) 1926 (-1)) 1927 (-1)) 1928 (-1)) 1926 640) 1927 641) 1928 (-1)) 1929 (-1)) 1930 (-1)) 1931 (-1)) 1932 (-1)) 1933 (-1)) 1934 (-1)) 1932 642) 1933 643) 1934 (-1)))] := hD
  obtain ⟨ff10, y11⟩ : ∃ z, z = ((va_up (va_up (va_up (va_up (va_up f3 640 2) 641 0) 642 4) 643 0) 644 4) : Nat → Int32) := ⟨_, rfl⟩
  rw [← y11] at hP hD
  obtain ⟨ff12, y13⟩ : ∃ z, z = ((va_up (va_up (va_up (va_up (va_up f4 640 (nI j0)) 641 x1) 642 0) 643 x2) 644 0) : Nat → Int32) := ⟨_, rfl⟩
  rw [← y13] at hP hD
  obtain ⟨ff14, y15⟩ : ∃ z, z = ((va_up (va_up (va_up (va_up (va_up f5 640 0) 641 0) 642 0) 643 0) 644 0) : Nat → Int32) := ⟨_, rfl⟩
  rw [← y15] at hP hD
  obtain ⟨ff16, y17⟩ : ∃ z, z = ((va_up (va_up (va_up (va_up (va_up f6 640 0) 641 0) 642 0) 643 0) 644 0) : Nat → Int32) := ⟨_, rfl⟩
  rw [← y17] at hP hD
  obtain ⟨ff18, y19⟩ : ∃ z, z = ((va_up (va_up (va_up (va_up (va_up (va_up (va_up (va_up (va_up (va_up (va_up (va_up (va_up (va_up (va_up (va_up (va_up (va_up (va_up (va_up (va_up f7 1920 (-1)) 1921 (-1)) 1922 (-1)) 1923 (-1)) 1924 (-1)) 1925 (-1)) 1926 (-1)) 1927 (-1)) 1928 (-1)) 1926 640) 1927 641) 1928 (-1)) 1929 (-1)) 1930 (-1)) 1931 (-1)) 1932 (-1)) 1933 (-1)) 1934 (-1)) 1932 642) 1933 643) 1934 (-1)) : Nat → Int32) := ⟨_, rfl⟩
  rw [← y19] at hP hD
  refine lv_istore (lv' := [(8, .int 644), (7, .ref a1), (0, .ref a0), (1, .int (nI j0)), (2, .int 2), (3, .int x1), (4, .int x2), (5, .int 1), (6, .int 0)]) hx hb dX11_run_29 hl (by decide) rfl (fun ls hl => ?_)
  refine lv_aload_n hx hb dX11_run_31 rfl (lv_at hl 2 rfl) ?_
  refine z_get (v := .ref a8) hx hb hg hown hK hP i_X11 rfl 8 rfl 7 (by decide) mt311 e8 dX11_run_32 ?_
  refine lv_aload hx hb dX11_run_35 (lv_at hl 1 rfl) ?_
  refine lv_iload hx hb dX11_run_37 (lv_at hl 0 rfl) ?_
  refine lv_iconst (v := 1) hx hb dX11_run_39 (by decide) ?_
  refine lv_iload hx hb dX11_run_40 (lv_at hl 7 rfl) ?_
  refine z_calli [(a8, zO 1 18 g8), (a9, zO 3 7 g9), (a1, zO 4 6 g1), (a10, zI K 8 f10), (a11, zO 4 6 g11), (a12, zI K 8 f12), (a13, zR K 512 f13), (a14, zO 2 6 g14), (a15, zI K 10 f15)] [(a0, zO 9 9 g0), (a2, zO 7 6 g2), (a3, zI K 645 ff10), (a4, zI K 645 ff12), (a5, zI K 645 ff14), (a6, zI K 645 ff16), (a7, zI K 1935 ff18)] [0, 1, 9, 2, 3, 4, 5, 6, 7] [8, 10, 11, 12, 13, 14, 15] hP hD hS hA rfl rfl (by decide) (by decide) (by decide +kernel) 4 4203 rfl rfl (fun hPc hDc hF => z_runV (As := [.ref a1, .int 644, .int 1, .int 1]) (rest := []) ⟨hx, hb, hml, hown, hg⟩ (cX1_find_5 l K H.size a8 a1 a9 a10 a11 a12 a13 a14 a15 g8 g9 g1 f10 g11 f12 f13 g14 f15 e9 e10 e11 e12 e13 e14 e15 e16 e17 e18 e19 e20 e21 e22 e23 e24 e25 e26 e27 e28 e29 e30 e31 e32 e33 e34 e35) kV_RX11_138 hd_X1_find rfl rfl ⟨(Nat.le_of_ble_eq_true rfl), (Nat.le_of_ble_eq_true rfl)⟩ hK hS hZ hPc hDc hF 0 rfl rfl rfl hl.1 rfl (Nat.le_of_ble_eq_true rfl) dX11_run_42 ⟨(Nat.le_of_ble_eq_true rfl), (Nat.le_of_ble_eq_true rfl)⟩) (fun r22 u20 H locs w21 hP hD hS => ?_)
  subst w21
  have hP : va_P K.1 classes [(a0, zO 9 9 g0), (a2, zO 7 6 g2), (a3, zI K 645 ff10), (a4, zI K 645 ff12), (a5, zI K 645 ff14), (a6, zI K 645 ff16), (a7, zI K 1935 ff18), (a8, zO 1 18 (va_up (va_up (va_up (va_up (va_up (va_up (va_up (va_up (va_up (va_up (va_up (va_up (va_up (va_up (va_up (va_up (va_up g8 6 (.ref a1)) 7 (.int 1)) 9 (.int 1)) 4 (.int 0)) 5 (.int 0)) 8 (.int 0)) 10 (.int 0)) 13 (.int (-1))) 14 (.int 0)) 16 (.int 6)) 17 (.int 0)) 12 (.int 644)) 11 (.int 0)) 16 (.int 7)) 11 (.int 4)) 11 (.int 5)) 11 (.int 6))), (a9, zO 3 7 (va_up (va_up (va_up (va_up (va_up g9 5 (.int 0)) 5 (.int 0)) 3 (.int 1)) 4 (.int 0)) 6 (.int 0))), (a1, zO 4 6 g1), (a10, zI K 8 f10), (a11, zO 4 6 g11), (a12, zI K 8 f12), (a13, zR K 512 (va_up f13 0 (some (u20 0)))), (a14, zO 2 6 (va_up g14 5 (.int 0))), (a15, zI K 10 (va_up (va_up (va_up (va_up (va_up (va_up (va_up (va_up (va_up (va_up f15 0 0) 1 0) 2 0) 3 0) 4 0) 5 0) 6 0) 7 0) 8 0) 9 0)), ((u20 0), zO 6 3 (va_up (va_up (va_up (fun k => defaultValue (tyX7 k)) 0 (.ref (u20 1))) 1 (.ref (u20 2))) 2 (.ref (u20 3)))), ((u20 1), zJ K 1400 (fun _ => 0)), ((u20 2), zJ K 1400 (fun _ => 0)), ((u20 3), zJ K 1400 (fun _ => 0))] H := hP
  have hD : va_D A [(a0, zO 9 9 g0), (a2, zO 7 6 g2), (a3, zI K 645 ff10), (a4, zI K 645 ff12), (a5, zI K 645 ff14), (a6, zI K 645 ff16), (a7, zI K 1935 ff18), (a8, zO 1 18 (va_up (va_up (va_up (va_up (va_up (va_up (va_up (va_up (va_up (va_up (va_up (va_up (va_up (va_up (va_up (va_up (va_up g8 6 (.ref a1)) 7 (.int 1)) 9 (.int 1)) 4 (.int 0)) 5 (.int 0)) 8 (.int 0)) 10 (.int 0)) 13 (.int (-1))) 14 (.int 0)) 16 (.int 6)) 17 (.int 0)) 12 (.int 644)) 11 (.int 0)) 16 (.int 7)) 11 (.int 4)) 11 (.int 5)) 11 (.int 6))), (a9, zO 3 7 (va_up (va_up (va_up (va_up (va_up g9 5 (.int 0)) 5 (.int 0)) 3 (.int 1)) 4 (.int 0)) 6 (.int 0))), (a1, zO 4 6 g1), (a10, zI K 8 f10), (a11, zO 4 6 g11), (a12, zI K 8 f12), (a13, zR K 512 (va_up f13 0 (some (u20 0)))), (a14, zO 2 6 (va_up g14 5 (.int 0))), (a15, zI K 10 (va_up (va_up (va_up (va_up (va_up (va_up (va_up (va_up (va_up (va_up f15 0 0) 1 0) 2 0) 3 0) 4 0) 5 0) 6 0) 7 0) 8 0) 9 0)), ((u20 0), zO 6 3 (va_up (va_up (va_up (fun k => defaultValue (tyX7 k)) 0 (.ref (u20 1))) 1 (.ref (u20 2))) 2 (.ref (u20 3)))), ((u20 1), zJ K 1400 (fun _ => 0)), ((u20 2), zJ K 1400 (fun _ => 0)), ((u20 3), zJ K 1400 (fun _ => 0))] := hD
  obtain ⟨gg23, y24⟩ : ∃ z, z = ((va_up (va_up (va_up (va_up (va_up (va_up (va_up (va_up (va_up (va_up (va_up (va_up (va_up (va_up (va_up (va_up (va_up g8 6 (.ref a1)) 7 (.int 1)) 9 (.int 1)) 4 (.int 0)) 5 (.int 0)) 8 (.int 0)) 10 (.int 0)) 13 (.int (-1))) 14 (.int 0)) 16 (.int 6)) 17 (.int 0)) 12 (.int 644)) 11 (.int 0)) 16 (.int 7)) 11 (.int 4)) 11 (.int 5)) 11 (.int 6)) : Nat → Value) := ⟨_, rfl⟩
  rw [← y24] at hP hD
  obtain ⟨gg25, y26⟩ : ∃ z, z = ((va_up (va_up (va_up (va_up (va_up g9 5 (.int 0)) 5 (.int 0)) 3 (.int 1)) 4 (.int 0)) 6 (.int 0)) : Nat → Value) := ⟨_, rfl⟩
  rw [← y26] at hP hD
  obtain ⟨ff27, y28⟩ : ∃ z, z = ((va_up (va_up (va_up (va_up (va_up (va_up (va_up (va_up (va_up (va_up f15 0 0) 1 0) 2 0) 3 0) 4 0) 5 0) 6 0) 7 0) 8 0) 9 0) : Nat → Int32) := ⟨_, rfl⟩
  rw [← y28] at hP hD
  obtain ⟨gg29, y30⟩ : ∃ z, z = ((va_up (va_up (va_up (fun k => defaultValue (tyX7 k)) 0 (.ref (u20 1))) 1 (.ref (u20 2))) 2 (.ref (u20 3))) : Nat → Value) := ⟨_, rfl⟩
  rw [← y30] at hP hD
  subst y30
  subst y28
  subst y26
  subst y24
  subst y19
  subst y17
  subst y15
  subst y13
  subst y11
  have hP9 : va_P K.1 classes [] H := hP.sub [] rfl
  have hD9 : va_D A [] := hD.sub [] (by decide) rfl
  exact z_iret hx hb hr (fun _ => 0) rfl hP9 hD9 hS (Nat.le_of_ble_eq_true rfl) (Nat.le_of_ble_eq_true rfl) hlocks dX11_run_45
set_option maxHeartbeats 4000000 in
set_option maxRecDepth 100000 in
theorem cL_run_10 (l : Launch) (hl9 : l.stackTraces = false) (K : zK) (sz : Nat) (a0 : Nat) (a1 : Nat) (a2 : Nat) (a3 : Nat) (a4 : Nat) (a5 : Nat) (a6 : Nat) (a7 : Nat) (a8 : Nat) (a9 : Nat) (a10 : Nat) (a11 : Nat) (a12 : Nat) (a13 : Nat) (a14 : Nat) (a15 : Nat) (a16 : Nat) (g0 : Nat → Value) (g2 : Nat → Value) (g3 : Nat → Value) (f4 : Nat → Int32) (f5 : Nat → Int32) (f6 : Nat → Int32) (f7 : Nat → Int32) (f8 : Nat → Int32) (g9 : Nat → Value) (g10 : Nat → Value) (f11 : Nat → Int32) (g12 : Nat → Value) (f13 : Nat → Int32) (f14 : Nat → Option Nat) (g15 : Nat → Value) (f16 : Nat → Int32) (f1 : Nat → Int64) (j0 : Nat) (hj0 : j0 < 8) (x1 : Int32) (x2 : Int32) (e0 : g0 3 = (.ref a2)) (e1 : g2 0 = (.ref a3)) (e2 : g3 5 = (.int 645)) (e3 : g3 0 = (.ref a4)) (e4 : g3 1 = (.ref a5)) (e5 : g3 2 = (.ref a6)) (e6 : g3 3 = (.ref a7)) (e7 : g3 4 = (.ref a8)) (e8 : g0 7 = (.ref a9)) (e9 : g9 0 = (.ref a10)) (e10 : g10 6 = (.int 0)) (e11 : g10 4 = (.int 0)) (e12 : g10 0 = (.ref a2)) (e13 : g2 2 = (.ref a11)) (e14 : f11 0 = 0) (e15 : f11 1 = 0) (e16 : f11 2 = 0) (e17 : f11 3 = 0) (e18 : f11 4 = 0) (e19 : f11 5 = 0) (e20 : f11 6 = 0) (e21 : f11 7 = 0) (e22 : g10 1 = (.ref a12)) (e23 : g12 2 = (.ref a13)) (e24 : f13 0 = 0) (e25 : f13 1 = 0) (e26 : f13 2 = 0) (e27 : f13 3 = 0) (e28 : f13 4 = 0) (e29 : f13 5 = 0) (e30 : f13 6 = 0) (e31 : f13 7 = 0) (e32 : g10 3 = (.int 0)) (e33 : g10 2 = (.ref a14)) (e34 : g9 1 = (.ref a15)) (e35 : g9 2 = (.ref a16)) : vx_Met l yL_run (Cond.codeWith yL_run cL_run 9 (some .int) [(0, 18, 21, 18), (0, 18, 25, 13)] :: WG) { frames := 6, cells := 4, slots := 4203, locals := 125 } (zPre K [(a0, zO 9 9 g0), (a2, zO 4 6 g2), (a3, zO 7 6 g3), (a4, zI K 645 f4), (a5, zI K 645 f5), (a6, zI K 645 f6), (a7, zI K 645 f7), (a8, zI K 1935 f8), (a9, zO 1 18 g9), (a10, zO 3 7 g10), (a11, zI K 8 f11), (a12, zO 4 6 g12), (a13, zI K 8 f13), (a14, zR K 512 f14), (a15, zO 2 6 g15), (a16, zI K 10 f16), (a1, zJ K 1 f1)] sz [.ref a0, .int (nI j0), .int 2, .int x1, .int x2, .int 1, .int 0, .ref a1]) (va_Qi (fun (r : Int32) (_ : Nat → Nat) => r = 0) (zB K (va_A [(a0, zO 9 9 g0), (a2, zO 4 6 g2), (a3, zO 7 6 g3), (a4, zI K 645 f4), (a5, zI K 645 f5), (a6, zI K 645 f6), (a7, zI K 645 f7), (a8, zI K 1935 f8), (a9, zO 1 18 g9), (a10, zO 3 7 g10), (a11, zI K 8 f11), (a12, zO 4 6 g12), (a13, zI K 8 f13), (a14, zR K 512 f14), (a15, zO 2 6 g15), (a16, zI K 10 f16), (a1, zJ K 1 f1)] sz) (fun u : Nat → Nat => [(a1, zJ K 1 (va_up f1 0 7))])) (va_A [(a0, zO 9 9 g0), (a2, zO 4 6 g2), (a3, zO 7 6 g3), (a4, zI K 645 f4), (a5, zI K 645 f5), (a6, zI K 645 f6), (a7, zI K 645 f7), (a8, zI K 1935 f8), (a9, zO 1 18 g9), (a10, zO 3 7 g10), (a11, zI K 8 f11), (a12, zO 4 6 g12), (a13, zI K 8 f13), (a14, zR K 512 f14), (a15, zO 2 6 g15), (a16, zI K 10 f16), (a1, zJ K 1 f1)] sz)) (vx_X (fun _ : Unit => False) (fun _ _ _ => True) (va_A [(a0, zO 9 9 g0), (a2, zO 4 6 g2), (a3, zO 7 6 g3), (a4, zI K 645 f4), (a5, zI K 645 f5), (a6, zI K 645 f6), (a7, zI K 645 f7), (a8, zI K 1935 f8), (a9, zO 1 18 g9), (a10, zO 3 7 g10), (a11, zI K 8 f11), (a12, zO 4 6 g12), (a13, zI K 8 f13), (a14, zR K 512 f14), (a15, zO 2 6 g15), (a16, zI K 10 f16), (a1, zJ K 1 f1)] sz)) 4 4203 (va_A [(a0, zO 9 9 g0), (a2, zO 4 6 g2), (a3, zO 7 6 g3), (a4, zI K 645 f4), (a5, zI K 645 f5), (a6, zI K 645 f6), (a7, zI K 645 f7), (a8, zI K 1935 f8), (a9, zO 1 18 g9), (a10, zO 3 7 g10), (a11, zI K 8 f11), (a12, zO 4 6 g12), (a13, zI K 8 f13), (a14, zR K 512 f14), (a15, zO 2 6 g15), (a16, zI K 10 f16), (a1, zJ K 1 f1)] sz) := by
  refine z_hmet (Qc := fun A => (va_Qi (fun (r : Int32) (_ : Nat → Nat) => r = 0) (zB K A (fun u : Nat → Nat => [(a1, zJ K 1 (va_up f1 0 7))])) A)) (XC := fun A => vx_X (fun _ : Unit => False) (fun _ _ _ => True) A) (by decide +kernel) (Nat.le_of_ble_eq_true rfl) ?_
  intro p e s m args below meth c A ls H hx hb hr hg hown hlocks hml hTab hK hP hD hA hS hZ hl
  have hown : s.vm.findClass RL = some m.cls := hown
  have hl : lv_has ls 9 [(0, .ref a0), (1, .int (nI j0)), (2, .int 2), (3, .int x1), (4, .int x2), (5, .int 1), (6, .int 0), (7, .ref a1)] := hl
  refine lv_aload hx hb dL_run_0 (lv_at hl 7 rfl) ?_
  refine lv_iconst (v := 0) hx hb dL_run_2 (by decide) ?_
  refine lv_aload_n hx hb dL_run_3 rfl (lv_at hl 0 rfl) ?_
  refine lv_iload_n hx hb dL_run_4 rfl (lv_at hl 1 rfl) ?_
  refine lv_iload_n hx hb dL_run_5 rfl (lv_at hl 2 rfl) ?_
  refine lv_iload_n hx hb dL_run_6 rfl (lv_at hl 3 rfl) ?_
  refine lv_iload hx hb dL_run_7 (lv_at hl 4 rfl) ?_
  refine lv_iload hx hb dL_run_9 (lv_at hl 5 rfl) ?_
  refine lv_iload hx hb dL_run_11 (lv_at hl 6 rfl) ?_
  refine z_calli [(a0, zO 9 9 g0), (a2, zO 4 6 g2), (a3, zO 7 6 g3), (a4, zI K 645 f4), (a5, zI K 645 f5), (a6, zI K 645 f6), (a7, zI K 645 f7), (a8, zI K 1935 f8), (a9, zO 1 18 g9), (a10, zO 3 7 g10), (a11, zI K 8 f11), (a12, zO 4 6 g12), (a13, zI K 8 f13), (a14, zR K 512 f14), (a15, zO 2 6 g15), (a16, zI K 10 f16)] [(a1, zJ K 1 f1)] [0, 1, 2, 3, 4, 5, 6, 7, 8, 9, 10, 11, 12, 13, 14, 15] [16] hP hD hS hA rfl rfl (by decide) (by decide) (by decide +kernel) 4 4203 rfl rfl (fun hPc hDc hF => z_runV (As := [.int (nI j0), .int 2, .int x1, .int x2, .int 1, .int 0]) (rest := [.int 0, .ref a1]) ⟨hx, hb, hml, hown, hg⟩ (cX11_run_10 l K H.size a0 a2 a3 a4 a5 a6 a7 a8 a9 a10 a11 a12 a13 a14 a15 a16 g0 g2 g3 f4 f5 f6 f7 f8 g9 g10 f11 g12 f13 f14 g15 f16 j0 hj0 x1 x2 e0 e1 e2 e3 e4 e5 e6 e7 e8 e9 e10 e11 e12 e13 e14 e15 e16 e17 e18 e19 e20 e21 e22 e23 e24 e25 e26 e27 e28 e29 e30 e31 e32 e33 e34 e35) kV_RL_73 hd_X11_run rfl rfl ⟨(Nat.le_of_ble_eq_true rfl), (Nat.le_of_ble_eq_true rfl)⟩ hK hS hZ hPc hDc hF 0 rfl rfl rfl hl.1 rfl (Nat.le_of_ble_eq_true rfl) dL_run_13 ⟨(Nat.le_of_ble_eq_true rfl), (Nat.le_of_ble_eq_true rfl)⟩) (fun r3 u1 H locs w2 hP hD hS => ?_)
  subst w2
  have hP : va_P K.1 classes [(a1, zJ K 1 f1)] H := hP
  have hD : va_D A [(a1, zJ K 1 f1)] := hD
  refine lv_i2l hx hb dL_run_16 rfl ?_
  refine z_cstl (v := 7) (by decide +kernel) ?_
  refine z_last (j := 0) hx hb hK hP hD hS 0 rfl rfl (Nat.le_of_ble_eq_true rfl) (Nat.le_of_ble_eq_true rfl) dL_run_17 (fun ff4 H locs y5 hP hD hS => ?_)
  have hP : va_P K.1 classes [(a1, zJ K 1 ff4)] H := hP
  have hD : va_D A [(a1, zJ K 1 ff4)] := hD
  refine lv_goto (tgt := 29) hx hb dL_run_18 (by decide) ?_
  refine lv_iconst (v := 0) hx hb dL_run_29 (by decide) ?_
  subst y5
  have hP9 : va_P K.1 classes [(a1, zJ K 1 (va_up f1 0 7))] H := hP.sub [0] rfl
  have hD9 : va_D A [(a1, zJ K 1 (va_up f1 0 7))] := hD.sub [0] (by decide) rfl
  exact z_iret hx hb hr (fun _ => 0) rfl hP9 hD9 hS (Nat.le_of_ble_eq_true rfl) (Nat.le_of_ble_eq_true rfl) hlocks dL_run_30
set_option maxHeartbeats 4000000 in
set_option maxRecDepth 100000 in
theorem cX12_isIn_27 (l : Launch) (K : zK) (sz : Nat) : Met l yX12_isIn (Cond.code yX12_isIn cX12_isIn 3 (some .boolean) :: WG) { frames := 0, cells := 0, slots := 0, locals := 0 } (zPre K [] sz [.int 2, .int 0, .int 2]) (va_Qi (fun (r : Int32) (_ : Nat → Nat) => r = 1) (zB K (va_A [] sz) (fun u : Nat → Nat => [])) (va_A [] sz)) 0 0 (va_A [] sz) := by
  refine z_met (Qc := fun A => (va_Qi (fun (r : Int32) (_ : Nat → Nat) => r = 1) (zB K A (fun u : Nat → Nat => [])) A)) (by decide +kernel) (Nat.le_of_ble_eq_true rfl) ?_
  intro p e s m args below meth c A ls H hx hb hr hg hown hlocks hml hin hK hP hD hA hS hZ hl
  have hown : s.vm.findClass RX12 = some m.cls := hown
  have hl : lv_has ls 3 [(0, .int 2), (1, .int 0), (2, .int 2)] := hl
  refine lv_iload_n hx hb dX12_isIn_0 rfl (lv_at hl 0 rfl) ?_
  refine lv_iload_n hx hb dX12_isIn_1 rfl (lv_at hl 1 rfl) ?_
  refine lv_icmp_lt (tgt := 14) hx hb dX12_isIn_2 (by decide) (fun c => absurd c (by decide)) (fun _ => ?_)
  refine lv_iload_n hx hb dX12_isIn_5 rfl (lv_at hl 0 rfl) ?_
  refine lv_iload_n hx hb dX12_isIn_6 rfl (lv_at hl 2 rfl) ?_
  refine lv_icmp_gt (tgt := 14) hx hb dX12_isIn_7 (by decide) (fun c => absurd c (by decide)) (fun _ => ?_)
  refine lv_iconst (v := 1) hx hb dX12_isIn_10 (by decide) ?_
  refine lv_goto (tgt := 15) hx hb dX12_isIn_11 (by decide) ?_
  have hP9 : va_P K.1 classes [] H := hP.sub [] rfl
  have hD9 : va_D A [] := hD.sub [] (by decide) rfl
  exact z_zret hx hb hr rfl (fun _ => 0) rfl hP9 hD9 hS (Nat.le_of_ble_eq_true rfl) (Nat.le_of_ble_eq_true rfl) hlocks dX12_isIn_15
set_option maxHeartbeats 4000000 in
set_option maxRecDepth 100000 in
theorem cX12_mayRun_12 (l : Launch) (K : zK) (sz : Nat) (a0 : Nat) (g0 : Nat → Value) (j0 : Nat) (hj0 : j0 < 8) : Met l yX12_mayRun (Cond.code yX12_mayRun cX12_mayRun 5 (some .boolean) :: WG) { frames := 2, cells := 0, slots := 0, locals := 42 } (zPre K [(a0, zO 10 83 g0)] sz [.ref a0, .int (nI j0), .int 2, .int 1, .int 0]) (va_Qi (fun (r : Int32) (_ : Nat → Nat) => r = 1) (zB K (va_A [(a0, zO 10 83 g0)] sz) (fun u : Nat → Nat => [(a0, zO 10 83 (va_up g0 81 (.int 0)))])) (va_A [(a0, zO 10 83 g0)] sz)) 0 0 (va_A [(a0, zO 10 83 g0)] sz) := by
  refine z_met (Qc := fun A => (va_Qi (fun (r : Int32) (_ : Nat → Nat) => r = 1) (zB K A (fun u : Nat → Nat => [(a0, zO 10 83 (va_up g0 81 (.int 0)))])) A)) (by decide +kernel) (Nat.le_of_ble_eq_true rfl) ?_
  intro p e s m args below meth c A ls H hx hb hr hg hown hlocks hml hin hK hP hD hA hS hZ hl
  have hown : s.vm.findClass RX12 = some m.cls := hown
  have hl : lv_has ls 5 [(0, .ref a0), (1, .int (nI j0)), (2, .int 2), (3, .int 1), (4, .int 0)] := hl
  refine lv_aload_n hx hb dX12_mayRun_0 rfl (lv_at hl 0 rfl) ?_
  refine lv_iload_n hx hb dX12_mayRun_1 rfl (lv_at hl 1 rfl) ?_
  refine z_calli [] [(a0, zO 10 83 g0)] [] [0] hP hD hS hA rfl rfl (by decide) (by decide) (by decide +kernel) 0 0 rfl rfl (fun hPc hDc hF => z_runS (As := [.int (nI j0)]) (rest := [.ref a0]) ⟨hx, hb, hml, hown, hg⟩ (cX12_isGlobal_2 l K H.size j0 hj0) kS_RX12_197 hd_X12_isGlobal rfl rfl ⟨(Nat.le_of_ble_eq_true rfl), (Nat.le_of_ble_eq_true rfl)⟩ hK hS hZ hPc hDc hF rfl hl.1 rfl (Nat.le_of_ble_eq_true rfl) dX12_mayRun_2 ⟨(Nat.le_of_ble_eq_true rfl), (Nat.le_of_ble_eq_true rfl)⟩) (fun r3 u1 H locs w2 hP hD hS => ?_)
  subst w2
  have hP : va_P K.1 classes [(a0, zO 10 83 g0)] H := hP
  have hD : va_D A [(a0, zO 10 83 g0)] := hD
  refine lv_if_eq (tgt := 21) hx hb dX12_mayRun_5 (by decide) (fun c => absurd c (by decide)) (fun _ => ?_)
  refine lv_iload_n hx hb dX12_mayRun_8 rfl (lv_at hl 2 rfl) ?_
  refine lv_iconst (v := 0) hx hb dX12_mayRun_9 (by decide) ?_
  refine lv_iconst (v := 2) hx hb dX12_mayRun_10 (by decide) ?_
  refine z_calli [] [(a0, zO 10 83 g0)] [] [0] hP hD hS hA rfl rfl (by decide) (by decide) (by decide +kernel) 0 0 rfl rfl (fun hPc hDc hF => z_runS (As := [.int 2, .int 0, .int 2]) (rest := [.ref a0]) ⟨hx, hb, hml, hown, hg⟩ (cX12_isIn_27 l K H.size) kS_RX12_175 hd_X12_isIn rfl rfl ⟨(Nat.le_of_ble_eq_true rfl), (Nat.le_of_ble_eq_true rfl)⟩ hK hS hZ hPc hDc hF rfl hl.1 rfl (Nat.le_of_ble_eq_true rfl) dX12_mayRun_11 ⟨(Nat.le_of_ble_eq_true rfl), (Nat.le_of_ble_eq_true rfl)⟩) (fun r6 u4 H locs w5 hP hD hS => ?_)
  subst w5
  have hP : va_P K.1 classes [(a0, zO 10 83 g0)] H := hP
  have hD : va_D A [(a0, zO 10 83 g0)] := hD
  refine lv_if_eq (tgt := 21) hx hb dX12_mayRun_14 (by decide) (fun c => absurd c (by decide)) (fun _ => ?_)
  refine lv_iload_n hx hb dX12_mayRun_17 rfl (lv_at hl 3 rfl) ?_
  refine lv_if_ne (tgt := 25) hx hb dX12_mayRun_18 (by decide) (fun _ => ?_) (fun c => absurd c (by decide))
  refine lv_iload hx hb dX12_mayRun_25 (lv_at hl 4 rfl) ?_
  refine lv_if_eq (tgt := 41) hx hb dX12_mayRun_27 (by decide) (fun _ => ?_) (fun c => absurd (by decide) c)
  refine lv_iconst (v := 0) hx hb dX12_mayRun_41 (by decide) ?_
  refine z_calli [(a0, zO 10 83 g0)] [] [0] [] hP hD hS hA rfl rfl (by decide) (by decide) (by decide +kernel) 0 0 rfl rfl (fun hPc hDc hF => z_runV (As := [.int 0]) (rest := []) ⟨hx, hb, hml, hown, hg⟩ (cX12_can_1 l K H.size a0 g0) kV_RX12_182 hd_X12_can rfl rfl ⟨(Nat.le_of_ble_eq_true rfl), (Nat.le_of_ble_eq_true rfl)⟩ hK hS hZ hPc hDc hF 0 rfl rfl rfl hl.1 rfl (Nat.le_of_ble_eq_true rfl) dX12_mayRun_42 ⟨(Nat.le_of_ble_eq_true rfl), (Nat.le_of_ble_eq_true rfl)⟩) (fun r9 u7 H locs w8 hP hD hS => ?_)
  subst w8
  have hP : va_P K.1 classes [(a0, zO 10 83 (va_up g0 81 (.int 0)))] H := hP
  have hD : va_D A [(a0, zO 10 83 (va_up g0 81 (.int 0)))] := hD
  have hP9 : va_P K.1 classes [(a0, zO 10 83 (va_up g0 81 (.int 0)))] H := hP.sub [0] rfl
  have hD9 : va_D A [(a0, zO 10 83 (va_up g0 81 (.int 0)))] := hD.sub [0] (by decide) rfl
  exact z_zret hx hb hr rfl (fun _ => 0) rfl hP9 hD9 hS (Nat.le_of_ble_eq_true rfl) (Nat.le_of_ble_eq_true rfl) hlocks dX12_mayRun_45
set_option maxHeartbeats 4000000 in
set_option maxRecDepth 100000 in
theorem cX12_laysRun_3 (l : Launch) (K : zK) (sz : Nat) (a0 : Nat) (a1 : Nat) (a2 : Nat) (a3 : Nat) (g0 : Nat → Value) (f1 : Nat → Int32) (f2 : Nat → Int32) (f3 : Nat → Int32) (j0 : Nat) (hj0 : j0 < 8) (x1 : Int32) (x2 : Int32) (e0 : g0 8 = (.ref a1)) (e1 : g0 9 = (.ref a2)) (e2 : g0 13 = (.ref a3)) : Met l yX12_laysRun (Cond.code yX12_laysRun cX12_laysRun 7 none :: WG) { frames := 0, cells := 0, slots := 0, locals := 0 } (zPre K [(a0, zO 10 83 g0), (a1, zI K 1290 f1), (a2, zI K 1290 f2), (a3, zI K 1290 f3)] sz [.ref a0, .int (nI j0), .int 2, .int x1, .int x2]) (va_Qv (fun _ : Nat → Nat => True) (zB K (va_A [(a0, zO 10 83 g0), (a1, zI K 1290 f1), (a2, zI K 1290 f2), (a3, zI K 1290 f3)] sz) (fun u : Nat → Nat => [(a0, zO 10 83 g0), (a1, zI K 1290 (va_up (va_up (va_up (va_up (va_up f1 1280 4) 1281 4) 1282 2) 1283 0) 1284 0)), (a2, zI K 1290 (va_up (va_up (va_up f2 1282 (nI j0)) 1283 x1) 1284 x2)), (a3, zI K 1290 (va_up (va_up (va_up (va_up (va_up f3 1282 1283) 1283 1284) 1281 1284) 1284 1285) 1280 1285))])) (va_A [(a0, zO 10 83 g0), (a1, zI K 1290 f1), (a2, zI K 1290 f2), (a3, zI K 1290 f3)] sz)) 0 0 (va_A [(a0, zO 10 83 g0), (a1, zI K 1290 f1), (a2, zI K 1290 f2), (a3, zI K 1290 f3)] sz) := by
  refine z_met (Qc := fun A => (va_Qv (fun _ : Nat → Nat => True) (zB K A (fun u : Nat → Nat => [(a0, zO 10 83 g0), (a1, zI K 1290 (va_up (va_up (va_up (va_up (va_up f1 1280 4) 1281 4) 1282 2) 1283 0) 1284 0)), (a2, zI K 1290 (va_up (va_up (va_up f2 1282 (nI j0)) 1283 x1) 1284 x2)), (a3, zI K 1290 (va_up (va_up (va_up (va_up (va_up f3 1282 1283) 1283 1284) 1281 1284) 1284 1285) 1280 1285))])) A)) (by decide +kernel) (Nat.le_of_ble_eq_true rfl) ?_
  intro p e s m args below meth c A ls H hx hb hr hg hown hlocks hml hin hK hP hD hA hS hZ hl
  have hown : s.vm.findClass RX12 = some m.cls := hown
  have hl : lv_has ls 7 [(0, .ref a0), (1, .int (nI j0)), (2, .int 2), (3, .int x1), (4, .int x2)] := hl
  refine lv_sipush (v := 1280) hx hb dX12_laysRun_0 (by decide) ?_
  refine lv_istore (lv' := [(5, .int 1280), (0, .ref a0), (1, .int (nI j0)), (2, .int 2), (3, .int x1), (4, .int x2)]) hx hb dX12_laysRun_3 hl (by decide) rfl (fun ls hl => ?_)
  refine lv_iconst (v := 0) hx hb dX12_laysRun_5 (by decide) ?_
  refine lv_istore (lv' := [(6, .int 0), (5, .int 1280), (0, .ref a0), (1, .int (nI j0)), (2, .int 2), (3, .int x1), (4, .int x2)]) hx hb dX12_laysRun_6 hl (by decide) rfl (fun ls hl => ?_)
  refine lv_iload hx hb dX12_laysRun_8 (lv_at hl 0 rfl) ?_
  refine lv_iload_n hx hb dX12_laysRun_10 rfl (lv_at hl 4 rfl) ?_
  refine lv_icmp_ge (tgt := 31) hx hb dX12_laysRun_11 (by decide) (fun c => absurd c (by decide)) (fun _ => ?_)
  refine lv_aload_n hx hb dX12_laysRun_14 rfl (lv_at hl 2 rfl) ?_
  refine z_get (v := .ref a1) hx hb hg hown hK hP i_X12 rfl 0 rfl 8 (by decide) mt1288 e0 dX12_laysRun_15 ?_
  refine lv_iload hx hb dX12_laysRun_18 (lv_at hl 1 rfl) ?_
  refine lv_iconst (v := 4) hx hb dX12_laysRun_20 (by decide) ?_
  refine z_iast (j := 1280) hx hb hK hP hD hS 1 rfl rfl (Nat.le_of_ble_eq_true rfl) (Nat.le_of_ble_eq_true rfl) dX12_laysRun_21 (fun ff1 H locs y2 hP hD hS => ?_)
  have hP : va_P K.1 classes [(a0, zO 10 83 g0), (a1, zI K 1290 ff1), (a2, zI K 1290 f2), (a3, zI K 1290 f3)] H := hP
  have hD : va_D A [(a0, zO 10 83 g0), (a1, zI K 1290 ff1), (a2, zI K 1290 f2), (a3, zI K 1290 f3)] := hD
  refine lv_iinc (v := 1281) (lv' := [(5, .int 1281), (6, .int 0), (0, .ref a0), (1, .int (nI j0)), (2, .int 2), (3, .int x1), (4, .int x2)]) hx hb dX12_laysRun_22 hl (k := 1) rfl (by decide +kernel) (by decide) rfl (fun ls hl => ?_)
  refine lv_iinc (v := 1) (lv' := [(6, .int 1), (5, .int 1281), (0, .ref a0), (1, .int (nI j0)), (2, .int 2), (3, .int x1), (4, .int x2)]) hx hb dX12_laysRun_25 hl (k := 1) rfl (by decide +kernel) (by decide) rfl (fun ls hl => ?_)
  refine lv_goto (tgt := 8) hx hb dX12_laysRun_28 (by decide) ?_
  refine lv_iload hx hb dX12_laysRun_8 (lv_at hl 0 rfl) ?_
  refine lv_iload_n hx hb dX12_laysRun_10 rfl (lv_at hl 4 rfl) ?_
  refine lv_icmp_ge (tgt := 31) hx hb dX12_laysRun_11 (by decide) (fun c => absurd c (by decide)) (fun _ => ?_)
  refine lv_aload_n hx hb dX12_laysRun_14 rfl (lv_at hl 2 rfl) ?_
  refine z_get (v := .ref a1) hx hb hg hown hK hP i_X12 rfl 0 rfl 8 (by decide) mt1288 e0 dX12_laysRun_15 ?_
  refine lv_iload hx hb dX12_laysRun_18 (lv_at hl 1 rfl) ?_
  refine lv_iconst (v := 4) hx hb dX12_laysRun_20 (by decide) ?_
  refine z_iast (j := 1281) hx hb hK hP hD hS 1 rfl rfl (Nat.le_of_ble_eq_true rfl) (Nat.le_of_ble_eq_true rfl) dX12_laysRun_21 (fun ff3 H locs y4 hP hD hS => ?_)
  have hP : va_P K.1 classes [(a0, zO 10 83 g0), (a1, zI K 1290 ff3), (a2, zI K 1290 f2), (a3, zI K 1290 f3)] H := hP
  have hD : va_D A [(a0, zO 10 83 g0), (a1, zI K 1290 ff3), (a2, zI K 1290 f2), (a3, zI K 1290 f3)] := hD
  refine lv_iinc (v := 1282) (lv' := [(5, .int 1282), (6, .int 1), (0, .ref a0), (1, .int (nI j0)), (2, .int 2), (3, .int x1), (4, .int x2)]) hx hb dX12_laysRun_22 hl (k := 1) rfl (by decide +kernel) (by decide) rfl (fun ls hl => ?_)
  refine lv_iinc (v := 2) (lv' := [(6, .int 2), (5, .int 1282), (0, .ref a0), (1, .int (nI j0)), (2, .int 2), (3, .int x1), (4, .int x2)]) hx hb dX12_laysRun_25 hl (k := 1) rfl (by decide +kernel) (by decide) rfl (fun ls hl => ?_)
  refine lv_goto (tgt := 8) hx hb dX12_laysRun_28 (by decide) ?_
  refine lv_iload hx hb dX12_laysRun_8 (lv_at hl 0 rfl) ?_
  refine lv_iload_n hx hb dX12_laysRun_10 rfl (lv_at hl 4 rfl) ?_
  refine lv_icmp_ge (tgt := 31) hx hb dX12_laysRun_11 (by decide) (fun _ => ?_) (fun c => absurd (by decide) c)
  refine lv_aload_n hx hb dX12_laysRun_31 rfl (lv_at hl 2 rfl) ?_
  refine z_get (v := .ref a1) hx hb hg hown hK hP i_X12 rfl 0 rfl 8 (by decide) mt1288 e0 dX12_laysRun_32 ?_
  refine lv_iload hx hb dX12_laysRun_35 (lv_at hl 1 rfl) ?_
  refine lv_iconst (v := 2) hx hb dX12_laysRun_37 (by decide) ?_
  refine z_iast (j := 1282) hx hb hK hP hD hS 1 rfl rfl (Nat.le_of_ble_eq_true rfl) (Nat.le_of_ble_eq_true rfl) dX12_laysRun_38 (fun ff5 H locs y6 hP hD hS => ?_)
  have hP : va_P K.1 classes [(a0, zO 10 83 g0), (a1, zI K 1290 ff5), (a2, zI K 1290 f2), (a3, zI K 1290 f3)] H := hP
  have hD : va_D A [(a0, zO 10 83 g0), (a1, zI K 1290 ff5), (a2, zI K 1290 f2), (a3, zI K 1290 f3)] := hD
  refine lv_aload_n hx hb dX12_laysRun_39 rfl (lv_at hl 2 rfl) ?_
  refine z_get (v := .ref a2) hx hb hg hown hK hP i_X12 rfl 0 rfl 9 (by decide) mt1289 e1 dX12_laysRun_40 ?_
  refine lv_iload hx hb dX12_laysRun_43 (lv_at hl 1 rfl) ?_
  refine lv_iload_n hx hb dX12_laysRun_45 rfl (lv_at hl 3 rfl) ?_
  refine z_iast (j := 1282) hx hb hK hP hD hS 2 rfl rfl (Nat.le_of_ble_eq_true rfl) (Nat.le_of_ble_eq_true rfl) dX12_laysRun_46 (fun ff7 H locs y8 hP hD hS => ?_)
  have hP : va_P K.1 classes [(a0, zO 10 83 g0), (a1, zI K 1290 ff5), (a2, zI K 1290 ff7), (a3, zI K 1290 f3)] H := hP
  have hD : va_D A [(a0, zO 10 83 g0), (a1, zI K 1290 ff5), (a2, zI K 1290 ff7), (a3, zI K 1290 f3)] := hD
  refine lv_aload_n hx hb dX12_laysRun_47 rfl (lv_at hl 2 rfl) ?_
  refine z_get (v := .ref a3) hx hb hg hown hK hP i_X12 rfl 0 rfl 13 (by decide) mt1293 e2 dX12_laysRun_48 ?_
  refine lv_iload hx hb dX12_laysRun_51 (lv_at hl 1 rfl) ?_
  refine lv_iload hx hb dX12_laysRun_53 (lv_at hl 1 rfl) ?_
  refine lv_iconst (v := 1) hx hb dX12_laysRun_55 (by decide) ?_
  refine lv_iadd hx hb dX12_laysRun_56 ?_
  refine z_cst (v := 1283) (by decide +kernel) ?_
  refine z_iast (j := 1282) hx hb hK hP hD hS 3 rfl rfl (Nat.le_of_ble_eq_true rfl) (Nat.le_of_ble_eq_true rfl) dX12_laysRun_57 (fun ff9 H locs y10 hP hD hS => ?_)
  have hP : va_P K.1 classes [(a0, zO 10 83 g0), (a1, zI K 1290 ff5), (a2, zI K 1290 ff7), (a3, zI K 1290 ff9)] H := hP
  have hD : va_D A [(a0, zO 10 83 g0), (a1, zI K 1290 ff5), (a2, zI K 1290 ff7), (a3, zI K 1290 ff9)] := hD
  refine lv_iconst (v := 0) hx hb dX12_laysRun_58 (by decide) ?_
  refine lv_istore (lv' := [(6, .int 0), (5, .int 1282), (0, .ref a0), (1, .int (nI j0)), (2, .int 2), (3, .int x1), (4, .int x2)]) hx hb dX12_laysRun_59 hl (by decide) rfl (fun ls hl => ?_)
  refine lv_iload hx hb dX12_laysRun_61 (lv_at hl 0 rfl) ?_
  refine lv_iload_n hx hb dX12_laysRun_63 rfl (lv_at hl 4 rfl) ?_
  refine lv_icmp_ge (tgt := 132) hx hb dX12_laysRun_64 (by decide) (fun c => absurd c (by decide)) (fun _ => ?_)
  refine lv_iinc (v := 1283) (lv' := [(5, .int 1283), (6, .int 0), (0, .ref a0), (1, .int (nI j0)), (2, .int 2), (3, .int x1), (4, .int x2)]) hx hb dX12_laysRun_67 hl (k := 1) rfl (by decide +kernel) (by decide) rfl (fun ls hl => ?_)
  refine lv_aload_n hx hb dX12_laysRun_70 rfl (lv_at hl 2 rfl) ?_
  refine z_get (v := .ref a1) hx hb hg hown hK hP i_X12 rfl 0 rfl 8 (by decide) mt1288 e0 dX12_laysRun_71 ?_
  refine lv_iload hx hb dX12_laysRun_74 (lv_at hl 0 rfl) ?_
  refine lv_iconst (v := 0) hx hb dX12_laysRun_76 (by decide) ?_
  refine z_iast (j := 1283) hx hb hK hP hD hS 1 rfl rfl (Nat.le_of_ble_eq_true rfl) (Nat.le_of_ble_eq_true rfl) dX12_laysRun_77 (fun ff11 H locs y12 hP hD hS => ?_)
  have hP : va_P K.1 classes [(a0, zO 10 83 g0), (a1, zI K 1290 ff11), (a2, zI K 1290 ff7), (a3, zI K 1290 ff9)] H := hP
  have hD : va_D A [(a0, zO 10 83 g0), (a1, zI K 1290 ff11), (a2, zI K 1290 ff7), (a3, zI K 1290 ff9)] := hD
  refine lv_aload_n hx hb dX12_laysRun_78 rfl (lv_at hl 2 rfl) ?_
  refine z_get (v := .ref a2) hx hb hg hown hK hP i_X12 rfl 0 rfl 9 (by decide) mt1289 e1 dX12_laysRun_79 ?_
  refine lv_iload hx hb dX12_laysRun_82 (lv_at hl 0 rfl) ?_
  refine lv_iload hx hb dX12_laysRun_84 (lv_at hl 1 rfl) ?_
  refine lv_if_ne (tgt := 93) hx hb dX12_laysRun_86 (by decide) (fun c => absurd (by decide) c) (fun _ => ?_)
  refine lv_iload_n hx hb dX12_laysRun_89 rfl (lv_at hl 5 rfl) ?_
  refine lv_goto (tgt := 95) hx hb dX12_laysRun_90 (by decide) ?_
  refine z_iast (j := 1283) hx hb hK hP hD hS 2 rfl rfl (Nat.le_of_ble_eq_true rfl) (Nat.le_of_ble_eq_true rfl) dX12_laysRun_95 (fun ff13 H locs y14 hP hD hS => ?_)
  have hP : va_P K.1 classes [(a0, zO 10 83 g0), (a1, zI K 1290 ff11), (a2, zI K 1290 ff13), (a3, zI K 1290 ff9)] H := hP
  have hD : va_D A [(a0, zO 10 83 g0), (a1, zI K 1290 ff11), (a2, zI K 1290 ff13), (a3, zI K 1290 ff9)] := hD
  refine lv_aload_n hx hb dX12_laysRun_96 rfl (lv_at hl 2 rfl) ?_
  refine z_get (v := .ref a3) hx hb hg hown hK hP i_X12 rfl 0 rfl 13 (by decide) mt1293 e2 dX12_laysRun_97 ?_
  refine lv_iload hx hb dX12_laysRun_100 (lv_at hl 0 rfl) ?_
  refine lv_iload hx hb dX12_laysRun_102 (lv_at hl 0 rfl) ?_
  refine lv_iconst (v := 1) hx hb dX12_laysRun_104 (by decide) ?_
  refine lv_iadd hx hb dX12_laysRun_105 ?_
  refine z_cst (v := 1284) (by decide +kernel) ?_
  refine z_iast (j := 1283) hx hb hK hP hD hS 3 rfl rfl (Nat.le_of_ble_eq_true rfl) (Nat.le_of_ble_eq_true rfl) dX12_laysRun_106 (fun ff15 H locs y16 hP hD hS => ?_)
  have hP : va_P K.1 classes [(a0, zO 10 83 g0), (a1, zI K 1290 ff11), (a2, zI K 1290 ff13), (a3, zI K 1290 ff15)] H := hP
  have hD : va_D A [(a0, zO 10 83 g0), (a1, zI K 1290 ff11), (a2, zI K 1290 ff13), (a3, zI K 1290 ff15)] := hD
  refine lv_aload_n hx hb dX12_laysRun_107 rfl (lv_at hl 2 rfl) ?_
  refine z_get (v := .ref a3) hx hb hg hown hK hP i_X12 rfl 0 rfl 13 (by decide) mt1293 e2 dX12_laysRun_108 ?_
  refine lv_sipush (v := 1280) hx hb dX12_laysRun_111 (by decide) ?_
  refine lv_iload_n hx hb dX12_laysRun_114 rfl (lv_at hl 4 rfl) ?_
  refine lv_iadd hx hb dX12_laysRun_115 ?_
  refine z_cst (v := 1282) (by decide +kernel) ?_
  refine lv_iconst (v := 1) hx hb dX12_laysRun_116 (by decide) ?_
  refine lv_isub hx hb dX12_laysRun_117 ?_
  refine z_cst (v := 1281) (by decide +kernel) ?_
  refine lv_iload hx hb dX12_laysRun_118 (lv_at hl 1 rfl) ?_
  refine lv_isub hx hb dX12_laysRun_120 ?_
  refine z_cst (v := 1281) (by decide +kernel) ?_
  refine lv_iload hx hb dX12_laysRun_121 (lv_at hl 0 rfl) ?_
  refine lv_iconst (v := 1) hx hb dX12_laysRun_123 (by decide) ?_
  refine lv_iadd hx hb dX12_laysRun_124 ?_
  refine z_cst (v := 1284) (by decide +kernel) ?_
  refine z_iast (j := 1281) hx hb hK hP hD hS 3 rfl rfl (Nat.le_of_ble_eq_true rfl) (Nat.le_of_ble_eq_true rfl) dX12_laysRun_125 (fun ff17 H locs y18 hP hD hS => ?_)
  have hP : va_P K.1 classes [(a0, zO 10 83 g0), (a1, zI K 1290 ff11), (a2, zI K 1290 ff13), (a3, zI K 1290 ff17)] H := hP
  have hD : va_D A [(a0, zO 10 83 g0), (a1, zI K 1290 ff11), (a2, zI K 1290 ff13), (a3, zI K 1290 ff17)] := hD
  refine lv_iinc (v := 1) (lv' := [(6, .int 1), (5, .int 1283), (0, .ref a0), (1, .int (nI j0)), (2, .int 2), (3, .int x1), (4, .int x2)]) hx hb dX12_laysRun_126 hl (k := 1) rfl (by decide +kernel) (by decide) rfl (fun ls hl => ?_)
  refine lv_goto (tgt := 61) hx hb dX12_laysRun_129 (by decide) ?_
  refine lv_iload hx hb dX12_laysRun_61 (lv_at hl 0 rfl) ?_
  refine lv_iload_n hx hb dX12_laysRun_63 rfl (lv_at hl 4 rfl) ?_
  refine lv_icmp_ge (tgt := 132) hx hb dX12_laysRun_64 (by decide) (fun c => absurd c (by decide)) (fun _ => ?_)
  refine lv_iinc (v := 1284) (lv' := [(5, .int 1284), (6, .int 1), (0, .ref a0), (1, .int (nI j0)), (2, .int 2), (3, .int x1), (4, .int x2)]) hx hb dX12_laysRun_67 hl (k := 1) rfl (by decide +kernel) (by decide) rfl (fun ls hl => ?_)
  refine lv_aload_n hx hb dX12_laysRun_70 rfl (lv_at hl 2 rfl) ?_
  refine z_get (v := .ref a1) hx hb hg hown hK hP i_X12 rfl 0 rfl 8 (by decide) mt1288 e0 dX12_laysRun_71 ?_
  refine lv_iload hx hb dX12_laysRun_74 (lv_at hl 0 rfl) ?_
  refine lv_iconst (v := 0) hx hb dX12_laysRun_76 (by decide) ?_
  refine z_iast (j := 1284) hx hb hK hP hD hS 1 rfl rfl (Nat.le_of_ble_eq_true rfl) (Nat.le_of_ble_eq_true rfl) dX12_laysRun_77 (fun ff19 H locs y20 hP hD hS => ?_)
  have hP : va_P K.1 classes [(a0, zO 10 83 g0), (a1, zI K 1290 ff19), (a2, zI K 1290 ff13), (a3, zI K 1290 ff17)] H := hP
  have hD : va_D A [(a0, zO 10 83 g0), (a1, zI K 1290 ff19), (a2, zI K 1290 ff13), (a3, zI K 1290 ff17)] := hD
  refine lv_aload_n hx hb dX12_laysRun_78 rfl (lv_at hl 2 rfl) ?_
  refine z_get (v := .ref a2) hx hb hg hown hK hP i_X12 rfl 0 rfl 9 (by decide) mt1289 e1 dX12_laysRun_79 ?_
  refine lv_iload hx hb dX12_laysRun_82 (lv_at hl 0 rfl) ?_
  refine lv_iload hx hb dX12_laysRun_84 (lv_at hl 1 rfl) ?_
  refine lv_if_ne (tgt := 93) hx hb dX12_laysRun_86 (by decide) (fun _ => ?_) (fun c => absurd c (by decide))
  refine lv_iload hx hb dX12_laysRun_93 (lv_at hl 6 rfl) ?_
  refine z_iast (j := 1284) hx hb hK hP hD hS 2 rfl rfl (Nat.le_of_ble_eq_true rfl) (Nat.le_of_ble_eq_true rfl) dX12_laysRun_95 (fun ff21 H locs y22 hP hD hS => ?_)
  have hP : va_P K.1 classes [(a0, zO 10 83 g0), (a1, zI K 1290 ff19), (a2, zI K 1290 ff21), (a3, zI K 1290 ff17)] H := hP
  have hD : va_D A [(a0, zO 10 83 g0), (a1, zI K 1290 ff19), (a2, zI K 1290 ff21), (a3, zI K 1290 ff17)] := hD
  refine lv_aload_n hx hb dX12_laysRun_96 rfl (lv_at hl 2 rfl) ?_
  refine z_get (v := .ref a3) hx hb hg hown hK hP i_X12 rfl 0 rfl 13 (by decide) mt1293 e2 dX12_laysRun_97 ?_
  refine lv_iload hx hb dX12_laysRun_100 (lv_at hl 0 rfl) ?_
  refine lv_iload hx hb dX12_laysRun_102 (lv_at hl 0 rfl) ?_
  refine lv_iconst (v := 1) hx hb dX12_laysRun_104 (by decide) ?_
  refine lv_iadd hx hb dX12_laysRun_105 ?_
  refine z_cst (v := 1285) (by decide +kernel) ?_
  refine z_iast (j := 1284) hx hb hK hP hD hS 3 rfl rfl (Nat.le_of_ble_eq_true rfl) (Nat.le_of_ble_eq_true rfl) dX12_laysRun_106 (fun ff23 H locs y24 hP hD hS => ?_)
  have hP : va_P K.1 classes [(a0, zO 10 83 g0), (a1, zI K 1290 ff19), (a2, zI K 1290 ff21), (a3, zI K 1290 ff23)] H := hP
  have hD : va_D A [(a0, zO 10 83 g0), (a1, zI K 1290 ff19), (a2, zI K 1290 ff21), (a3, zI K 1290 ff23)] := hD
  refine lv_aload_n hx hb dX12_laysRun_107 rfl (lv_at hl 2 rfl) ?_
  refine z_get (v := .ref a3) hx hb hg hown hK hP i_X12 rfl 0 rfl 13 (by decide) mt1293 e2 dX12_laysRun_108 ?_
  refine lv_sipush (v := 1280) hx hb dX12_laysRun_111 (by decide) ?_
  refine lv_iload_n hx hb dX12_laysRun_114 rfl (lv_at hl 4 rfl) ?_
  refine lv_iadd hx hb dX12_laysRun_115 ?_
  refine z_cst (v := 1282) (by decide +kernel) ?_
  refine lv_iconst (v := 1) hx hb dX12_laysRun_116 (by decide) ?_
  refine lv_isub hx hb dX12_laysRun_117 ?_
  refine z_cst (v := 1281) (by decide +kernel) ?_
  refine lv_iload hx hb dX12_laysRun_118 (lv_at hl 1 rfl) ?_
  refine lv_isub hx hb dX12_laysRun_120 ?_
  refine z_cst (v := 1280) (by decide +kernel) ?_
  refine lv_iload hx hb dX12_laysRun_121 (lv_at hl 0 rfl) ?_
  refine lv_iconst (v := 1) hx hb dX12_laysRun_123 (by decide) ?_
  refine lv_iadd hx hb dX12_laysRun_124 ?_
  refine z_cst (v := 1285) (by decide +kernel) ?_
  refine z_iast (j := 1280) hx hb hK hP hD hS 3 rfl rfl (Nat.le_of_ble_eq_true rfl) (Nat.le_of_ble_eq_true rfl) dX12_laysRun_125 (fun ff25 H locs y26 hP hD hS => ?_)
  have hP : va_P K.1 classes [(a0, zO 10 83 g0), (a1, zI K 1290 ff19), (a2, zI K 1290 ff21), (a3, zI K 1290 ff25)] H := hP
  have hD : va_D A [(a0, zO 10 83 g0), (a1, zI K 1290 ff19), (a2, zI K 1290 ff21), (a3, zI K 1290 ff25)] := hD
  refine lv_iinc (v := 2) (lv' := [(6, .int 2), (5, .int 1284), (0, .ref a0), (1, .int (nI j0)), (2, .int 2), (3, .int x1), (4, .int x2)]) hx hb dX12_laysRun_126 hl (k := 1) rfl (by decide +kernel) (by decide) rfl (fun ls hl => ?_)
  refine lv_goto (tgt := 61) hx hb dX12_laysRun_129 (by decide) ?_
  refine lv_iload hx hb dX12_laysRun_61 (lv_at hl 0 rfl) ?_
  refine lv_iload_n hx hb dX12_laysRun_63 rfl (lv_at hl 4 rfl) ?_
  refine lv_icmp_ge (tgt := 132) hx hb dX12_laysRun_64 (by decide) (fun _ => ?_) (fun c => absurd (by decide) c)
  subst y26
  subst y24
  subst y22
  subst y20
  subst y18
  subst y16
  subst y14
  subst y12
  subst y10
  subst y8
  subst y6
  subst y4
  subst y2
  have hP9 : va_P K.1 classes [(a0, zO 10 83 g0), (a1, zI K 1290 (va_up (va_up (va_up (va_up (va_up f1 1280 4) 1281 4) 1282 2) 1283 0) 1284 0)), (a2, zI K 1290 (va_up (va_up (va_up f2 1282 (nI j0)) 1283 x1) 1284 x2)), (a3, zI K 1290 (va_up (va_up (va_up (va_up (va_up f3 1282 1283) 1283 1284) 1281 1284) 1284 1285) 1280 1285))] H := hP.sub [0, 1, 2, 3] rfl
  have hD9 : va_D A [(a0, zO 10 83 g0), (a1, zI K 1290 (va_up (va_up (va_up (va_up (va_up f1 1280 4) 1281 4) 1282 2) 1283 0) 1284 0)), (a2, zI K 1290 (va_up (va_up (va_up f2 1282 (nI j0)) 1283 x1) 1284 x2)), (a3, zI K 1290 (va_up (va_up (va_up (va_up (va_up f3 1282 1283) 1283 1284) 1281 1284) 1284 1285) 1280 1285))] := hD.sub [0, 1, 2, 3] (by decide) rfl
  exact z_vret hx hb hr (fun _ => 0) trivial hP9 hD9 hS (Nat.le_of_ble_eq_true rfl) (Nat.le_of_ble_eq_true rfl) hlocks dX12_laysRun_132
set_option maxHeartbeats 4000000 in
set_option maxRecDepth 100000 in
theorem cX12_begins_3 (l : Launch) (K : zK) (sz : Nat) (a0 : Nat) (a1 : Nat) (a2 : Nat) (a3 : Nat) (a4 : Nat) (a5 : Nat) (a6 : Nat) (a7 : Nat) (a8 : Nat) (a9 : Nat) (a10 : Nat) (a11 : Nat) (a12 : Nat) (a13 : Nat) (g0 : Nat → Value) (f1 : Nat → Int32) (f2 : Nat → Int32) (f3 : Nat → Int32) (f4 : Nat → Int32) (f5 : Nat → Int32) (f6 : Nat → Int32) (f7 : Nat → Int32) (f8 : Nat → Int32) (f9 : Nat → Int32) (f10 : Nat → Int32) (f11 : Nat → Int32) (f12 : Nat → Int32) (f13 : Nat → Int32) (j0 : Nat) (hj0 : j0 < 8) (x1 : Int32) (x2 : Int32) (e0 : g0 80 = (.ref a1)) (e1 : g0 8 = (.ref a2)) (e2 : g0 9 = (.ref a3)) (e3 : g0 13 = (.ref a4)) (e4 : g0 57 = (.int 0)) (e5 : g0 60 = (.int 1)) (e6 : g0 32 = (.int 16)) (e7 : g0 52 = (.ref a5)) (e8 : g0 40 = (.int 0)) (e9 : g0 46 = (.int 0)) (e10 : g0 53 = (.ref a6)) (e11 : g0 33 = (.ref a7)) (e12 : f7 15 = 0) (e13 : f7 14 = 0) (e14 : f7 13 = 0) (e15 : f7 12 = 0) (e16 : f7 11 = 0) (e17 : f7 10 = 0) (e18 : f7 9 = 0) (e19 : f7 8 = 0) (e20 : f7 7 = 0) (e21 : f7 6 = 0) (e22 : f7 5 = 0) (e23 : f7 4 = 0) (e24 : f7 3 = 0) (e25 : f7 2 = 0) (e26 : f7 1 = 0) (e27 : f7 0 = 0) (e28 : g0 34 = (.ref a8)) (e29 : f8 0 = 0) (e30 : g0 35 = (.ref a9)) (e31 : g0 36 = (.ref a10)) (e32 : g0 37 = (.ref a11)) (e33 : f11 0 = 0) (e34 : g0 38 = (.ref a12)) (e35 : g0 39 = (.ref a13)) (e36 : f13 0 = 0) (e37 : f8 1 = 0) (e38 : f11 1 = 0) (e39 : f13 1 = 0) (e40 : f8 2 = 0) (e41 : f11 2 = 0) (e42 : f13 2 = 0) (e43 : f8 3 = 0) (e44 : f11 3 = 0) (e45 : f13 3 = 0) (e46 : f8 4 = 0) (e47 : f11 4 = 0) (e48 : f13 4 = 0) (e49 : f8 5 = 0) (e50 : f11 5 = 0) (e51 : f13 5 = 0) (e52 : f8 6 = 0) (e53 : f11 6 = 0) (e54 : f13 6 = 0) (e55 : f8 7 = 0) (e56 : f11 7 = 0) (e57 : f13 7 = 0) (e58 : f8 8 = 0) (e59 : f11 8 = 0) (e60 : f13 8 = 0) (e61 : f8 9 = 0) (e62 : f11 9 = 0) (e63 : f13 9 = 0) (e64 : f8 10 = 0) (e65 : f11 10 = 0) (e66 : f13 10 = 0) (e67 : f8 11 = 0) (e68 : f11 11 = 0) (e69 : f13 11 = 0) (e70 : f8 12 = 0) (e71 : f11 12 = 0) (e72 : f13 12 = 0) (e73 : f8 13 = 0) (e74 : f11 13 = 0) (e75 : f13 13 = 0) (e76 : f8 14 = 0) (e77 : f11 14 = 0) (e78 : f13 14 = 0) (e79 : f8 15 = 0) (e80 : f11 15 = 0) (e81 : f13 15 = 0) : Met l yX12_begins (Cond.code yX12_begins cX12_begins 7 (some .int) :: WG) { frames := 3, cells := 0, slots := 0, locals := 61 } (zPre K [(a0, zO 10 83 g0), (a1, zI K 10 f1), (a2, zI K 1290 f2), (a3, zI K 1290 f3), (a4, zI K 1290 f4), (a5, zI K 210000 f5), (a6, zI K 210000 f6), (a7, zI K 60000 f7), (a8, zI K 60000 f8), (a9, zI K 60000 f9), (a10, zI K 60000 f10), (a11, zI K 60000 f11), (a12, zI K 60000 f12), (a13, zI K 60000 f13)] sz [.ref a0, .int (nI j0), .int 2, .int x1, .int x2, .int 0]) (va_Qi (fun (r : Int32) (_ : Nat → Nat) => r = 7) (zB K (va_A [(a0, zO 10 83 g0), (a1, zI K 10 f1), (a2, zI K 1290 f2), (a3, zI K 1290 f3), (a4, zI K 1290 f4), (a5, zI K 210000 f5), (a6, zI K 210000 f6), (a7, zI K 60000 f7), (a8, zI K 60000 f8), (a9, zI K 60000 f9), (a10, zI K 60000 f10), (a11, zI K 60000 f11), (a12, zI K 60000 f12), (a13, zI K 60000 f13)] sz) (fun u : Nat → Nat => [(a0, zO 10 83 (va_up (va_up (va_up (va_up (va_up (va_up (va_up (va_up (va_up (va_up (va_up (va_up (va_up (va_up (va_up (va_up (va_up (va_up (va_up (va_up (va_up (va_up (va_up (va_up (va_up (va_up (va_up (va_up (va_up (va_up (va_up (va_up (va_up (va_up (va_up (va_up (va_up (va_up (va_up (va_up (va_up (va_up (va_up (va_up (va_up (va_up (va_up (va_up g0 79 (.int 0)) 55 (.int 0)) 58 (.int 0)) 59 (.int 600)) 72 (.int 0)) 77 (.int 0)) 62 (.int 1280)) 63 (.int (-1))) 64 (.int 0)) 65 (.int 0)) 61 (.int (-1))) 61 (.int 7)) 54 (.int 0)) 54 (.int 1)) 54 (.int 2)) 54 (.int 3)) 54 (.int 4)) 54 (.int 5)) 54 (.int 6)) 54 (.int 7)) 54 (.int 8)) 54 (.int 9)) 54 (.int 10)) 54 (.int 11)) 54 (.int 12)) 54 (.int 13)) 54 (.int 14)) 54 (.int 15)) 54 (.int 16)) 54 (.int 15)) 54 (.int 14)) 54 (.int 13)) 54 (.int 12)) 54 (.int 11)) 54 (.int 10)) 54 (.int 9)) 54 (.int 8)) 54 (.int 7)) 54 (.int 6)) 54 (.int 5)) 54 (.int 4)) 54 (.int 3)) 54 (.int 2)) 54 (.int 1)) 54 (.int 0)) 32 (.int 16)) 40 (.int 0)) 46 (.int 0))), (a1, zI K 10 (va_up (va_up (va_up (va_up (va_up (va_up (va_up (va_up (va_up (va_up (va_up f1 0 0) 1 0) 2 0) 3 0) 4 0) 5 0) 6 0) 7 0) 8 0) 9 0) 0 0)), (a2, zI K 1290 (va_up (va_up (va_up (va_up (va_up f2 1280 4) 1281 4) 1282 2) 1283 0) 1284 0)), (a3, zI K 1290 (va_up (va_up (va_up f3 1282 (nI j0)) 1283 x1) 1284 x2)), (a4, zI K 1290 (va_up (va_up (va_up (va_up (va_up f4 1282 1283) 1283 1284) 1281 1284) 1284 1285) 1280 1285)), (a5, zI K 210000 (va_up (va_up (va_up (va_up (va_up (va_up (va_up (va_up (va_up (va_up (va_up (va_up (va_up (va_up (va_up (va_up (va_up (va_up (va_up (va_up (va_up (va_up (va_up (va_up (va_up (va_up (va_up (va_up (va_up (va_up (va_up (va_up (va_up (va_up (va_up (va_up (va_up (va_up (va_up (va_up (va_up (va_up (va_up (va_up (va_up (va_up (va_up (va_up f5 0 (-1)) 1 (-1)) 2 (-1)) 3 (-1)) 4 (-1)) 5 (-1)) 6 (-1)) 7 (-1)) 8 (-1)) 9 (-1)) 10 (-1)) 11 (-1)) 12 (-1)) 13 (-1)) 14 (-1)) 15 (-1)) 0 0) 1 0) 2 0) 3 0) 4 0) 5 0) 6 0) 7 0) 8 0) 9 0) 10 0) 11 0) 12 0) 13 0) 14 0) 15 0) 0 0) 1 1) 2 2) 3 3) 4 4) 5 5) 6 6) 7 7) 8 8) 9 9) 10 10) 11 11) 12 12) 13 13) 14 14) 15 15)), (a6, zI K 210000 (va_up (va_up (va_up (va_up (va_up (va_up (va_up (va_up (va_up (va_up (va_up (va_up (va_up (va_up (va_up (va_up f6 0 0) 1 1) 2 2) 3 3) 4 4) 5 5) 6 6) 7 7) 8 8) 9 9) 10 10) 11 11) 12 12) 13 13) 14 14) 15 15)), (a7, zI K 60000 (va_up (va_up (va_up (va_up (va_up (va_up (va_up (va_up (va_up (va_up (va_up (va_up (va_up (va_up (va_up (va_up f7 0 0) 1 0) 2 0) 3 0) 4 0) 5 0) 6 0) 7 0) 8 0) 9 0) 10 0) 11 0) 12 0) 13 0) 14 0) 15 0)), (a8, zI K 60000 (va_up (va_up (va_up (va_up (va_up (va_up (va_up (va_up (va_up (va_up (va_up (va_up (va_up (va_up (va_up (va_up f8 0 0) 1 0) 2 0) 3 0) 4 0) 5 0) 6 0) 7 0) 8 0) 9 0) 10 0) 11 0) 12 0) 13 0) 14 0) 15 0)), (a9, zI K 60000 (va_up (va_up (va_up (va_up (va_up (va_up (va_up (va_up (va_up (va_up (va_up (va_up (va_up (va_up (va_up (va_up f9 0 0) 1 0) 2 0) 3 0) 4 0) 5 0) 6 0) 7 0) 8 0) 9 0) 10 0) 11 0) 12 0) 13 0) 14 0) 15 0)), (a10, zI K 60000 (va_up (va_up (va_up (va_up (va_up (va_up (va_up (va_up (va_up (va_up (va_up (va_up (va_up (va_up (va_up (va_up f10 0 0) 1 0) 2 0) 3 0) 4 0) 5 0) 6 0) 7 0) 8 0) 9 0) 10 0) 11 0) 12 0) 13 0) 14 0) 15 0)), (a11, zI K 60000 (va_up (va_up (va_up (va_up (va_up (va_up (va_up (va_up (va_up (va_up (va_up (va_up (va_up (va_up (va_up (va_up f11 0 0) 1 0) 2 0) 3 0) 4 0) 5 0) 6 0) 7 0) 8 0) 9 0) 10 0) 11 0) 12 0) 13 0) 14 0) 15 0)), (a12, zI K 60000 (va_up (va_up (va_up (va_up (va_up (va_up (va_up (va_up (va_up (va_up (va_up (va_up (va_up (va_up (va_up (va_up f12 0 (-1)) 1 (-1)) 2 (-1)) 3 (-1)) 4 (-1)) 5 (-1)) 6 (-1)) 7 (-1)) 8 (-1)) 9 (-1)) 10 (-1)) 11 (-1)) 12 (-1)) 13 (-1)) 14 (-1)) 15 (-1))), (a13, zI K 60000 (va_up (va_up (va_up (va_up (va_up (va_up (va_up (va_up (va_up (va_up (va_up (va_up (va_up (va_up (va_up (va_up f13 0 0) 1 0) 2 0) 3 0) 4 0) 5 0) 6 0) 7 0) 8 0) 9 0) 10 0) 11 0) 12 0) 13 0) 14 0) 15 0))])) (va_A [(a0, zO 10 83 g0), (a1, zI K 10 f1), (a2, zI K 1290 f2), (a3, zI K 1290 f3), (a4, zI K 1290 f4), (a5, zI K 210000 f5), (a6, zI K 210000 f6), (a7, zI K 60000 f7), (a8, zI K 60000 f8), (a9, zI K 60000 f9), (a10, zI K 60000 f10), (a11, zI K 60000 f11), (a12, zI K 60000 f12), (a13, zI K 60000 f13)] sz)) 0 0 (va_A [(a0, zO 10 83 g0), (a1, zI K 10 f1), (a2, zI K 1290 f2), (a3, zI K 1290 f3), (a4, zI K 1290 f4), (a5, zI K 210000 f5), (a6, zI K 210000 f6), (a7, zI K 60000 f7), (a8, zI K 60000 f8), (a9, zI K 60000 f9), (a10, zI K 60000 f10), (a11, zI K 60000 f11), (a12, zI K 60000 f12), (a13, zI K 60000 f13)] sz) := by
  refine z_met (Qc := fun A => (va_Qi (fun (r : Int32) (_ : Nat → Nat) => r = 7) (zB K A (fun u : Nat → Nat => [(a0, zO 10 83 (va_up (va_up (va_up (va_up (va_up (va_up (va_up (va_up (va_up (va_up (va_up (va_up (va_up (va_up (va_up (va_up (va_up (va_up (va_up (va_up (va_up (va_up (va_up (va_up (va_up (va_up (va_up (va_up (va_up (va_up (va_up (va_up (va_up (va_up (va_up (va_up (va_up (va_up (va_up (va_up (va_up (va_up (va_up (va_up (va_up (va_up (va_up (va_up g0 79 (.int 0)) 55 (.int 0)) 58 (.int 0)) 59 (.int 600)) 72 (.int 0)) 77 (.int 0)) 62 (.int 1280)) 63 (.int (-1))) 64 (.int 0)) 65 (.int 0)) 61 (.int (-1))) 61 (.int 7)) 54 (.int 0)) 54 (.int 1)) 54 (.int 2)) 54 (.int 3)) 54 (.int 4)) 54 (.int 5)) 54 (.int 6)) 54 (.int 7)) 54 (.int 8)) 54 (.int 9)) 54 (.int 10)) 54 (.int 11)) 54 (.int 12)) 54 (.int 13)) 54 (.int 14)) 54 (.int 15)) 54 (.int 16)) 54 (.int 15)) 54 (.int 14)) 54 (.int 13)) 54 (.int 12)) 54 (.int 11)) 54 (.int 10)) 54 (.int 9)) 54 (.int 8)) 54 (.int 7)) 54 (.int 6)) 54 (.int 5)) 54 (.int 4)) 54 (.int 3)) 54 (.int 2)) 54 (.int 1)) 54 (.int 0)) 32 (.int 16)) 40 (.int 0)) 46 (.int 0))), (a1, zI K 10 (va_up (va_up (va_up (va_up (va_up (va_up (va_up (va_up (va_up (va_up (va_up f1 0 0) 1 0) 2 0) 3 0) 4 0) 5 0) 6 0) 7 0) 8 0) 9 0) 0 0)), (a2, zI K 1290 (va_up (va_up (va_up (va_up (va_up f2 1280 4) 1281 4) 1282 2) 1283 0) 1284 0)), (a3, zI K 1290 (va_up (va_up (va_up f3 1282 (nI j0)) 1283 x1) 1284 x2)), (a4, zI K 1290 (va_up (va_up (va_up (va_up (va_up f4 1282 1283) 1283 1284) 1281 1284) 1284 1285) 1280 1285)), (a5, zI K 210000 (va_up (va_up (va_up (va_up (va_up (va_up (va_up (va_up (va_up (va_up (va_up (va_up (va_up (va_up (va_up (va_up (va_up (va_up (va_up (va_up (va_up (va_up (va_up (va_up (va_up (va_up (va_up (va_up (va_up (va_up (va_up (va_up (va_up (va_up (va_up (va_up (va_up (va_up (va_up (va_up (va_up (va_up (va_up (va_up (va_up (va_up (va_up (va_up f5 0 (-1)) 1 (-1)) 2 (-1)) 3 (-1)) 4 (-1)) 5 (-1)) 6 (-1)) 7 (-1)) 8 (-1)) 9 (-1)) 10 (-1)) 11 (-1)) 12 (-1)) 13 (-1)) 14 (-1)) 15 (-1)) 0 0) 1 0) 2 0) 3 0) 4 0) 5 0) 6 0) 7 0) 8 0) 9 0) 10 0) 11 0) 12 0) 13 0) 14 0) 15 0) 0 0) 1 1) 2 2) 3 3) 4 4) 5 5) 6 6) 7 7) 8 8) 9 9) 10 10) 11 11) 12 12) 13 13) 14 14) 15 15)), (a6, zI K 210000 (va_up (va_up (va_up (va_up (va_up (va_up (va_up (va_up (va_up (va_up (va_up (va_up (va_up (va_up (va_up (va_up f6 0 0) 1 1) 2 2) 3 3) 4 4) 5 5) 6 6) 7 7) 8 8) 9 9) 10 10) 11 11) 12 12) 13 13) 14 14) 15 15)), (a7, zI K 60000 (va_up (va_up (va_up (va_up (va_up (va_up (va_up (va_up (va_up (va_up (va_up (va_up (va_up (va_up (va_up (va_up f7 0 0) 1 0) 2 0) 3 0) 4 0) 5 0) 6 0) 7 0) 8 0) 9 0) 10 0) 11 0) 12 0) 13 0) 14 0) 15 0)), (a8, zI K 60000 (va_up (va_up (va_up (va_up (va_up (va_up (va_up (va_up (va_up (va_up (va_up (va_up (va_up (va_up (va_up (va_up f8 0 0) 1 0) 2 0) 3 0) 4 0) 5 0) 6 0) 7 0) 8 0) 9 0) 10 0) 11 0) 12 0) 13 0) 14 0) 15 0)), (a9, zI K 60000 (va_up (va_up (va_up (va_up (va_up (va_up (va_up (va_up (va_up (va_up (va_up (va_up (va_up (va_up (va_up (va_up f9 0 0) 1 0) 2 0) 3 0) 4 0) 5 0) 6 0) 7 0) 8 0) 9 0) 10 0) 11 0) 12 0) 13 0) 14 0) 15 0)), (a10, zI K 60000 (va_up (va_up (va_up (va_up (va_up (va_up (va_up (va_up (va_up (va_up (va_up (va_up (va_up (va_up (va_up (va_up f10 0 0) 1 0) 2 0) 3 0) 4 0) 5 0) 6 0) 7 0) 8 0) 9 0) 10 0) 11 0) 12 0) 13 0) 14 0) 15 0)), (a11, zI K 60000 (va_up (va_up (va_up (va_up (va_up (va_up (va_up (va_up (va_up (va_up (va_up (va_up (va_up (va_up (va_up (va_up f11 0 0) 1 0) 2 0) 3 0) 4 0) 5 0) 6 0) 7 0) 8 0) 9 0) 10 0) 11 0) 12 0) 13 0) 14 0) 15 0)), (a12, zI K 60000 (va_up (va_up (va_up (va_up (va_up (va_up (va_up (va_up (va_up (va_up (va_up (va_up (va_up (va_up (va_up (va_up f12 0 (-1)) 1 (-1)) 2 (-1)) 3 (-1)) 4 (-1)) 5 (-1)) 6 (-1)) 7 (-1)) 8 (-1)) 9 (-1)) 10 (-1)) 11 (-1)) 12 (-1)) 13 (-1)) 14 (-1)) 15 (-1))), (a13, zI K 60000 (va_up (va_up (va_up (va_up (va_up (va_up (va_up (va_up (va_up (va_up (va_up (va_up (va_up (va_up (va_up (va_up f13 0 0) 1 0) 2 0) 3 0) 4 0) 5 0) 6 0) 7 0) 8 0) 9 0) 10 0) 11 0) 12 0) 13 0) 14 0) 15 0))])) A)) (by decide +kernel) (Nat.le_of_ble_eq_true rfl) ?_
  intro p e s m args below meth c A ls H hx hb hr hg hown hlocks hml hin hK hP hD hA hS hZ hl
  have hown : s.vm.findClass RX12 = some m.cls := hown
  have hl : lv_has ls 7 [(0, .ref a0), (1, .int (nI j0)), (2, .int 2), (3, .int x1), (4, .int x2), (5, .int 0)] := hl
  refine lv_iconst (v := 0) hx hb dX12_begins_0 (by decide) ?_
  refine lv_istore (lv' := [(6, .int 0), (0, .ref a0), (1, .int (nI j0)), (2, .int 2), (3, .int x1), (4, .int x2), (5, .int 0)]) hx hb dX12_begins_1 hl (by decide) rfl (fun ls hl => ?_)
  refine lv_iload hx hb dX12_begins_3 (lv_at hl 0 rfl) ?_
  refine lv_bipush (v := 10) hx hb dX12_begins_5 (by decide) ?_
  refine lv_icmp_ge (tgt := 24) hx hb dX12_begins_7 (by decide) (fun c => absurd c (by decide)) (fun _ => ?_)
  refine lv_aload_n hx hb dX12_begins_10 rfl (lv_at hl 1 rfl) ?_
  refine z_get (v := .ref a1) hx hb hg hown hK hP i_X12 rfl 0 rfl 80 (by decide) mt1360 e0 dX12_begins_11 ?_
  refine lv_iload hx hb dX12_begins_14 (lv_at hl 0 rfl) ?_
  refine lv_iconst (v := 0) hx hb dX12_begins_16 (by decide) ?_
  refine z_iast (j := 0) hx hb hK hP hD hS 1 rfl rfl (Nat.le_of_ble_eq_true rfl) (Nat.le_of_ble_eq_true rfl) dX12_begins_17 (fun ff1 H locs y2 hP hD hS => ?_)
  have hP : va_P K.1 classes [(a0, zO 10 83 g0), (a1, zI K 10 ff1), (a2, zI K 1290 f2), (a3, zI K 1290 f3), (a4, zI K 1290 f4), (a5, zI K 210000 f5), (a6, zI K 210000 f6), (a7, zI K 60000 f7), (a8, zI K 60000 f8), (a9, zI K 60000 f9), (a10, zI K 60000 f10), (a11, zI K 60000 f11), (a12, zI K 60000 f12), (a13, zI K 60000 f13)] H := hP
  have hD : va_D A [(a0, zO 10 83 g0), (a1, zI K 10 ff1), (a2, zI K 1290 f2), (a3, zI K 1290 f3), (a4, zI K 1290 f4), (a5, zI K 210000 f5), (a6, zI K 210000 f6), (a7, zI K 60000 f7), (a8, zI K 60000 f8), (a9, zI K 60000 f9), (a10, zI K 60000 f10), (a11, zI K 60000 f11), (a12, zI K 60000 f12), (a13, zI K 60000 f13)] := hD
  refine lv_iinc (v := 1) (lv' := [(6, .int 1), (0, .ref a0), (1, .int (nI j0)), (2, .int 2), (3, .int x1), (4, .int x2), (5, .int 0)]) hx hb dX12_begins_18 hl (k := 0) rfl (by decide +kernel) (by decide) rfl (fun ls hl => ?_)
  refine lv_goto (tgt := 3) hx hb dX12_begins_21 (by decide) ?_
  refine lv_iload hx hb dX12_begins_3 (lv_at hl 0 rfl) ?_
  refine lv_bipush (v := 10) hx hb dX12_begins_5 (by decide) ?_
  refine lv_icmp_ge (tgt := 24) hx hb dX12_begins_7 (by decide) (fun c => absurd c (by decide)) (fun _ => ?_)
  refine lv_aload_n hx hb dX12_begins_10 rfl (lv_at hl 1 rfl) ?_
  refine z_get (v := .ref a1) hx hb hg hown hK hP i_X12 rfl 0 rfl 80 (by decide) mt1360 e0 dX12_begins_11 ?_
  refine lv_iload hx hb dX12_begins_14 (lv_at hl 0 rfl) ?_
  refine lv_iconst (v := 0) hx hb dX12_begins_16 (by decide) ?_
  refine z_iast (j := 1) hx hb hK hP hD hS 1 rfl rfl (Nat.le_of_ble_eq_true rfl) (Nat.le_of_ble_eq_true rfl) dX12_begins_17 (fun ff3 H locs y4 hP hD hS => ?_)
  have hP : va_P K.1 classes [(a0, zO 10 83 g0), (a1, zI K 10 ff3), (a2, zI K 1290 f2), (a3, zI K 1290 f3), (a4, zI K 1290 f4), (a5, zI K 210000 f5), (a6, zI K 210000 f6), (a7, zI K 60000 f7), (a8, zI K 60000 f8), (a9, zI K 60000 f9), (a10, zI K 60000 f10), (a11, zI K 60000 f11), (a12, zI K 60000 f12), (a13, zI K 60000 f13)] H := hP
  have hD : va_D A [(a0, zO 10 83 g0), (a1, zI K 10 ff3), (a2, zI K 1290 f2), (a3, zI K 1290 f3), (a4, zI K 1290 f4), (a5, zI K 210000 f5), (a6, zI K 210000 f6), (a7, zI K 60000 f7), (a8, zI K 60000 f8), (a9, zI K 60000 f9), (a10, zI K 60000 f10), (a11, zI K 60000 f11), (a12, zI K 60000 f12), (a13, zI K 60000 f13)] := hD
  refine lv_iinc (v := 2) (lv' := [(6, .int 2), (0, .ref a0), (1, .int (nI j0)), (2, .int 2), (3, .int x1), (4, .int x2), (5, .int 0)]) hx hb dX12_begins_18 hl (k := 0) rfl (by decide +kernel) (by decide) rfl (fun ls hl => ?_)
  refine lv_goto (tgt := 3) hx hb dX12_begins_21 (by decide) ?_
  refine lv_iload hx hb dX12_begins_3 (lv_at hl 0 rfl) ?_
  refine lv_bipush (v := 10) hx hb dX12_begins_5 (by decide) ?_
  refine lv_icmp_ge (tgt := 24) hx hb dX12_begins_7 (by decide) (fun c => absurd c (by decide)) (fun _ => ?_)
  refine lv_aload_n hx hb dX12_begins_10 rfl (lv_at hl 1 rfl) ?_
  refine z_get (v := .ref a1) hx hb hg hown hK hP i_X12 rfl 0 rfl 80 (by decide) mt1360 e0 dX12_begins_11 ?_
  refine lv_iload hx hb dX12_begins_14 (lv_at hl 0 rfl) ?_
  refine lv_iconst (v := 0) hx hb dX12_begins_16 (by decide) ?_
  refine z_iast (j := 2) hx hb hK hP hD hS 1 rfl rfl (Nat.le_of_ble_eq_true rfl) (Nat.le_of_ble_eq_true rfl) dX12_begins_17 (fun ff5 H locs y6 hP hD hS => ?_)
  have hP : va_P K.1 classes [(a0, zO 10 83 g0), (a1, zI K 10 ff5), (a2, zI K 1290 f2), (a3, zI K 1290 f3), (a4, zI K 1290 f4), (a5, zI K 210000 f5), (a6, zI K 210000 f6), (a7, zI K 60000 f7), (a8, zI K 60000 f8), (a9, zI K 60000 f9), (a10, zI K 60000 f10), (a11, zI K 60000 f11), (a12, zI K 60000 f12), (a13, zI K 60000 f13)] H := hP
  have hD : va_D A [(a0, zO 10 83 g0), (a1, zI K 10 ff5), (a2, zI K 1290 f2), (a3, zI K 1290 f3), (a4, zI K 1290 f4), (a5, zI K 210000 f5), (a6, zI K 210000 f6), (a7, zI K 60000 f7), (a8, zI K 60000 f8), (a9, zI K 60000 f9), (a10, zI K 60000 f10), (a11, zI K 60000 f11), (a12, zI K 60000 f12), (a13, zI K 60000 f13)] := hD
  refine lv_iinc (v := 3) (lv' := [(6, .int 3), (0, .ref a0), (1, .int (nI j0)), (2, .int 2), (3, .int x1), (4, .int x2), (5, .int 0)]) hx hb dX12_begins_18 hl (k := 0) rfl (by decide +kernel) (by decide) rfl (fun ls hl => ?_)
  refine lv_goto (tgt := 3) hx hb dX12_begins_21 (by decide) ?_
  refine lv_iload hx hb dX12_begins_3 (lv_at hl 0 rfl) ?_
  refine lv_bipush (v := 10) hx hb dX12_begins_5 (by decide) ?_
  refine lv_icmp_ge (tgt := 24) hx hb dX12_begins_7 (by decide) (fun c => absurd c (by decide)) (fun _ => ?_)
  refine lv_aload_n hx hb dX12_begins_10 rfl (lv_at hl 1 rfl) ?_
  refine z_get (v := .ref a1) hx hb hg hown hK hP i_X12 rfl 0 rfl 80 (by decide) mt1360 e0 dX12_begins_11 ?_
  refine lv_iload hx hb dX12_begins_14 (lv_at hl 0 rfl) ?_
  refine lv_iconst (v := 0) hx hb dX12_begins_16 (by decide) ?_
  refine z_iast (j := 3) hx hb hK hP hD hS 1 rfl rfl (Nat.le_of_ble_eq_true rfl) (Nat.le_of_ble_eq_true rfl) dX12_begins_17 (fun ff7 H locs y8 hP hD hS => ?_)
  have hP : va_P K.1 classes [(a0, zO 10 83 g0), (a1, zI K 10 ff7), (a2, zI K 1290 f2), (a3, zI K 1290 f3), (a4, zI K 1290 f4), (a5, zI K 210000 f5), (a6, zI K 210000 f6), (a7, zI K 60000 f7), (a8, zI K 60000 f8), (a9, zI K 60000 f9), (a10, zI K 60000 f10), (a11, zI K 60000 f11), (a12, zI K 60000 f12), (a13, zI K 60000 f13)] H := hP
  have hD : va_D A [(a0, zO 10 83 g0), (a1, zI K 10 ff7), (a2, zI K 1290 f2), (a3, zI K 1290 f3), (a4, zI K 1290 f4), (a5, zI K 210000 f5), (a6, zI K 210000 f6), (a7, zI K 60000 f7), (a8, zI K 60000 f8), (a9, zI K 60000 f9), (a10, zI K 60000 f10), (a11, zI K 60000 f11), (a12, zI K 60000 f12), (a13, zI K 60000 f13)] := hD
  refine lv_iinc (v := 4) (lv' := [(6, .int 4), (0, .ref a0), (1, .int (nI j0)), (2, .int 2), (3, .int x1), (4, .int x2), (5, .int 0)]) hx hb dX12_begins_18 hl (k := 0) rfl (by decide +kernel) (by decide) rfl (fun ls hl => ?_)
  refine lv_goto (tgt := 3) hx hb dX12_begins_21 (by decide) ?_
  refine lv_iload hx hb dX12_begins_3 (lv_at hl 0 rfl) ?_
  refine lv_bipush (v := 10) hx hb dX12_begins_5 (by decide) ?_
  refine lv_icmp_ge (tgt := 24) hx hb dX12_begins_7 (by decide) (fun c => absurd c (by decide)) (fun _ => ?_)
  refine lv_aload_n hx hb dX12_begins_10 rfl (lv_at hl 1 rfl) ?_
  refine z_get (v := .ref a1) hx hb hg hown hK hP i_X12 rfl 0 rfl 80 (by decide) mt1360 e0 dX12_begins_11 ?_
  refine lv_iload hx hb dX12_begins_14 (lv_at hl 0 rfl) ?_
  refine lv_iconst (v := 0) hx hb dX12_begins_16 (by decide) ?_
  refine z_iast (j := 4) hx hb hK hP hD hS 1 rfl rfl (Nat.le_of_ble_eq_true rfl) (Nat.le_of_ble_eq_true rfl) dX12_begins_17 (fun ff9 H locs y10 hP hD hS => ?_)
  have hP : va_P K.1 classes [(a0, zO 10 83 g0), (a1, zI K 10 ff9), (a2, zI K 1290 f2), (a3, zI K 1290 f3), (a4, zI K 1290 f4), (a5, zI K 210000 f5), (a6, zI K 210000 f6), (a7, zI K 60000 f7), (a8, zI K 60000 f8), (a9, zI K 60000 f9), (a10, zI K 60000 f10), (a11, zI K 60000 f11), (a12, zI K 60000 f12), (a13, zI K 60000 f13)] H := hP
  have hD : va_D A [(a0, zO 10 83 g0), (a1, zI K 10 ff9), (a2, zI K 1290 f2), (a3, zI K 1290 f3), (a4, zI K 1290 f4), (a5, zI K 210000 f5), (a6, zI K 210000 f6), (a7, zI K 60000 f7), (a8, zI K 60000 f8), (a9, zI K 60000 f9), (a10, zI K 60000 f10), (a11, zI K 60000 f11), (a12, zI K 60000 f12), (a13, zI K 60000 f13)] := hD
  refine lv_iinc (v := 5) (lv' := [(6, .int 5), (0, .ref a0), (1, .int (nI j0)), (2, .int 2), (3, .int x1), (4, .int x2), (5, .int 0)]) hx hb dX12_begins_18 hl (k := 0) rfl (by decide +kernel) (by decide) rfl (fun ls hl => ?_)
  refine lv_goto (tgt := 3) hx hb dX12_begins_21 (by decide) ?_
  refine lv_iload hx hb dX12_begins_3 (lv_at hl 0 rfl) ?_
  refine lv_bipush (v := 10) hx hb dX12_begins_5 (by decide) ?_
  refine lv_icmp_ge (tgt := 24) hx hb dX12_begins_7 (by decide) (fun c => absurd c (by decide)) (fun _ => ?_)
  refine lv_aload_n hx hb dX12_begins_10 rfl (lv_at hl 1 rfl) ?_
  refine z_get (v := .ref a1) hx hb hg hown hK hP i_X12 rfl 0 rfl 80 (by decide) mt1360 e0 dX12_begins_11 ?_
  refine lv_iload hx hb dX12_begins_14 (lv_at hl 0 rfl) ?_
  refine lv_iconst (v := 0) hx hb dX12_begins_16 (by decide) ?_
  refine z_iast (j := 5) hx hb hK hP hD hS 1 rfl rfl (Nat.le_of_ble_eq_true rfl) (Nat.le_of_ble_eq_true rfl) dX12_begins_17 (fun ff11 H locs y12 hP hD hS => ?_)
  have hP : va_P K.1 classes [(a0, zO 10 83 g0), (a1, zI K 10 ff11), (a2, zI K 1290 f2), (a3, zI K 1290 f3), (a4, zI K 1290 f4), (a5, zI K 210000 f5), (a6, zI K 210000 f6), (a7, zI K 60000 f7), (a8, zI K 60000 f8), (a9, zI K 60000 f9), (a10, zI K 60000 f10), (a11, zI K 60000 f11), (a12, zI K 60000 f12), (a13, zI K 60000 f13)] H := hP
  have hD : va_D A [(a0, zO 10 83 g0), (a1, zI K 10 ff11), (a2, zI K 1290 f2), (a3, zI K 1290 f3), (a4, zI K 1290 f4), (a5, zI K 210000 f5), (a6, zI K 210000 f6), (a7, zI K 60000 f7), (a8, zI K 60000 f8), (a9, zI K 60000 f9), (a10, zI K 60000 f10), (a11, zI K 60000 f11), (a12, zI K 60000 f12), (a13, zI K 60000 f13)] := hD
  refine lv_iinc (v := 6) (lv' := [(6, .int 6), (0, .ref a0), (1, .int (nI j0)), (2, .int 2), (3, .int x1), (4, .int x2), (5, .int 0)]) hx hb dX12_begins_18 hl (k := 0) rfl (by decide +kernel) (by decide) rfl (fun ls hl => ?_)
  refine lv_goto (tgt := 3) hx hb dX12_begins_21 (by decide) ?_
  refine lv_iload hx hb dX12_begins_3 (lv_at hl 0 rfl) ?_
  refine lv_bipush (v := 10) hx hb dX12_begins_5 (by decide) ?_
  refine lv_icmp_ge (tgt := 24) hx hb dX12_begins_7 (by decide) (fun c => absurd c (by decide)) (fun _ => ?_)
  refine lv_aload_n hx hb dX12_begins_10 rfl (lv_at hl 1 rfl) ?_
  refine z_get (v := .ref a1) hx hb hg hown hK hP i_X12 rfl 0 rfl 80 (by decide) mt1360 e0 dX12_begins_11 ?_
  refine lv_iload hx hb dX12_begins_14 (lv_at hl 0 rfl) ?_
  refine lv_iconst (v := 0) hx hb dX12_begins_16 (by decide) ?_
  refine z_iast (j := 6) hx hb hK hP hD hS 1 rfl rfl (Nat.le_of_ble_eq_true rfl) (Nat.le_of_ble_eq_true rfl) dX12_begins_17 (fun ff13 H locs y14 hP hD hS => ?_)
  have hP : va_P K.1 classes [(a0, zO 10 83 g0), (a1, zI K 10 ff13), (a2, zI K 1290 f2), (a3, zI K 1290 f3), (a4, zI K 1290 f4), (a5, zI K 210000 f5), (a6, zI K 210000 f6), (a7, zI K 60000 f7), (a8, zI K 60000 f8), (a9, zI K 60000 f9), (a10, zI K 60000 f10), (a11, zI K 60000 f11), (a12, zI K 60000 f12), (a13, zI K 60000 f13)] H := hP
  have hD : va_D A [(a0, zO 10 83 g0), (a1, zI K 10 ff13), (a2, zI K 1290 f2), (a3, zI K 1290 f3), (a4, zI K 1290 f4), (a5, zI K 210000 f5), (a6, zI K 210000 f6), (a7, zI K 60000 f7), (a8, zI K 60000 f8), (a9, zI K 60000 f9), (a10, zI K 60000 f10), (a11, zI K 60000 f11), (a12, zI K 60000 f12), (a13, zI K 60000 f13)] := hD
  refine lv_iinc (v := 7) (lv' := [(6, .int 7), (0, .ref a0), (1, .int (nI j0)), (2, .int 2), (3, .int x1), (4, .int x2), (5, .int 0)]) hx hb dX12_begins_18 hl (k := 0) rfl (by decide +kernel) (by decide) rfl (fun ls hl => ?_)
  refine lv_goto (tgt := 3) hx hb dX12_begins_21 (by decide) ?_
  refine lv_iload hx hb dX12_begins_3 (lv_at hl 0 rfl) ?_
  refine lv_bipush (v := 10) hx hb dX12_begins_5 (by decide) ?_
  refine lv_icmp_ge (tgt := 24) hx hb dX12_begins_7 (by decide) (fun c => absurd c (by decide)) (fun _ => ?_)
  refine lv_aload_n hx hb dX12_begins_10 rfl (lv_at hl 1 rfl) ?_
  refine z_get (v := .ref a1) hx hb hg hown hK hP i_X12 rfl 0 rfl 80 (by decide) mt1360 e0 dX12_begins_11 ?_
  refine lv_iload hx hb dX12_begins_14 (lv_at hl 0 rfl) ?_
  refine lv_iconst (v := 0) hx hb dX12_begins_16 (by decide) ?_
  refine z_iast (j := 7) hx hb hK hP hD hS 1 rfl rfl (Nat.le_of_ble_eq_true rfl) (Nat.le_of_ble_eq_true rfl) dX12_begins_17 (fun ff15 H locs y16 hP hD hS => ?_)
  have hP : va_P K.1 classes [(a0, zO 10 83 g0), (a1, zI K 10 ff15), (a2, zI K 1290 f2), (a3, zI K 1290 f3), (a4, zI K 1290 f4), (a5, zI K 210000 f5), (a6, zI K 210000 f6), (a7, zI K 60000 f7), (a8, zI K 60000 f8), (a9, zI K 60000 f9), (a10, zI K 60000 f10), (a11, zI K 60000 f11), (a12, zI K 60000 f12), (a13, zI K 60000 f13)] H := hP
  have hD : va_D A [(a0, zO 10 83 g0), (a1, zI K 10 ff15), (a2, zI K 1290 f2), (a3, zI K 1290 f3), (a4, zI K 1290 f4), (a5, zI K 210000 f5), (a6, zI K 210000 f6), (a7, zI K 60000 f7), (a8, zI K 60000 f8), (a9, zI K 60000 f9), (a10, zI K 60000 f10), (a11, zI K 60000 f11), (a12, zI K 60000 f12), (a13, zI K 60000 f13)] := hD
  refine lv_iinc (v := 8) (lv' := [(6, .int 8), (0, .ref a0), (1, .int (nI j0)), (2, .int 2), (3, .int x1), (4, .int x2), (5, .int 0)]) hx hb dX12_begins_18 hl (k := 0) rfl (by decide +kernel) (by decide) rfl (fun ls hl => ?_)
  refine lv_goto (tgt := 3) hx hb dX12_begins_21 (by decide) ?_
  refine lv_iload hx hb dX12_begins_3 (lv_at hl 0 rfl) ?_
  refine lv_bipush (v := 10) hx hb dX12_begins_5 (by decide) ?_
  refine lv_icmp_ge (tgt := 24) hx hb dX12_begins_7 (by decide) (fun c => absurd c (by decide)) (fun _ => ?_)
  refine lv_aload_n hx hb dX12_begins_10 rfl (lv_at hl 1 rfl) ?_
  refine z_get (v := .ref a1) hx hb hg hown hK hP i_X12 rfl 0 rfl 80 (by decide) mt1360 e0 dX12_begins_11 ?_
  refine lv_iload hx hb dX12_begins_14 (lv_at hl 0 rfl) ?_
  refine lv_iconst (v := 0) hx hb dX12_begins_16 (by decide) ?_
  refine z_iast (j := 8) hx hb hK hP hD hS 1 rfl rfl (Nat.le_of_ble_eq_true rfl) (Nat.le_of_ble_eq_true rfl) dX12_begins_17 (fun ff17 H locs y18 hP hD hS => ?_)
  have hP : va_P K.1 classes [(a0, zO 10 83 g0), (a1, zI K 10 ff17), (a2, zI K 1290 f2), (a3, zI K 1290 f3), (a4, zI K 1290 f4), (a5, zI K 210000 f5), (a6, zI K 210000 f6), (a7, zI K 60000 f7), (a8, zI K 60000 f8), (a9, zI K 60000 f9), (a10, zI K 60000 f10), (a11, zI K 60000 f11), (a12, zI K 60000 f12), (a13, zI K 60000 f13)] H := hP
  have hD : va_D A [(a0, zO 10 83 g0), (a1, zI K 10 ff17), (a2, zI K 1290 f2), (a3, zI K 1290 f3), (a4, zI K 1290 f4), (a5, zI K 210000 f5), (a6, zI K 210000 f6), (a7, zI K 60000 f7), (a8, zI K 60000 f8), (a9, zI K 60000 f9), (a10, zI K 60000 f10), (a11, zI K 60000 f11), (a12, zI K 60000 f12), (a13, zI K 60000 f13)] := hD
  refine lv_iinc (v := 9) (lv' := [(6, .int 9), (0, .ref a0), (1, .int (nI j0)), (2, .int 2), (3, .int x1), (4, .int x2), (5, .int 0)]) hx hb dX12_begins_18 hl (k := 0) rfl (by decide +kernel) (by decide) rfl (fun ls hl => ?_)
  refine lv_goto (tgt := 3) hx hb dX12_begins_21 (by decide) ?_
  refine lv_iload hx hb dX12_begins_3 (lv_at hl 0 rfl) ?_
  refine lv_bipush (v := 10) hx hb dX12_begins_5 (by decide) ?_
  refine lv_icmp_ge (tgt := 24) hx hb dX12_begins_7 (by decide) (fun c => absurd c (by decide)) (fun _ => ?_)
  refine lv_aload_n hx hb dX12_begins_10 rfl (lv_at hl 1 rfl) ?_
  refine z_get (v := .ref a1) hx hb hg hown hK hP i_X12 rfl 0 rfl 80 (by decide) mt1360 e0 dX12_begins_11 ?_
  refine lv_iload hx hb dX12_begins_14 (lv_at hl 0 rfl) ?_
  refine lv_iconst (v := 0) hx hb dX12_begins_16 (by decide) ?_
  refine z_iast (j := 9) hx hb hK hP hD hS 1 rfl rfl (Nat.le_of_ble_eq_true rfl) (Nat.le_of_ble_eq_true rfl) dX12_begins_17 (fun ff19 H locs y20 hP hD hS => ?_)
  have hP : va_P K.1 classes [(a0, zO 10 83 g0), (a1, zI K 10 ff19), (a2, zI K 1290 f2), (a3, zI K 1290 f3), (a4, zI K 1290 f4), (a5, zI K 210000 f5), (a6, zI K 210000 f6), (a7, zI K 60000 f7), (a8, zI K 60000 f8), (a9, zI K 60000 f9), (a10, zI K 60000 f10), (a11, zI K 60000 f11), (a12, zI K 60000 f12), (a13, zI K 60000 f13)] H := hP
  have hD : va_D A [(a0, zO 10 83 g0), (a1, zI K 10 ff19), (a2, zI K 1290 f2), (a3, zI K 1290 f3), (a4, zI K 1290 f4), (a5, zI K 210000 f5), (a6, zI K 210000 f6), (a7, zI K 60000 f7), (a8, zI K 60000 f8), (a9, zI K 60000 f9), (a10, zI K 60000 f10), (a11, zI K 60000 f11), (a12, zI K 60000 f12), (a13, zI K 60000 f13)] := hD
  refine lv_iinc (v := 10) (lv' := [(6, .int 10), (0, .ref a0), (1, .int (nI j0)), (2, .int 2), (3, .int x1), (4, .int x2), (5, .int 0)]) hx hb dX12_begins_18 hl (k := 0) rfl (by decide +kernel) (by decide) rfl (fun ls hl => ?_)
  refine lv_goto (tgt := 3) hx hb dX12_begins_21 (by decide) ?_
  refine lv_iload hx hb dX12_begins_3 (lv_at hl 0 rfl) ?_
  refine lv_bipush (v := 10) hx hb dX12_begins_5 (by decide) ?_
  refine lv_icmp_ge (tgt := 24) hx hb dX12_begins_7 (by decide) (fun _ => ?_) (fun c => absurd (by decide) c)
  refine lv_aload_n hx hb dX12_begins_24 rfl (lv_at hl 1 rfl) ?_
  refine lv_iconst (v := 0) hx hb dX12_begins_25 (by decide) ?_
  refine z_put hx hb hg hown hK hP hD hS i_X12 rfl tyX12_ok nmX12 0 rfl 79 (by decide) mt1359 rfl rfl rfl dX12_begins_26 (fun gg21 H locs y22 hP hD hS => ?_)
  have hP : va_P K.1 classes [(a0, zO 10 83 gg21), (a1, zI K 10 ff19), (a2, zI K 1290 f2), (a3, zI K 1290 f3), (a4, zI K 1290 f4), (a5, zI K 210000 f5), (a6, zI K 210000 f6), (a7, zI K 60000 f7), (a8, zI K 60000 f8), (a9, zI K 60000 f9), (a10, zI K 60000 f10), (a11, zI K 60000 f11), (a12, zI K 60000 f12), (a13, zI K 60000 f13)] H := hP
  have hD : va_D A [(a0, zO 10 83 gg21), (a1, zI K 10 ff19), (a2, zI K 1290 f2), (a3, zI K 1290 f3), (a4, zI K 1290 f4), (a5, zI K 210000 f5), (a6, zI K 210000 f6), (a7, zI K 60000 f7), (a8, zI K 60000 f8), (a9, zI K 60000 f9), (a10, zI K 60000 f10), (a11, zI K 60000 f11), (a12, zI K 60000 f12), (a13, zI K 60000 f13)] := hD
  refine lv_aload_n hx hb dX12_begins_29 rfl (lv_at hl 1 rfl) ?_
  refine lv_iload hx hb dX12_begins_30 (lv_at hl 6 rfl) ?_
  refine lv_if_eq (tgt := 39) hx hb dX12_begins_32 (by decide) (fun _ => ?_) (fun c => absurd (by decide) c)
  refine lv_iconst (v := 0) hx hb dX12_begins_39 (by decide) ?_
  refine z_put hx hb hg hown hK hP hD hS i_X12 rfl tyX12_ok nmX12 0 rfl 55 (by decide) mt1335 rfl rfl rfl dX12_begins_40 (fun gg23 H locs y24 hP hD hS => ?_)
  have hP : va_P K.1 classes [(a0, zO 10 83 gg23), (a1, zI K 10 ff19), (a2, zI K 1290 f2), (a3, zI K 1290 f3), (a4, zI K 1290 f4), (a5, zI K 210000 f5), (a6, zI K 210000 f6), (a7, zI K 60000 f7), (a8, zI K 60000 f8), (a9, zI K 60000 f9), (a10, zI K 60000 f10), (a11, zI K 60000 f11), (a12, zI K 60000 f12), (a13, zI K 60000 f13)] H := hP
  have hD : va_D A [(a0, zO 10 83 gg23), (a1, zI K 10 ff19), (a2, zI K 1290 f2), (a3, zI K 1290 f3), (a4, zI K 1290 f4), (a5, zI K 210000 f5), (a6, zI K 210000 f6), (a7, zI K 60000 f7), (a8, zI K 60000 f8), (a9, zI K 60000 f9), (a10, zI K 60000 f10), (a11, zI K 60000 f11), (a12, zI K 60000 f12), (a13, zI K 60000 f13)] := hD
  refine lv_aload_n hx hb dX12_begins_43 rfl (lv_at hl 1 rfl) ?_
  refine lv_iload_n hx hb dX12_begins_44 rfl (lv_at hl 2 rfl) ?_
  refine lv_iload_n hx hb dX12_begins_45 rfl (lv_at hl 3 rfl) ?_
  refine lv_iload_n hx hb dX12_begins_46 rfl (lv_at hl 4 rfl) ?_
  refine lv_iload hx hb dX12_begins_47 (lv_at hl 5 rfl) ?_
  refine z_callv [(a0, zO 10 83 gg23), (a2, zI K 1290 f2), (a3, zI K 1290 f3), (a4, zI K 1290 f4)] [(a1, zI K 10 ff19), (a5, zI K 210000 f5), (a6, zI K 210000 f6), (a7, zI K 60000 f7), (a8, zI K 60000 f8), (a9, zI K 60000 f9), (a10, zI K 60000 f10), (a11, zI K 60000 f11), (a12, zI K 60000 f12), (a13, zI K 60000 f13)] [0, 2, 3, 4] [1, 5, 6, 7, 8, 9, 10, 11, 12, 13] hP hD hS hA rfl rfl (by decide) (by decide) (by decide +kernel) 0 0 rfl rfl (fun hPc hDc hF => z_runV (As := [.int (nI j0), .int 2, .int x1, .int x2]) (rest := []) ⟨hx, hb, hml, hown, hg⟩ (cX12_laysRun_3 l K H.size a0 a2 a3 a4 gg23 f2 f3 f4 j0 hj0 x1 x2 (zu_of y24 (zu_ne (by decide) (zu_of y22 (zu_ne (by decide) e1)))) (zu_of y24 (zu_ne (by decide) (zu_of y22 (zu_ne (by decide) e2)))) (zu_of y24 (zu_ne (by decide) (zu_of y22 (zu_ne (by decide) e3))))) kV_RX12_482 hd_X12_laysRun rfl rfl ⟨(Nat.le_of_ble_eq_true rfl), (Nat.le_of_ble_eq_true rfl)⟩ hK hS hZ hPc hDc hF 0 rfl rfl rfl hl.1 rfl (Nat.le_of_ble_eq_true rfl) dX12_begins_49 ⟨(Nat.le_of_ble_eq_true rfl), (Nat.le_of_ble_eq_true rfl)⟩) (fun u25 H locs w26 hP hD hS => ?_)
  have hP : va_P K.1 classes [(a1, zI K 10 ff19), (a5, zI K 210000 f5), (a6, zI K 210000 f6), (a7, zI K 60000 f7), (a8, zI K 60000 f8), (a9, zI K 60000 f9), (a10, zI K 60000 f10), (a11, zI K 60000 f11), (a12, zI K 60000 f12), (a13, zI K 60000 f13), (a0, zO 10 83 gg23), (a2, zI K 1290 (va_up (va_up (va_up (va_up (va_up f2 1280 4) 1281 4) 1282 2) 1283 0) 1284 0)), (a3, zI K 1290 (va_up (va_up (va_up f3 1282 (nI j0)) 1283 x1) 1284 x2)), (a4, zI K 1290 (va_up (va_up (va_up (va_up (va_up f4 1282 1283) 1283 1284) 1281 1284) 1284 1285) 1280 1285))] H := hP
  have hD : va_D A [(a1, zI K 10 ff19), (a5, zI K 210000 f5), (a6, zI K 210000 f6), (a7, zI K 60000 f7), (a8, zI K 60000 f8), (a9, zI K 60000 f9), (a10, zI K 60000 f10), (a11, zI K 60000 f11), (a12, zI K 60000 f12), (a13, zI K 60000 f13), (a0, zO 10 83 gg23), (a2, zI K 1290 (va_up (va_up (va_up (va_up (va_up f2 1280 4) 1281 4) 1282 2) 1283 0) 1284 0)), (a3, zI K 1290 (va_up (va_up (va_up f3 1282 (nI j0)) 1283 x1) 1284 x2)), (a4, zI K 1290 (va_up (va_up (va_up (va_up (va_up f4 1282 1283) 1283 1284) 1281 1284) 1284 1285) 1280 1285))] := hD
  obtain ⟨ff28, y29⟩ : ∃ z, z = ((va_up (va_up (va_up (va_up (va_up f2 1280 4) 1281 4) 1282 2) 1283 0) 1284 0) : Nat → Int32) := ⟨_, rfl⟩
  rw [← y29] at hP hD
  obtain ⟨ff30, y31⟩ : ∃ z, z = ((va_up (va_up (va_up f3 1282 (nI j0)) 1283 x1) 1284 x2) : Nat → Int32) := ⟨_, rfl⟩
  rw [← y31] at hP hD
  obtain ⟨ff32, y33⟩ : ∃ z, z = ((va_up (va_up (va_up (va_up (va_up f4 1282 1283) 1283 1284) 1281 1284) 1284 1285) 1280 1285) : Nat → Int32) := ⟨_, rfl⟩
  rw [← y33] at hP hD
  refine lv_aload_n hx hb dX12_begins_52 rfl (lv_at hl 1 rfl) ?_
  refine lv_iconst (v := 0) hx hb dX12_begins_53 (by decide) ?_
  refine z_put hx hb hg hown hK hP hD hS i_X12 rfl tyX12_ok nmX12 10 rfl 58 (by decide) mt1338 rfl rfl rfl dX12_begins_54 (fun gg34 H locs y35 hP hD hS => ?_)
  have hP : va_P K.1 classes [(a1, zI K 10 ff19), (a5, zI K 210000 f5), (a6, zI K 210000 f6), (a7, zI K 60000 f7), (a8, zI K 60000 f8), (a9, zI K 60000 f9), (a10, zI K 60000 f10), (a11, zI K 60000 f11), (a12, zI K 60000 f12), (a13, zI K 60000 f13), (a0, zO 10 83 gg34), (a2, zI K 1290 ff28), (a3, zI K 1290 ff30), (a4, zI K 1290 ff32)] H := hP
  have hD : va_D A [(a1, zI K 10 ff19), (a5, zI K 210000 f5), (a6, zI K 210000 f6), (a7, zI K 60000 f7), (a8, zI K 60000 f8), (a9, zI K 60000 f9), (a10, zI K 60000 f10), (a11, zI K 60000 f11), (a12, zI K 60000 f12), (a13, zI K 60000 f13), (a0, zO 10 83 gg34), (a2, zI K 1290 ff28), (a3, zI K 1290 ff30), (a4, zI K 1290 ff32)] := hD
  refine lv_aload_n hx hb dX12_begins_57 rfl (lv_at hl 1 rfl) ?_
  refine lv_sipush (v := 600) hx hb dX12_begins_58 (by decide) ?_
  refine z_put hx hb hg hown hK hP hD hS i_X12 rfl tyX12_ok nmX12 10 rfl 59 (by decide) mt1339 rfl rfl rfl dX12_begins_61 (fun gg36 H locs y37 hP hD hS => ?_)
  have hP : va_P K.1 classes [(a1, zI K 10 ff19), (a5, zI K 210000 f5), (a6, zI K 210000 f6), (a7, zI K 60000 f7), (a8, zI K 60000 f8), (a9, zI K 60000 f9), (a10, zI K 60000 f10), (a11, zI K 60000 f11), (a12, zI K 60000 f12), (a13, zI K 60000 f13), (a0, zO 10 83 gg36), (a2, zI K 1290 ff28), (a3, zI K 1290 ff30), (a4, zI K 1290 ff32)] H := hP
  have hD : va_D A [(a1, zI K 10 ff19), (a5, zI K 210000 f5), (a6, zI K 210000 f6), (a7, zI K 60000 f7), (a8, zI K 60000 f8), (a9, zI K 60000 f9), (a10, zI K 60000 f10), (a11, zI K 60000 f11), (a12, zI K 60000 f12), (a13, zI K 60000 f13), (a0, zO 10 83 gg36), (a2, zI K 1290 ff28), (a3, zI K 1290 ff30), (a4, zI K 1290 ff32)] := hD
  refine lv_aload_n hx hb dX12_begins_64 rfl (lv_at hl 1 rfl) ?_
  refine lv_iconst (v := 0) hx hb dX12_begins_65 (by decide) ?_
  refine z_put hx hb hg hown hK hP hD hS i_X12 rfl tyX12_ok nmX12 10 rfl 72 (by decide) mt1352 rfl rfl rfl dX12_begins_66 (fun gg38 H locs y39 hP hD hS => ?_)
  have hP : va_P K.1 classes [(a1, zI K 10 ff19), (a5, zI K 210000 f5), (a6, zI K 210000 f6), (a7, zI K 60000 f7), (a8, zI K 60000 f8), (a9, zI K 60000 f9), (a10, zI K 60000 f10), (a11, zI K 60000 f11), (a12, zI K 60000 f12), (a13, zI K 60000 f13), (a0, zO 10 83 gg38), (a2, zI K 1290 ff28), (a3, zI K 1290 ff30), (a4, zI K 1290 ff32)] H := hP
  have hD : va_D A [(a1, zI K 10 ff19), (a5, zI K 210000 f5), (a6, zI K 210000 f6), (a7, zI K 60000 f7), (a8, zI K 60000 f8), (a9, zI K 60000 f9), (a10, zI K 60000 f10), (a11, zI K 60000 f11), (a12, zI K 60000 f12), (a13, zI K 60000 f13), (a0, zO 10 83 gg38), (a2, zI K 1290 ff28), (a3, zI K 1290 ff30), (a4, zI K 1290 ff32)] := hD
  refine lv_aload_n hx hb dX12_begins_69 rfl (lv_at hl 1 rfl) ?_
  refine lv_iconst (v := 0) hx hb dX12_begins_70 (by decide) ?_
  refine z_put hx hb hg hown hK hP hD hS i_X12 rfl tyX12_ok nmX12 10 rfl 77 (by decide) mt1357 rfl rfl rfl dX12_begins_71 (fun gg40 H locs y41 hP hD hS => ?_)
  have hP : va_P K.1 classes [(a1, zI K 10 ff19), (a5, zI K 210000 f5), (a6, zI K 210000 f6), (a7, zI K 60000 f7), (a8, zI K 60000 f8), (a9, zI K 60000 f9), (a10, zI K 60000 f10), (a11, zI K 60000 f11), (a12, zI K 60000 f12), (a13, zI K 60000 f13), (a0, zO 10 83 gg40), (a2, zI K 1290 ff28), (a3, zI K 1290 ff30), (a4, zI K 1290 ff32)] H := hP
  have hD : va_D A [(a1, zI K 10 ff19), (a5, zI K 210000 f5), (a6, zI K 210000 f6), (a7, zI K 60000 f7), (a8, zI K 60000 f8), (a9, zI K 60000 f9), (a10, zI K 60000 f10), (a11, zI K 60000 f11), (a12, zI K 60000 f12), (a13, zI K 60000 f13), (a0, zO 10 83 gg40), (a2, zI K 1290 ff28), (a3, zI K 1290 ff30), (a4, zI K 1290 ff32)] := hD
  refine lv_aload_n hx hb dX12_begins_74 rfl (lv_at hl 1 rfl) ?_
  refine lv_sipush (v := 1280) hx hb dX12_begins_75 (by decide) ?_
  refine lv_iconst (v := (-1)) hx hb dX12_begins_78 (by decide) ?_
  refine lv_iconst (v := 0) hx hb dX12_begins_79 (by decide) ?_
  refine z_callv [(a0, zO 10 83 gg40)] [(a1, zI K 10 ff19), (a5, zI K 210000 f5), (a6, zI K 210000 f6), (a7, zI K 60000 f7), (a8, zI K 60000 f8), (a9, zI K 60000 f9), (a10, zI K 60000 f10), (a11, zI K 60000 f11), (a12, zI K 60000 f12), (a13, zI K 60000 f13), (a2, zI K 1290 ff28), (a3, zI K 1290 ff30), (a4, zI K 1290 ff32)] [10] [0, 1, 2, 3, 4, 5, 6, 7, 8, 9, 11, 12, 13] hP hD hS hA rfl rfl (by decide) (by decide) (by decide +kernel) 0 0 rfl rfl (fun hPc hDc hF => z_runV (As := [.int 1280, .int (-1), .int 0]) (rest := []) ⟨hx, hb, hml, hown, hg⟩ (cX12_goesOn_1 l K H.size a0 gg40) kV_RX12_404 hd_X12_goesOn rfl rfl ⟨(Nat.le_of_ble_eq_true rfl), (Nat.le_of_ble_eq_true rfl)⟩ hK hS hZ hPc hDc hF 0 rfl rfl rfl hl.1 rfl (Nat.le_of_ble_eq_true rfl) dX12_begins_80 ⟨(Nat.le_of_ble_eq_true rfl), (Nat.le_of_ble_eq_true rfl)⟩) (fun u42 H locs w43 hP hD hS => ?_)
  have hP : va_P K.1 classes [(a1, zI K 10 ff19), (a5, zI K 210000 f5), (a6, zI K 210000 f6), (a7, zI K 60000 f7), (a8, zI K 60000 f8), (a9, zI K 60000 f9), (a10, zI K 60000 f10), (a11, zI K 60000 f11), (a12, zI K 60000 f12), (a13, zI K 60000 f13), (a2, zI K 1290 ff28), (a3, zI K 1290 ff30), (a4, zI K 1290 ff32), (a0, zO 10 83 (va_up (va_up (va_up (va_up gg40 62 (.int 1280)) 63 (.int (-1))) 64 (.int 0)) 65 (.int 0)))] H := hP
  have hD : va_D A [(a1, zI K 10 ff19), (a5, zI K 210000 f5), (a6, zI K 210000 f6), (a7, zI K 60000 f7), (a8, zI K 60000 f8), (a9, zI K 60000 f9), (a10, zI K 60000 f10), (a11, zI K 60000 f11), (a12, zI K 60000 f12), (a13, zI K 60000 f13), (a2, zI K 1290 ff28), (a3, zI K 1290 ff30), (a4, zI K 1290 ff32), (a0, zO 10 83 (va_up (va_up (va_up (va_up gg40 62 (.int 1280)) 63 (.int (-1))) 64 (.int 0)) 65 (.int 0)))] := hD
  obtain ⟨gg45, y46⟩ : ∃ z, z = ((va_up (va_up (va_up (va_up gg40 62 (.int 1280)) 63 (.int (-1))) 64 (.int 0)) 65 (.int 0)) : Nat → Value) := ⟨_, rfl⟩
  rw [← y46] at hP hD
  refine lv_aload_n hx hb dX12_begins_83 rfl (lv_at hl 1 rfl) ?_
  refine z_callv [(a0, zO 10 83 gg45)] [(a1, zI K 10 ff19), (a5, zI K 210000 f5), (a6, zI K 210000 f6), (a7, zI K 60000 f7), (a8, zI K 60000 f8), (a9, zI K 60000 f9), (a10, zI K 60000 f10), (a11, zI K 60000 f11), (a12, zI K 60000 f12), (a13, zI K 60000 f13), (a2, zI K 1290 ff28), (a3, zI K 1290 ff30), (a4, zI K 1290 ff32)] [13] [0, 1, 2, 3, 4, 5, 6, 7, 8, 9, 10, 11, 12] hP hD hS hA rfl rfl (by decide) (by decide) (by decide +kernel) 0 0 rfl rfl (fun hPc hDc hF => z_runV (As := []) (rest := []) ⟨hx, hb, hml, hown, hg⟩ (cX12_finds_1 l K H.size a0 gg45 (zu_of y46 (zu_ne (by decide) (zu_ne (by decide) (zu_ne (by decide) (zu_ne (by decide) (zu_of y41 (zu_ne (by decide) (zu_of y39 zu_eq)))))))) (zu_of y46 zu_eq) (zu_of y46 (zu_ne (by decide) (zu_ne (by decide) (zu_ne (by decide) (zu_ne (by decide) (zu_of y41 (zu_ne (by decide) (zu_of y39 (zu_ne (by decide) (zu_of y37 (zu_ne (by decide) (zu_of y35 zu_eq)))))))))))) (zu_of y46 (zu_ne (by decide) (zu_ne (by decide) (zu_ne (by decide) (zu_ne (by decide) (zu_of y41 (zu_ne (by decide) (zu_of y39 (zu_ne (by decide) (zu_of y37 zu_eq)))))))))) (zu_of y46 (zu_ne (by decide) (zu_ne (by decide) (zu_ne (by decide) (zu_ne (by decide) (zu_of y41 (zu_ne (by decide) (zu_of y39 (zu_ne (by decide) (zu_of y37 (zu_ne (by decide) (zu_of y35 (zu_ne (by decide) (zu_of y24 (zu_ne (by decide) (zu_of y22 (zu_ne (by decide) e4))))))))))))))))) (zu_of y46 (zu_ne (by decide) (zu_ne (by decide) (zu_ne (by decide) (zu_ne (by decide) (zu_of y41 (zu_ne (by decide) (zu_of y39 (zu_ne (by decide) (zu_of y37 (zu_ne (by decide) (zu_of y35 (zu_ne (by decide) (zu_of y24 (zu_ne (by decide) (zu_of y22 (zu_ne (by decide) e5)))))))))))))))))) kV_RX12_479 hd_X12_finds rfl rfl ⟨(Nat.le_of_ble_eq_true rfl), (Nat.le_of_ble_eq_true rfl)⟩ hK hS hZ hPc hDc hF 0 rfl rfl rfl hl.1 rfl (Nat.le_of_ble_eq_true rfl) dX12_begins_84 ⟨(Nat.le_of_ble_eq_true rfl), (Nat.le_of_ble_eq_true rfl)⟩) (fun u47 H locs w48 hP hD hS => ?_)
  have hP : va_P K.1 classes [(a1, zI K 10 ff19), (a5, zI K 210000 f5), (a6, zI K 210000 f6), (a7, zI K 60000 f7), (a8, zI K 60000 f8), (a9, zI K 60000 f9), (a10, zI K 60000 f10), (a11, zI K 60000 f11), (a12, zI K 60000 f12), (a13, zI K 60000 f13), (a2, zI K 1290 ff28), (a3, zI K 1290 ff30), (a4, zI K 1290 ff32), (a0, zO 10 83 (va_up (va_up gg45 61 (.int (-1))) 61 (.int 7)))] H := hP
  have hD : va_D A [(a1, zI K 10 ff19), (a5, zI K 210000 f5), (a6, zI K 210000 f6), (a7, zI K 60000 f7), (a8, zI K 60000 f8), (a9, zI K 60000 f9), (a10, zI K 60000 f10), (a11, zI K 60000 f11), (a12, zI K 60000 f12), (a13, zI K 60000 f13), (a2, zI K 1290 ff28), (a3, zI K 1290 ff30), (a4, zI K 1290 ff32), (a0, zO 10 83 (va_up (va_up gg45 61 (.int (-1))) 61 (.int 7)))] := hD
  obtain ⟨gg50, y51⟩ : ∃ z, z = ((va_up (va_up gg45 61 (.int (-1))) 61 (.int 7)) : Nat → Value) := ⟨_, rfl⟩
  rw [← y51] at hP hD
  refine lv_aload_n hx hb dX12_begins_87 rfl (lv_at hl 1 rfl) ?_
  refine z_get (v := .ref a1) hx hb hg hown hK hP i_X12 rfl 13 rfl 80 (by decide) mt1360 (zu_of y51 (zu_ne (by decide) (zu_ne (by decide) (zu_of y46 (zu_ne (by decide) (zu_ne (by decide) (zu_ne (by decide) (zu_ne (by decide) (zu_of y41 (zu_ne (by decide) (zu_of y39 (zu_ne (by decide) (zu_of y37 (zu_ne (by decide) (zu_of y35 (zu_ne (by decide) (zu_of y24 (zu_ne (by decide) (zu_of y22 (zu_ne (by decide) e0)))))))))))))))))))) dX12_begins_88 ?_
  refine lv_iconst (v := 0) hx hb dX12_begins_91 (by decide) ?_
  refine lv_aload_n hx hb dX12_begins_92 rfl (lv_at hl 1 rfl) ?_
  refine z_get (v := .int 0) hx hb hg hown hK hP i_X12 rfl 13 rfl 58 (by decide) mt1338 (zu_of y51 (zu_ne (by decide) (zu_ne (by decide) (zu_of y46 (zu_ne (by decide) (zu_ne (by decide) (zu_ne (by decide) (zu_ne (by decide) (zu_of y41 (zu_ne (by decide) (zu_of y39 (zu_ne (by decide) (zu_of y37 (zu_ne (by decide) (zu_of y35 zu_eq))))))))))))))) dX12_begins_93 ?_
  refine z_iast (j := 0) hx hb hK hP hD hS 0 rfl rfl (Nat.le_of_ble_eq_true rfl) (Nat.le_of_ble_eq_true rfl) dX12_begins_96 (fun ff52 H locs y53 hP hD hS => ?_)
  have hP : va_P K.1 classes [(a1, zI K 10 ff52), (a5, zI K 210000 f5), (a6, zI K 210000 f6), (a7, zI K 60000 f7), (a8, zI K 60000 f8), (a9, zI K 60000 f9), (a10, zI K 60000 f10), (a11, zI K 60000 f11), (a12, zI K 60000 f12), (a13, zI K 60000 f13), (a2, zI K 1290 ff28), (a3, zI K 1290 ff30), (a4, zI K 1290 ff32), (a0, zO 10 83 gg50)] H := hP
  have hD : va_D A [(a1, zI K 10 ff52), (a5, zI K 210000 f5), (a6, zI K 210000 f6), (a7, zI K 60000 f7), (a8, zI K 60000 f8), (a9, zI K 60000 f9), (a10, zI K 60000 f10), (a11, zI K 60000 f11), (a12, zI K 60000 f12), (a13, zI K 60000 f13), (a2, zI K 1290 ff28), (a3, zI K 1290 ff30), (a4, zI K 1290 ff32), (a0, zO 10 83 gg50)] := hD
  refine lv_aload_n hx hb dX12_begins_97 rfl (lv_at hl 1 rfl) ?_
  refine z_get (v := .int 7) hx hb hg hown hK hP i_X12 rfl 13 rfl 61 (by decide) mt1341 (zu_of y51 zu_eq) dX12_begins_98 ?_
  refine lv_iconst (v := (-1)) hx hb dX12_begins_101 (by decide) ?_
  refine lv_icmp_ne (tgt := 112) hx hb dX12_begins_102 (by decide) (fun _ => ?_) (fun c => absurd c (by decide))
  refine lv_aload_n hx hb dX12_begins_112 rfl (lv_at hl 1 rfl) ?_
  refine z_get (v := .int 7) hx hb hg hown hK hP i_X12 rfl 13 rfl 61 (by decide) mt1341 (zu_of y51 zu_eq) dX12_begins_113 ?_
  refine lv_istore (lv' := [(6, .int 7), (0, .ref a0), (1, .int (nI j0)), (2, .int 2), (3, .int x1), (4, .int x2), (5, .int 0)]) hx hb dX12_begins_116 hl (by decide) rfl (fun ls hl => ?_)
  refine lv_aload_n hx hb dX12_begins_118 rfl (lv_at hl 1 rfl) ?_
  refine z_get (v := .int 7) hx hb hg hown hK hP i_X12 rfl 13 rfl 61 (by decide) mt1341 (zu_of y51 zu_eq) dX12_begins_119 ?_
  refine lv_iconst (v := (-1)) hx hb dX12_begins_122 (by decide) ?_
  refine lv_icmp_ne (tgt := 182) hx hb dX12_begins_123 (by decide) (fun _ => ?_) (fun c => absurd c (by decide))
  refine lv_aload_n hx hb dX12_begins_182 rfl (lv_at hl 1 rfl) ?_
  refine z_callv [(a0, zO 10 83 gg50), (a5, zI K 210000 f5), (a6, zI K 210000 f6), (a7, zI K 60000 f7), (a8, zI K 60000 f8), (a9, zI K 60000 f9), (a10, zI K 60000 f10), (a11, zI K 60000 f11), (a12, zI K 60000 f12), (a13, zI K 60000 f13)] [(a1, zI K 10 ff52), (a2, zI K 1290 ff28), (a3, zI K 1290 ff30), (a4, zI K 1290 ff32)] [13, 1, 2, 3, 4, 5, 6, 7, 8, 9] [0, 10, 11, 12] hP hD hS hA rfl rfl (by decide) (by decide) (by decide +kernel) 0 0 rfl rfl (fun hPc hDc hF => z_runV (As := []) (rest := []) ⟨hx, hb, hml, hown, hg⟩ (cX12_sweeps_1 l K H.size a0 a5 a6 a7 a8 a9 a10 a11 a12 a13 gg50 f5 f6 f7 f8 f9 f10 f11 f12 f13 (zu_of y51 (zu_ne (by decide) (zu_ne (by decide) (zu_of y46 (zu_ne (by decide) (zu_ne (by decide) (zu_ne (by decide) (zu_ne (by decide) (zu_of y41 (zu_ne (by decide) (zu_of y39 (zu_ne (by decide) (zu_of y37 (zu_ne (by decide) (zu_of y35 (zu_ne (by decide) (zu_of y24 (zu_ne (by decide) (zu_of y22 (zu_ne (by decide) e6)))))))))))))))))))) (zu_of y51 (zu_ne (by decide) (zu_ne (by decide) (zu_of y46 (zu_ne (by decide) (zu_ne (by decide) (zu_ne (by decide) (zu_ne (by decide) (zu_of y41 (zu_ne (by decide) (zu_of y39 (zu_ne (by decide) (zu_of y37 (zu_ne (by decide) (zu_of y35 (zu_ne (by decide) (zu_of y24 (zu_ne (by decide) (zu_of y22 (zu_ne (by decide) e7)))))))))))))))))))) (zu_of y51 (zu_ne (by decide) (zu_ne (by decide) (zu_of y46 (zu_ne (by decide) (zu_ne (by decide) (zu_ne (by decide) (zu_ne (by decide) (zu_of y41 (zu_ne (by decide) (zu_of y39 (zu_ne (by decide) (zu_of y37 (zu_ne (by decide) (zu_of y35 (zu_ne (by decide) (zu_of y24 (zu_ne (by decide) (zu_of y22 (zu_ne (by decide) e8)))))))))))))))))))) (zu_of y51 (zu_ne (by decide) (zu_ne (by decide) (zu_of y46 (zu_ne (by decide) (zu_ne (by decide) (zu_ne (by decide) (zu_ne (by decide) (zu_of y41 (zu_ne (by decide) (zu_of y39 (zu_ne (by decide) (zu_of y37 (zu_ne (by decide) (zu_of y35 (zu_ne (by decide) (zu_of y24 (zu_ne (by decide) (zu_of y22 (zu_ne (by decide) e9)))))))))))))))))))) (zu_of y51 (zu_ne (by decide) (zu_ne (by decide) (zu_of y46 (zu_ne (by decide) (zu_ne (by decide) (zu_ne (by decide) (zu_ne (by decide) (zu_of y41 (zu_ne (by decide) (zu_of y39 (zu_ne (by decide) (zu_of y37 (zu_ne (by decide) (zu_of y35 (zu_ne (by decide) (zu_of y24 (zu_ne (by decide) (zu_of y22 (zu_ne (by decide) e10)))))))))))))))))))) (zu_of y51 (zu_ne (by decide) (zu_ne (by decide) (zu_of y46 (zu_ne (by decide) (zu_ne (by decide) (zu_ne (by decide) (zu_ne (by decide) (zu_of y41 (zu_ne (by decide) (zu_of y39 (zu_ne (by decide) (zu_of y37 (zu_ne (by decide) (zu_of y35 (zu_ne (by decide) (zu_of y24 (zu_ne (by decide) (zu_of y22 (zu_ne (by decide) e11)))))))))))))))))))) e12 e13 e14 e15 e16 e17 e18 e19 e20 e21 e22 e23 e24 e25 e26 e27 (zu_of y51 (zu_ne (by decide) (zu_ne (by decide) (zu_of y46 (zu_ne (by decide) (zu_ne (by decide) (zu_ne (by decide) (zu_ne (by decide) (zu_of y41 (zu_ne (by decide) (zu_of y39 (zu_ne (by decide) (zu_of y37 (zu_ne (by decide) (zu_of y35 (zu_ne (by decide) (zu_of y24 (zu_ne (by decide) (zu_of y22 (zu_ne (by decide) e28)))))))))))))))))))) e29 (zu_of y51 (zu_ne (by decide) (zu_ne (by decide) (zu_of y46 (zu_ne (by decide) (zu_ne (by decide) (zu_ne (by decide) (zu_ne (by decide) (zu_of y41 (zu_ne (by decide) (zu_of y39 (zu_ne (by decide) (zu_of y37 (zu_ne (by decide) (zu_of y35 (zu_ne (by decide) (zu_of y24 (zu_ne (by decide) (zu_of y22 (zu_ne (by decide) e30)))))))))))))))))))) (zu_of y51 (zu_ne (by decide) (zu_ne (by decide) (zu_of y46 (zu_ne (by decide) (zu_ne (by decide) (zu_ne (by decide) (zu_ne (by decide) (zu_of y41 (zu_ne (by decide) (zu_of y39 (zu_ne (by decide) (zu_of y37 (zu_ne (by decide) (zu_of y35 (zu_ne (by decide) (zu_of y24 (zu_ne (by decide) (zu_of y22 (zu_ne (by decide) e31)))))))))))))))))))) (zu_of y51 (zu_ne (by decide) (zu_ne (by decide) (zu_of y46 (zu_ne (by decide) (zu_ne (by decide) (zu_ne (by decide) (zu_ne (by decide) (zu_of y41 (zu_ne (by decide) (zu_of y39 (zu_ne (by decide) (zu_of y37 (zu_ne (by decide) (zu_of y35 (zu_ne (by decide) (zu_of y24 (zu_ne (by decide) (zu_of y22 (zu_ne (by decide) e32)))))))))))))))))))) e33 (zu_of y51 (zu_ne (by decide) (zu_ne (by decide) (zu_of y46 (zu_ne (by decide) (zu_ne (by decide) (zu_ne (by decide) (zu_ne (by decide) (zu_of y41 (zu_ne (by decide) (zu_of y39 (zu_ne (by decide) (zu_of y37 (zu_ne (by decide) (zu_of y35 (zu_ne (by decide) (zu_of y24 (zu_ne (by decide) (zu_of y22 (zu_ne (by decide) e34)))))))))))))))))))) (zu_of y51 (zu_ne (by decide) (zu_ne (by decide) (zu_of y46 (zu_ne (by decide) (zu_ne (by decide) (zu_ne (by decide) (zu_ne (by decide) (zu_of y41 (zu_ne (by decide) (zu_of y39 (zu_ne (by decide) (zu_of y37 (zu_ne (by decide) (zu_of y35 (zu_ne (by decide) (zu_of y24 (zu_ne (by decide) (zu_of y22 (zu_ne (by decide) e35)))))))))))))))))))) e36 e37 e38 e39 e40 e41 e42 e43 e44 e45 e46 e47 e48 e49 e50 e51 e52 e53 e54 e55 e56 e57 e58 e59 e60 e61 e62 e63 e64 e65 e66 e67 e68 e69 e70 e71 e72 e73 e74 e75 e76 e77 e78 e79 e80 e81) kV_RX12_489 hd_X12_sweeps rfl rfl ⟨(Nat.le_of_ble_eq_true rfl), (Nat.le_of_ble_eq_true rfl)⟩ hK hS hZ hPc hDc hF 0 rfl rfl rfl hl.1 rfl (Nat.le_of_ble_eq_true rfl) dX12_begins_183 ⟨(Nat.le_of_ble_eq_true rfl), (Nat.le_of_ble_eq_true rfl)⟩) (fun u54 H locs w55 hP hD hS => ?_)
  have hP : va_P K.1 classes [(a1, zI K 10 ff52), (a2, zI K 1290 ff28), (a3, zI K 1290 ff30), (a4, zI K 1290 ff32), (a0, zO 10 83 (va_up (va_up (va_up (va_up (va_up (va_up (va_up (va_up (va_up (va_up (va_up (va_up (va_up (va_up (va_up (va_up (va_up (va_up (va_up (va_up (va_up (va_up (va_up (va_up (va_up (va_up (va_up (va_up (va_up (va_up (va_up (va_up (va_up (va_up (va_up (va_up gg50 54 (.int 0)) 54 (.int 1)) 54 (.int 2)) 54 (.int 3)) 54 (.int 4)) 54 (.int 5)) 54 (.int 6)) 54 (.int 7)) 54 (.int 8)) 54 (.int 9)) 54 (.int 10)) 54 (.int 11)) 54 (.int 12)) 54 (.int 13)) 54 (.int 14)) 54 (.int 15)) 54 (.int 16)) 54 (.int 15)) 54 (.int 14)) 54 (.int 13)) 54 (.int 12)) 54 (.int 11)) 54 (.int 10)) 54 (.int 9)) 54 (.int 8)) 54 (.int 7)) 54 (.int 6)) 54 (.int 5)) 54 (.int 4)) 54 (.int 3)) 54 (.int 2)) 54 (.int 1)) 54 (.int 0)) 32 (.int 16)) 40 (.int 0)) 46 (.int 0))), (a5, zI K 210000 (va_up (va_up (va_up (va_up (va_up (va_up (va_up (va_up (va_up (va_up (va_up (va_up (va_up (va_up (va_up (va_up (va_up (va_up (va_up (va_up (va_up (va_up (va_up (va_up (va_up (va_up (va_up (va_up (va_up (va_up (va_up (va_up (va_up (va_up (va_up (va_up (va_up (va_up (va_up (va_up (va_up (va_up (va_up (va_up (va_up (va_up (va_up (va_up f5 0 (-1)) 1 (-1)) 2 (-1)) 3 (-1)) 4 (-1)) 5 (-1)) 6 (-1)) 7 (-1)) 8 (-1)) 9 (-1)) 10 (-1)) 11 (-1)) 12 (-1)) 13 (-1)) 14 (-1)) 15 (-1)) 0 0) 1 0) 2 0) 3 0) 4 0) 5 0) 6 0) 7 0) 8 0) 9 0) 10 0) 11 0) 12 0) 13 0) 14 0) 15 0) 0 0) 1 1) 2 2) 3 3) 4 4) 5 5) 6 6) 7 7) 8 8) 9 9) 10 10) 11 11) 12 12) 13 13) 14 14) 15 15)), (a6, zI K 210000 (va_up (va_up (va_up (va_up (va_up (va_up (va_up (va_up (va_up (va_up (va_up (va_up (va_up (va_up (va_up (va_up f6 0 0) 1 1) 2 2) 3 3) 4 4) 5 5) 6 6) 7 7) 8 8) 9 9) 10 10) 11 11) 12 12) 13 13) 14 14) 15 15)), (a7, zI K 60000 (va_up (va_up (va_up (va_up (va_up (va_up (va_up (va_up (va_up (va_up (va_up (va_up (va_up (va_up (va_up (va_up f7 0 0) 1 0) 2 0) 3 0) 4 0) 5 0) 6 0) 7 0) 8 0) 9 0) 10 0) 11 0) 12 0) 13 0) 14 0) 15 0)), (a8, zI K 60000 (va_up (va_up (va_up (va_up (va_up (va_up (va_up (va_up (va_up (va_up (va_up (va_up (va_up (va_up (va_up (va_up f8 0 0) 1 0) 2 0) 3 0) 4 0) 5 0) 6 0) 7 0) 8 0) 9 0) 10 0) 11 0) 12 0) 13 0) 14 0) 15 0)), (a9, zI K 60000 (va_up (va_up (va_up (va_up (va_up (va_up (va_up (va_up (va_up (va_up (va_up (va_up (va_up (va_up (va_up (va_up f9 0 0) 1 0) 2 0) 3 0) 4 0) 5 0) 6 0) 7 0) 8 0) 9 0) 10 0) 11 0) 12 0) 13 0) 14 0) 15 0)), (a10, zI K 60000 (va_up (va_up (va_up (va_up (va_up (va_up (va_up (va_up (va_up (va_up (va_up (va_up (va_up (va_up (va_up (va_up f10 0 0) 1 0) 2 0) 3 0) 4 0) 5 0) 6 0) 7 0) 8 0) 9 0) 10 0) 11 0) 12 0) 13 0) 14 0) 15 0)), (a11, zI K 60000 (va_up (va_up (va_up (va_up (va_up (va_up (va_up (va_up (va_up (va_up (va_up (va_up (va_up (va_up (va_up (va_up f11 0 0) 1 0) 2 0) 3 0) 4 0) 5 0) 6 0) 7 0) 8 0) 9 0) 10 0) 11 0) 12 0) 13 0) 14 0) 15 0)), (a12, zI K 60000 (va_up (va_up (va_up (va_up (va_up (va_up (va_up (va_up (va_up (va_up (va_up (va_up (va_up (va_up (va_up (va_up f12 0 (-1)) 1 (-1)) 2 (-1)) 3 (-1)) 4 (-1)) 5 (-1)) 6 (-1)) 7 (-1)) 8 (-1)) 9 (-1)) 10 (-1)) 11 (-1)) 12 (-1)) 13 (-1)) 14 (-1)) 15 (-1))), (a13, zI K 60000 (va_up (va_up (va_up (va_up (va_up (va_up (va_up (va_up (va_up (va_up (va_up (va_up (va_up (va_up (va_up (va_up f13 0 0) 1 0) 2 0) 3 0) 4 0) 5 0) 6 0) 7 0) 8 0) 9 0) 10 0) 11 0) 12 0) 13 0) 14 0) 15 0))] H := hP
  have hD : va_D A [(a1, zI K 10 ff52), (a2, zI K 1290 ff28), (a3, zI K 1290 ff30), (a4, zI K 1290 ff32), (a0, zO 10 83 (va_up (va_up (va_up (va_up (va_up (va_up (va_up (va_up (va_up (va_up (va_up (va_up (va_up (va_up (va_up (va_up (va_up (va_up (va_up (va_up (va_up (va_up (va_up (va_up (va_up (va_up (va_up (va_up (va_up (va_up (va_up (va_up (va_up (va_up (va_up (va_up gg50 54 (.int 0)) 54 (.int 1)) 54 (.int 2)) 54 (.int 3)) 54 (.int 4)) 54 (.int 5)) 54 (.int 6)) 54 (.int 7)) 54 (.int 8)) 54 (.int 9)) 54 (.int 10)) 54 (.int 11)) 54 (.int 12)) 54 (.int 13)) 54 (.int 14)) 54 (.int 15)) 54 (.int 16)) 54 (.int 15)) 54 (.int 14)) 54 (.int 13)) 54 (.int 12)) 54 (.int 11)) 54 (.int 10)) 54 (.int 9)) 54 (.int 8)) 54 (.int 7)) 54 (.int 6)) 54 (.int 5)) 54 (.int 4)) 54 (.int 3)) 54 (.int 2)) 54 (.int 1)) 54 (.int 0)) 32 (.int 16)) 40 (.int 0)) 46 (.int 0))), (a5, zI K 210000 (va_up (va_up (va_up (va_up (va_up (va_up (va_up (va_up (va_up (va_up (va_up (va_up (va_up (va_up (va_up (va_up (va_up (va_up (va_up (va_up (va_up (va_up (va_up (va_up (va_up (va_up (va_up (va_up (va_up (va_up (va_up (va_up (va_up (va_up (va_up (va_up (va_up (va_up (va_up (va_up (va_up (va_up (va_up (va_up (va_up (va_up (va_up (va_up f5 0 (-1)) 1 (-1)) 2 (-1)) 3 (-1)) 4 (-1)) 5 (-1)) 6 (-1)) 7 (-1)) 8 (-1)) 9 (-1)) 10 (-1)) 11 (-1)) 12 (-1)) 13 (-1)) 14 (-1)) 15 (-1)) 0 0) 1 0) 2 0) 3 0) 4 0) 5 0) 6 0) 7 0) 8 0) 9 0) 10 0) 11 0) 12 0) 13 0) 14 0) 15 0) 0 0) 1 1) 2 2) 3 3) 4 4) 5 5) 6 6) 7 7) 8 8) 9 9) 10 10) 11 11) 12 12) 13 13) 14 14) 15 15)), (a6, zI K 210000 (va_up (va_up (va_up (va_up (va_up (va_up (va_up (va_up (va_up (va_up (va_up (va_up (va_up (va_up (va_up (va_up f6 0 0) 1 1) 2 2) 3 3) 4 4) 5 5) 6 6) 7 7) 8 8) 9 9) 10 10) 11 11) 12 12) 13 13) 14 14) 15 15)), (a7, zI K 60000 (va_up (va_up (va_up (va_up (va_up (va_up (va_up (va_up (va_up (va_up (va_up (va_up (va_up (va_up (va_up (va_up f7 0 0) 1 0) 2 0) 3 0) 4 0) 5 0) 6 0) 7 0) 8 0) 9 0) 10 0) 11 0) 12 0) 13 0) 14 0) 15 0)), (a8, zI K 60000 (va_up (va_up (va_up (va_up (va_up (va_up (va_up (va_up (va_up (va_up (va_up (va_up (va_up (va_up (va_up (va_up f8 0 0) 1 0) 2 0) 3 0) 4 0) 5 0) 6 0) 7 0) 8 0) 9 0) 10 0) 11 0) 12 0) 13 0) 14 0) 15 0)), (a9, zI K 60000 (va_up (va_up (va_up (va_up (va_up (va_up (va_up (va_up (va_up (va_up (va_up (va_up (va_up (va_up (va_up (va_up f9 0 0) 1 0) 2 0) 3 0) 4 0) 5 0) 6 0) 7 0) 8 0) 9 0) 10 0) 11 0) 12 0) 13 0) 14 0) 15 0)), (a10, zI K 60000 (va_up (va_up (va_up (va_up (va_up (va_up (va_up (va_up (va_up (va_up (va_up (va_up (va_up (va_up (va_up (va_up f10 0 0) 1 0) 2 0) 3 0) 4 0) 5 0) 6 0) 7 0) 8 0) 9 0) 10 0) 11 0) 12 0) 13 0) 14 0) 15 0)), (a11, zI K 60000 (va_up (va_up (va_up (va_up (va_up (va_up (va_up (va_up (va_up (va_up (va_up (va_up (va_up (va_up (va_up (va_up f11 0 0) 1 0) 2 0) 3 0) 4 0) 5 0) 6 0) 7 0) 8 0) 9 0) 10 0) 11 0) 12 0) 13 0) 14 0) 15 0)), (a12, zI K 60000 (va_up (va_up (va_up (va_up (va_up (va_up (va_up (va_up (va_up (va_up (va_up (va_up (va_up (va_up (va_up (va_up f12 0 (-1)) 1 (-1)) 2 (-1)) 3 (-1)) 4 (-1)) 5 (-1)) 6 (-1)) 7 (-1)) 8 (-1)) 9 (-1)) 10 (-1)) 11 (-1)) 12 (-1)) 13 (-1)) 14 (-1)) 15 (-1))), (a13, zI K 60000 (va_up (va_up (va_up (va_up (va_up (va_up (va_up (va_up (va_up (va_up (va_up (va_up (va_up (va_up (va_up (va_up f13 0 0) 1 0) 2 0) 3 0) 4 0) 5 0) 6 0) 7 0) 8 0) 9 0) 10 0) 11 0) 12 0) 13 0) 14 0) 15 0))] := hD
  obtain ⟨gg57, y58⟩ : ∃ z, z = ((va_up (va_up (va_up (va_up (va_up (va_up (va_up (va_up (va_up (va_up (va_up (va_up (va_up (va_up (va_up (va_up (va_up (va_up (va_up (va_up (va_up (va_up (va_up (va_up (va_up (va_up (va_up (va_up (va_up (va_up (va_up (va_up (va_up (va_up (va_up (va_up gg50 54 (.int 0)) 54 (.int 1)) 54 (.int 2)) 54 (.int 3)) 54 (.int 4)) 54 (.int 5)) 54 (.int 6)) 54 (.int 7)) 54 (.int 8)) 54 (.int 9)) 54 (.int 10)) 54 (.int 11)) 54 (.int 12)) 54 (.int 13)) 54 (.int 14)) 54 (.int 15)) 54 (.int 16)) 54 (.int 15)) 54 (.int 14)) 54 (.int 13)) 54 (.int 12)) 54 (.int 11)) 54 (.int 10)) 54 (.int 9)) 54 (.int 8)) 54 (.int 7)) 54 (.int 6)) 54 (.int 5)) 54 (.int 4)) 54 (.int 3)) 54 (.int 2)) 54 (.int 1)) 54 (.int 0)) 32 (.int 16)) 40 (.int 0)) 46 (.int 0)) : Nat → Value) := ⟨_, rfl⟩
  rw [← y58] at hP hD
  obtain ⟨ff59, y60⟩ : ∃ z, z = ((va_up (va_up (va_up (va_up (va_up (va_up (va_up (va_up (va_up (va_up (va_up (va_up (va_up (va_up (va_up (va_up (va_up (va_up (va_up (va_up (va_up (va_up (va_up (va_up (va_up (va_up (va_up (va_up (va_up (va_up (va_up (va_up (va_up (va_up (va_up (va_up (va_up (va_up (va_up (va_up (va_up (va_up (va_up (va_up (va_up (va_up (va_up (va_up f5 0 (-1)) 1 (-1)) 2 (-1)) 3 (-1)) 4 (-1)) 5 (-1)) 6 (-1)) 7 (-1)) 8 (-1)) 9 (-1)) 10 (-1)) 11 (-1)) 12 (-1)) 13 (-1)) 14 (-1)) 15 (-1)) 0 0) 1 0) 2 0) 3 0) 4 0) 5 0) 6 0) 7 0) 8 0) 9 0) 10 0) 11 0) 12 0) 13 0) 14 0) 15 0) 0 0) 1 1) 2 2) 3 3) 4 4) 5 5) 6 6) 7 7) 8 8) 9 9) 10 10) 11 11) 12 12) 13 13) 14 14) 15 15) : Nat → Int32) := ⟨_, rfl⟩
  rw [← y60] at hP hD
  obtain ⟨ff61, y62⟩ : ∃ z, z = ((va_up (va_up (va_up (va_up (va_up (va_up (va_up (va_up (va_up (va_up (va_up (va_up (va_up (va_up (va_up (va_up f6 0 0) 1 1) 2 2) 3 3) 4 4) 5 5) 6 6) 7 7) 8 8) 9 9) 10 10) 11 11) 12 12) 13 13) 14 14) 15 15) : Nat → Int32) := ⟨_, rfl⟩
  rw [← y62] at hP hD
  obtain ⟨ff63, y64⟩ : ∃ z, z = ((va_up (va_up (va_up (va_up (va_up (va_up (va_up (va_up (va_up (va_up (va_up (va_up (va_up (va_up (va_up (va_up f7 0 0) 1 0) 2 0) 3 0) 4 0) 5 0) 6 0) 7 0) 8 0) 9 0) 10 0) 11 0) 12 0) 13 0) 14 0) 15 0) : Nat → Int32) := ⟨_, rfl⟩
  rw [← y64] at hP hD
  obtain ⟨ff65, y66⟩ : ∃ z, z = ((va_up (va_up (va_up (va_up (va_up (va_up (va_up (va_up (va_up (va_up (va_up (va_up (va_up (va_up (va_up (va_up f8 0 0) 1 0) 2 0) 3 0) 4 0) 5 0) 6 0) 7 0) 8 0) 9 0) 10 0) 11 0) 12 0) 13 0) 14 0) 15 0) : Nat → Int32) := ⟨_, rfl⟩
  rw [← y66] at hP hD
  obtain ⟨ff67, y68⟩ : ∃ z, z = ((va_up (va_up (va_up (va_up (va_up (va_up (va_up (va_up (va_up (va_up (va_up (va_up (va_up (va_up (va_up (va_up f9 0 0) 1 0) 2 0) 3 0) 4 0) 5 0) 6 0) 7 0) 8 0) 9 0) 10 0) 11 0) 12 0) 13 0) 14 0) 15 0) : Nat → Int32) := ⟨_, rfl⟩
  rw [← y68] at hP hD
  obtain ⟨ff69, y70⟩ : ∃ z, z = ((va_up (va_up (va_up (va_up (va_up (va_up (va_up (va_up (va_up (va_up (va_up (va_up (va_up (va_up (va_up (va_up f10 0 0) 1 0) 2 0) 3 0) 4 0) 5 0) 6 0) 7 0) 8 0) 9 0) 10 0) 11 0) 12 0) 13 0) 14 0) 15 0) : Nat → Int32) := ⟨_, rfl⟩
  rw [← y70] at hP hD
  obtain ⟨ff71, y72⟩ : ∃ z, z = ((va_up (va_up (va_up (va_up (va_up (va_up (va_up (va_up (va_up (va_up (va_up (va_up (va_up (va_up (va_up (va_up f11 0 0) 1 0) 2 0) 3 0) 4 0) 5 0) 6 0) 7 0) 8 0) 9 0) 10 0) 11 0) 12 0) 13 0) 14 0) 15 0) : Nat → Int32) := ⟨_, rfl⟩
  rw [← y72] at hP hD
  obtain ⟨ff73, y74⟩ : ∃ z, z = ((va_up (va_up (va_up (va_up (va_up (va_up (va_up (va_up (va_up (va_up (va_up (va_up (va_up (va_up (va_up (va_up f12 0 (-1)) 1 (-1)) 2 (-1)) 3 (-1)) 4 (-1)) 5 (-1)) 6 (-1)) 7 (-1)) 8 (-1)) 9 (-1)) 10 (-1)) 11 (-1)) 12 (-1)) 13 (-1)) 14 (-1)) 15 (-1)) : Nat → Int32) := ⟨_, rfl⟩
  rw [← y74] at hP hD
  obtain ⟨ff75, y76⟩ : ∃ z, z = ((va_up (va_up (va_up (va_up (va_up (va_up (va_up (va_up (va_up (va_up (va_up (va_up (va_up (va_up (va_up (va_up f13 0 0) 1 0) 2 0) 3 0) 4 0) 5 0) 6 0) 7 0) 8 0) 9 0) 10 0) 11 0) 12 0) 13 0) 14 0) 15 0) : Nat → Int32) := ⟨_, rfl⟩
  rw [← y76] at hP hD
  refine lv_iload hx hb dX12_begins_186 (lv_at hl 0 rfl) ?_
  subst y76
  subst y74
  subst y72
  subst y70
  subst y68
  subst y66
  subst y64
  subst y62
  subst y60
  subst y58
  subst y53
  subst y51
  subst y46
  subst y41
  subst y39
  subst y37
  subst y35
  subst y33
  subst y31
  subst y29
  subst y24
  subst y22
  subst y20
  subst y18
  subst y16
  subst y14
  subst y12
  subst y10
  subst y8
  subst y6
  subst y4
  subst y2
  have hP9 : va_P K.1 classes [(a0, zO 10 83 (va_up (va_up (va_up (va_up (va_up (va_up (va_up (va_up (va_up (va_up (va_up (va_up (va_up (va_up (va_up (va_up (va_up (va_up (va_up (va_up (va_up (va_up (va_up (va_up (va_up (va_up (va_up (va_up (va_up (va_up (va_up (va_up (va_up (va_up (va_up (va_up (va_up (va_up (va_up (va_up (va_up (va_up (va_up (va_up (va_up (va_up (va_up (va_up g0 79 (.int 0)) 55 (.int 0)) 58 (.int 0)) 59 (.int 600)) 72 (.int 0)) 77 (.int 0)) 62 (.int 1280)) 63 (.int (-1))) 64 (.int 0)) 65 (.int 0)) 61 (.int (-1))) 61 (.int 7)) 54 (.int 0)) 54 (.int 1)) 54 (.int 2)) 54 (.int 3)) 54 (.int 4)) 54 (.int 5)) 54 (.int 6)) 54 (.int 7)) 54 (.int 8)) 54 (.int 9)) 54 (.int 10)) 54 (.int 11)) 54 (.int 12)) 54 (.int 13)) 54 (.int 14)) 54 (.int 15)) 54 (.int 16)) 54 (.int 15)) 54 (.int 14)) 54 (.int 13)) 54 (.int 12)) 54 (.int 11)) 54 (.int 10)) 54 (.int 9)) 54 (.int 8)) 54 (.int 7)) 54 (.int 6)) 54 (.int 5)) 54 (.int 4)) 54 (.int 3)) 54 (.int 2)) 54 (.int 1)) 54 (.int 0)) 32 (.int 16)) 40 (.int 0)) 46 (.int 0))), (a1, zI K 10 (va_up (va_up (va_up (va_up (va_up (va_up (va_up (va_up (va_up (va_up (va_up f1 0 0) 1 0) 2 0) 3 0) 4 0) 5 0) 6 0) 7 0) 8 0) 9 0) 0 0)), (a2, zI K 1290 (va_up (va_up (va_up (va_up (va_up f2 1280 4) 1281 4) 1282 2) 1283 0) 1284 0)), (a3, zI K 1290 (va_up (va_up (va_up f3 1282 (nI j0)) 1283 x1) 1284 x2)), (a4, zI K 1290 (va_up (va_up (va_up (va_up (va_up f4 1282 1283) 1283 1284) 1281 1284) 1284 1285) 1280 1285)), (a5, zI K 210000 (va_up (va_up (va_up (va_up (va_up (va_up (va_up (va_up (va_up (va_up (va_up (va_up (va_up (va_up (va_up (va_up (va_up (va_up (va_up (va_up (va_up (va_up (va_up (va_up (va_up (va_up (va_up (va_up (va_up (va_up (va_up (va_up (va_up (va_up (va_up (va_up (va_up (va_up (va_up (va_up (va_up (va_up (va_up (va_up (va_up (va_up (va_up (va_up f5 0 (-1)) 1 (-1)) 2 (-1)) 3 (-1)) 4 (-1)) 5 (-1)) 6 (-1)) 7 (-1)) 8 (-1)) 9 (-1)) 10 (-1)) 11 (-1)) 12 (-1)) 13 (-1)) 14 (-1)) 15 (-1)) 0 0) 1 0) 2 0) 3 0) 4 0) 5 0) 6 0) 7 0) 8 0) 9 0) 10 0) 11 0) 12 0) 13 0) 14 0) 15 0) 0 0) 1 1) 2 2) 3 3) 4 4) 5 5) 6 6) 7 7) 8 8) 9 9) 10 10) 11 11) 12 12) 13 13) 14 14) 15 15)), (a6, zI K 210000 (va_up (va_up (va_up (va_up (va_up (va_up (va_up (va_up (va_up (va_up (va_up (va_up (va_up (va_up (va_up (va_up f6 0 0) 1 1) 2 2) 3 3) 4 4) 5 5) 6 6) 7 7) 8 8) 9 9) 10 10) 11 11) 12 12) 13 13) 14 14) 15 15)), (a7, zI K 60000 (va_up (va_up (va_up (va_up (va_up (va_up (va_up (va_up (va_up (va_up (va_up (va_up (va_up (va_up (va_up (va_up f7 0 0) 1 0) 2 0) 3 0) 4 0) 5 0) 6 0) 7 0) 8 0) 9 0) 10 0) 11 0) 12 0) 13 0) 14 0) 15 0)), (a8, zI K 60000 (va_up (va_up (va_up (va_up (va_up (va_up (va_up (va_up (va_up (va_up (va_up (va_up (va_up (va_up (va_up (va_up f8 0 0) 1 0) 2 0) 3 0) 4 0) 5 0) 6 0) 7 0) 8 0) 9 0) 10 0) 11 0) 12 0) 13 0) 14 0) 15 0)), (a9, zI K 60000 (va_up (va_up (va_up (va_up (va_up (va_up (va_up (va_up (va_up (va_up (va_up (va_up (va_up (va_up (va_up (va_up f9 0 0) 1 0) 2 0) 3 0) 4 0) 5 0) 6 0) 7 0) 8 0) 9 0) 10 0) 11 0) 12 0) 13 0) 14 0) 15 0)), (a10, zI K 60000 (va_up (va_up (va_up (va_up (va_up (va_up (va_up (va_up (va_up (va_up (va_up (va_up (va_up (va_up (va_up (va_up f10 0 0) 1 0) 2 0) 3 0) 4 0) 5 0) 6 0) 7 0) 8 0) 9 0) 10 0) 11 0) 12 0) 13 0) 14 0) 15 0)), (a11, zI K 60000 (va_up (va_up (va_up (va_up (va_up (va_up (va_up (va_up (va_up (va_up (va_up (va_up (va_up (va_up (va_up (va_up f11 0 0) 1 0) 2 0) 3 0) 4 0) 5 0) 6 0) 7 0) 8 0) 9 0) 10 0) 11 0) 12 0) 13 0) 14 0) 15 0)), (a12, zI K 60000 (va_up (va_up (va_up (va_up (va_up (va_up (va_up (va_up (va_up (va_up (va_up (va_up (va_up (va_up (va_up (va_up f12 0 (-1)) 1 (-1)) 2 (-1)) 3 (-1)) 4 (-1)) 5 (-1)) 6 (-1)) 7 (-1)) 8 (-1)) 9 (-1)) 10 (-1)) 11 (-1)) 12 (-1)) 13 (-1)) 14 (-1)) 15 (-1))), (a13, zI K 60000 (va_up (va_up (va_up (va_up (va_up (va_up (va_up (va_up (va_up (va_up (va_up (va_up (va_up (va_up (va_up (va_up f13 0 0) 1 0) 2 0) 3 0) 4 0) 5 0) 6 0) 7 0) 8 0) 9 0) 10 0) 11 0) 12 0) 13 0) 14 0) 15 0))] H := hP.sub [4, 0, 1, 2, 3, 5, 6, 7, 8, 9, 10, 11, 12, 13] rfl
  have hD9 : va_D A [(a0, zO 10 83 (va_up (va_up (va_up (va_up (va_up (va_up (va_up (va_up (va_up (va_up (va_up (va_up (va_up (va_up (va_up (va_up (va_up (va_up (va_up (va_up (va_up (va_up (va_up (va_up (va_up (va_up (va_up (va_up (va_up (va_up (va_up (va_up (va_up (va_up (va_up (va_up (va_up (va_up (va_up (va_up (va_up (va_up (va_up (va_up (va_up (va_up (va_up (va_up g0 79 (.int 0)) 55 (.int 0)) 58 (.int 0)) 59 (.int 600)) 72 (.int 0)) 77 (.int 0)) 62 (.int 1280)) 63 (.int (-1))) 64 (.int 0)) 65 (.int 0)) 61 (.int (-1))) 61 (.int 7)) 54 (.int 0)) 54 (.int 1)) 54 (.int 2)) 54 (.int 3)) 54 (.int 4)) 54 (.int 5)) 54 (.int 6)) 54 (.int 7)) 54 (.int 8)) 54 (.int 9)) 54 (.int 10)) 54 (.int 11)) 54 (.int 12)) 54 (.int 13)) 54 (.int 14)) 54 (.int 15)) 54 (.int 16)) 54 (.int 15)) 54 (.int 14)) 54 (.int 13)) 54 (.int 12)) 54 (.int 11)) 54 (.int 10)) 54 (.int 9)) 54 (.int 8)) 54 (.int 7)) 54 (.int 6)) 54 (.int 5)) 54 (.int 4)) 54 (.int 3)) 54 (.int 2)) 54 (.int 1)) 54 (.int 0)) 32 (.int 16)) 40 (.int 0)) 46 (.int 0))), (a1, zI K 10 (va_up (va_up (va_up (va_up (va_up (va_up (va_up (va_up (va_up (va_up (va_up f1 0 0) 1 0) 2 0) 3 0) 4 0) 5 0) 6 0) 7 0) 8 0) 9 0) 0 0)), (a2, zI K 1290 (va_up (va_up (va_up (va_up (va_up f2 1280 4) 1281 4) 1282 2) 1283 0) 1284 0)), (a3, zI K 1290 (va_up (va_up (va_up f3 1282 (nI j0)) 1283 x1) 1284 x2)), (a4, zI K 1290 (va_up (va_up (va_up (va_up (va_up f4 1282 1283) 1283 1284) 1281 1284) 1284 1285) 1280 1285)), (a5, zI K 210000 (va_up (va_up (va_up (va_up (va_up (va_up (va_up (va_up (va_up (va_up (va_up (va_up (va_up (va_up (va_up (va_up (va_up (va_up (va_up (va_up (va_up (va_up (va_up (va_up (va_up (va_up (va_up (va_up (va_up (va_up (va_up (va_up (va_up (va_up (va_up (va_up (va_up (va_up (va_up (va_up (va_up (va_up (va_up (va_up (va_up (va_up (va_up (va_up f5 0 (-1)) 1 (-1)) 2 (-1)) 3 (-1)) 4 (-1)) 5 (-1)) 6 (-1)) 7 (-1)) 8 (-1)) 9 (-1)) 10 (-1)) 11 (-1)) 12 (-1)) 13 (-1)) 14 (-1)) 15 (-1)) 0 0) 1 0) 2 0) 3 0) 4 0) 5 0) 6 0) 7 0) 8 0) 9 0) 10 0) 11 0) 12 0) 13 0) 14 0) 15 0) 0 0) 1 1) 2 2) 3 3) 4 4) 5 5) 6 6) 7 7) 8 8) 9 9) 10 10) 11 11) 12 12) 13 13) 14 14) 15 15)), (a6, zI K 210000 (va_up (va_up (va_up (va_up (va_up (va_up (va_up (va_up (va_up (va_up (va_up (va_up (va_up (va_up (va_up (va_up f6 0 0) 1 1) 2 2) 3 3) 4 4) 5 5) 6 6) 7 7) 8 8) 9 9) 10 10) 11 11) 12 12) 13 13) 14 14) 15 15)), (a7, zI K 60000 (va_up (va_up (va_up (va_up (va_up (va_up (va_up (va_up (va_up (va_up (va_up (va_up (va_up (va_up (va_up (va_up f7 0 0) 1 0) 2 0) 3 0) 4 0) 5 0) 6 0) 7 0) 8 0) 9 0) 10 0) 11 0) 12 0) 13 0) 14 0) 15 0)), (a8, zI K 60000 (va_up (va_up (va_up (va_up (va_up (va_up (va_up (va_up (va_up (va_up (va_up (va_up (va_up (va_up (va_up (va_up f8 0 0) 1 0) 2 0) 3 0) 4 0) 5 0) 6 0) 7 0) 8 0) 9 0) 10 0) 11 0) 12 0) 13 0) 14 0) 15 0)), (a9, zI K 60000 (va_up (va_up (va_up (va_up (va_up (va_up (va_up (va_up (va_up (va_up (va_up (va_up (va_up (va_up (va_up (va_up f9 0 0) 1 0) 2 0) 3 0) 4 0) 5 0) 6 0) 7 0) 8 0) 9 0) 10 0) 11 0) 12 0) 13 0) 14 0) 15 0)), (a10, zI K 60000 (va_up (va_up (va_up (va_up (va_up (va_up (va_up (va_up (va_up (va_up (va_up (va_up (va_up (va_up (va_up (va_up f10 0 0) 1 0) 2 0) 3 0) 4 0) 5 0) 6 0) 7 0) 8 0) 9 0) 10 0) 11 0) 12 0) 13 0) 14 0) 15 0)), (a11, zI K 60000 (va_up (va_up (va_up (va_up (va_up (va_up (va_up (va_up (va_up (va_up (va_up (va_up (va_up (va_up (va_up (va_up f11 0 0) 1 0) 2 0) 3 0) 4 0) 5 0) 6 0) 7 0) 8 0) 9 0) 10 0) 11 0) 12 0) 13 0) 14 0) 15 0)), (a12, zI K 60000 (va_up (va_up (va_up (va_up (va_up (va_up (va_up (va_up (va_up (va_up (va_up (va_up (va_up (va_up (va_up (va_up f12 0 (-1)) 1 (-1)) 2 (-1)) 3 (-1)) 4 (-1)) 5 (-1)) 6 (-1)) 7 (-1)) 8 (-1)) 9 (-1)) 10 (-1)) 11 (-1)) 12 (-1)) 13 (-1)) 14 (-1)) 15 (-1))), (a13, zI K 60000 (va_up (va_up (va_up (va_up (va_up (va_up (va_up (va_up (va_up (va_up (va_up (va_up (va_up (va_up (va_up (va_up f13 0 0) 1 0) 2 0) 3 0) 4 0) 5 0) 6 0) 7 0) 8 0) 9 0) 10 0) 11 0) 12 0) 13 0) 14 0) 15 0))] := hD.sub [4, 0, 1, 2, 3, 5, 6, 7, 8, 9, 10, 11, 12, 13] (by decide) rfl
  exact z_iret hx hb hr (fun _ => 0) rfl hP9 hD9 hS (Nat.le_of_ble_eq_true rfl) (Nat.le_of_ble_eq_true rfl) hlocks dX12_begins_188
set_option maxHeartbeats 4000000 in
set_option maxRecDepth 100000 in
theorem cX12_run_10 (l : Launch) (K : zK) (sz : Nat) (a0 : Nat) (a1 : Nat) (a2 : Nat) (a3 : Nat) (a4 : Nat) (a5 : Nat) (a6 : Nat) (a7 : Nat) (a8 : Nat) (a9 : Nat) (a10 : Nat) (a11 : Nat) (a12 : Nat) (a13 : Nat) (g0 : Nat → Value) (f1 : Nat → Int32) (f2 : Nat → Int32) (f3 : Nat → Int32) (f4 : Nat → Int32) (f5 : Nat → Int32) (f6 : Nat → Int32) (f7 : Nat → Int32) (f8 : Nat → Int32) (f9 : Nat → Int32) (f10 : Nat → Int32) (f11 : Nat → Int32) (f12 : Nat → Int32) (f13 : Nat → Int32) (j0 : Nat) (hj0 : j0 < 8) (x1 : Int32) (x2 : Int32) (e0 : g0 80 = (.ref a1)) (e1 : g0 8 = (.ref a2)) (e2 : g0 9 = (.ref a3)) (e3 : g0 13 = (.ref a4)) (e4 : g0 57 = (.int 0)) (e5 : g0 32 = (.int 16)) (e6 : g0 52 = (.ref a5)) (e7 : g0 40 = (.int 0)) (e8 : g0 46 = (.int 0)) (e9 : g0 53 = (.ref a6)) (e10 : g0 33 = (.ref a7)) (e11 : f7 15 = 0) (e12 : f7 14 = 0) (e13 : f7 13 = 0) (e14 : f7 12 = 0) (e15 : f7 11 = 0) (e16 : f7 10 = 0) (e17 : f7 9 = 0) (e18 : f7 8 = 0) (e19 : f7 7 = 0) (e20 : f7 6 = 0) (e21 : f7 5 = 0) (e22 : f7 4 = 0) (e23 : f7 3 = 0) (e24 : f7 2 = 0) (e25 : f7 1 = 0) (e26 : f7 0 = 0) (e27 : g0 34 = (.ref a8)) (e28 : f8 0 = 0) (e29 : g0 35 = (.ref a9)) (e30 : g0 36 = (.ref a10)) (e31 : g0 37 = (.ref a11)) (e32 : f11 0 = 0) (e33 : g0 38 = (.ref a12)) (e34 : g0 39 = (.ref a13)) (e35 : f13 0 = 0) (e36 : f8 1 = 0) (e37 : f11 1 = 0) (e38 : f13 1 = 0) (e39 : f8 2 = 0) (e40 : f11 2 = 0) (e41 : f13 2 = 0) (e42 : f8 3 = 0) (e43 : f11 3 = 0) (e44 : f13 3 = 0) (e45 : f8 4 = 0) (e46 : f11 4 = 0) (e47 : f13 4 = 0) (e48 : f8 5 = 0) (e49 : f11 5 = 0) (e50 : f13 5 = 0) (e51 : f8 6 = 0) (e52 : f11 6 = 0) (e53 : f13 6 = 0) (e54 : f8 7 = 0) (e55 : f11 7 = 0) (e56 : f13 7 = 0) (e57 : f8 8 = 0) (e58 : f11 8 = 0) (e59 : f13 8 = 0) (e60 : f8 9 = 0) (e61 : f11 9 = 0) (e62 : f13 9 = 0) (e63 : f8 10 = 0) (e64 : f11 10 = 0) (e65 : f13 10 = 0) (e66 : f8 11 = 0) (e67 : f11 11 = 0) (e68 : f13 11 = 0) (e69 : f8 12 = 0) (e70 : f11 12 = 0) (e71 : f13 12 = 0) (e72 : f8 13 = 0) (e73 : f11 13 = 0) (e74 : f13 13 = 0) (e75 : f8 14 = 0) (e76 : f11 14 = 0) (e77 : f13 14 = 0) (e78 : f8 15 = 0) (e79 : f11 15 = 0) (e80 : f13 15 = 0) : Met l yX12_run (Cond.code yX12_run cX12_run 7 (some .int) :: WG) { frames := 4, cells := 0, slots := 0, locals := 87 } (zPre K [(a0, zO 10 83 g0), (a1, zI K 10 f1), (a2, zI K 1290 f2), (a3, zI K 1290 f3), (a4, zI K 1290 f4), (a5, zI K 210000 f5), (a6, zI K 210000 f6), (a7, zI K 60000 f7), (a8, zI K 60000 f8), (a9, zI K 60000 f9), (a10, zI K 60000 f10), (a11, zI K 60000 f11), (a12, zI K 60000 f12), (a13, zI K 60000 f13)] sz [.ref a0, .int (nI j0), .int 2, .int x1, .int x2, .int 1, .int 0]) (va_Qi (fun (r : Int32) (_ : Nat → Nat) => r = 7) (zB K (va_A [(a0, zO 10 83 g0), (a1, zI K 10 f1), (a2, zI K 1290 f2), (a3, zI K 1290 f3), (a4, zI K 1290 f4), (a5, zI K 210000 f5), (a6, zI K 210000 f6), (a7, zI K 60000 f7), (a8, zI K 60000 f8), (a9, zI K 60000 f9), (a10, zI K 60000 f10), (a11, zI K 60000 f11), (a12, zI K 60000 f12), (a13, zI K 60000 f13)] sz) (fun u : Nat → Nat => [(a0, zO 10 83 (va_up (va_up (va_up (va_up (va_up (va_up (va_up (va_up (va_up (va_up (va_up (va_up (va_up (va_up (va_up (va_up (va_up (va_up (va_up (va_up (va_up (va_up (va_up (va_up (va_up (va_up (va_up (va_up (va_up (va_up (va_up (va_up (va_up (va_up (va_up (va_up (va_up (va_up (va_up (va_up (va_up (va_up (va_up (va_up (va_up (va_up (va_up (va_up (va_up (va_up (va_up g0 81 (.int 0)) 56 (.int 0)) 60 (.int 1)) 79 (.int 0)) 55 (.int 0)) 58 (.int 0)) 59 (.int 600)) 72 (.int 0)) 77 (.int 0)) 62 (.int 1280)) 63 (.int (-1))) 64 (.int 0)) 65 (.int 0)) 61 (.int (-1))) 61 (.int 7)) 54 (.int 0)) 54 (.int 1)) 54 (.int 2)) 54 (.int 3)) 54 (.int 4)) 54 (.int 5)) 54 (.int 6)) 54 (.int 7)) 54 (.int 8)) 54 (.int 9)) 54 (.int 10)) 54 (.int 11)) 54 (.int 12)) 54 (.int 13)) 54 (.int 14)) 54 (.int 15)) 54 (.int 16)) 54 (.int 15)) 54 (.int 14)) 54 (.int 13)) 54 (.int 12)) 54 (.int 11)) 54 (.int 10)) 54 (.int 9)) 54 (.int 8)) 54 (.int 7)) 54 (.int 6)) 54 (.int 5)) 54 (.int 4)) 54 (.int 3)) 54 (.int 2)) 54 (.int 1)) 54 (.int 0)) 32 (.int 16)) 40 (.int 0)) 46 (.int 0)))])) (va_A [(a0, zO 10 83 g0), (a1, zI K 10 f1), (a2, zI K 1290 f2), (a3, zI K 1290 f3), (a4, zI K 1290 f4), (a5, zI K 210000 f5), (a6, zI K 210000 f6), (a7, zI K 60000 f7), (a8, zI K 60000 f8), (a9, zI K 60000 f9), (a10, zI K 60000 f10), (a11, zI K 60000 f11), (a12, zI K 60000 f12), (a13, zI K 60000 f13)] sz)) 0 0 (va_A [(a0, zO 10 83 g0), (a1, zI K 10 f1), (a2, zI K 1290 f2), (a3, zI K 1290 f3), (a4, zI K 1290 f4), (a5, zI K 210000 f5), (a6, zI K 210000 f6), (a7, zI K 60000 f7), (a8, zI K 60000 f8), (a9, zI K 60000 f9), (a10, zI K 60000 f10), (a11, zI K 60000 f11), (a12, zI K 60000 f12), (a13, zI K 60000 f13)] sz) := by
  refine z_met (Qc := fun A => (va_Qi (fun (r : Int32) (_ : Nat → Nat) => r = 7) (zB K A (fun u : Nat → Nat => [(a0, zO 10 83 (va_up (va_up (va_up (va_up (va_up (va_up (va_up (va_up (va_up (va_up (va_up (va_up (va_up (va_up (va_up (va_up (va_up (va_up (va_up (va_up (va_up (va_up (va_up (va_up (va_up (va_up (va_up (va_up (va_up (va_up (va_up (va_up (va_up (va_up (va_up (va_up (va_up (va_up (va_up (va_up (va_up (va_up (va_up (va_up (va_up (va_up (va_up (va_up (va_up (va_up (va_up g0 81 (.int 0)) 56 (.int 0)) 60 (.int 1)) 79 (.int 0)) 55 (.int 0)) 58 (.int 0)) 59 (.int 600)) 72 (.int 0)) 77 (.int 0)) 62 (.int 1280)) 63 (.int (-1))) 64 (.int 0)) 65 (.int 0)) 61 (.int (-1))) 61 (.int 7)) 54 (.int 0)) 54 (.int 1)) 54 (.int 2)) 54 (.int 3)) 54 (.int 4)) 54 (.int 5)) 54 (.int 6)) 54 (.int 7)) 54 (.int 8)) 54 (.int 9)) 54 (.int 10)) 54 (.int 11)) 54 (.int 12)) 54 (.int 13)) 54 (.int 14)) 54 (.int 15)) 54 (.int 16)) 54 (.int 15)) 54 (.int 14)) 54 (.int 13)) 54 (.int 12)) 54 (.int 11)) 54 (.int 10)) 54 (.int 9)) 54 (.int 8)) 54 (.int 7)) 54 (.int 6)) 54 (.int 5)) 54 (.int 4)) 54 (.int 3)) 54 (.int 2)) 54 (.int 1)) 54 (.int 0)) 32 (.int 16)) 40 (.int 0)) 46 (.int 0)))])) A)) (by decide +kernel) (Nat.le_of_ble_eq_true rfl) ?_
  intro p e s m args below meth c A ls H hx hb hr hg hown hlocks hml hin hK hP hD hA hS hZ hl
  have hown : s.vm.findClass RX12 = some m.cls := hown
  have hl : lv_has ls 7 [(0, .ref a0), (1, .int (nI j0)), (2, .int 2), (3, .int x1), (4, .int x2), (5, .int 1), (6, .int 0)] := hl
  refine lv_aload_n hx hb dX12_run_0 rfl (lv_at hl 0 rfl) ?_
  refine lv_iload_n hx hb dX12_run_1 rfl (lv_at hl 1 rfl) ?_
  refine lv_iload_n hx hb dX12_run_2 rfl (lv_at hl 2 rfl) ?_
  refine lv_iload hx hb dX12_run_3 (lv_at hl 5 rfl) ?_
  refine lv_iconst (v := 0) hx hb dX12_run_5 (by decide) ?_
  refine lv_sipush (v := 600) hx hb dX12_run_6 (by decide) ?_
  refine z_calli [] [(a0, zO 10 83 g0), (a1, zI K 10 f1), (a2, zI K 1290 f2), (a3, zI K 1290 f3), (a4, zI K 1290 f4), (a5, zI K 210000 f5), (a6, zI K 210000 f6), (a7, zI K 60000 f7), (a8, zI K 60000 f8), (a9, zI K 60000 f9), (a10, zI K 60000 f10), (a11, zI K 60000 f11), (a12, zI K 60000 f12), (a13, zI K 60000 f13)] [] [0, 1, 2, 3, 4, 5, 6, 7, 8, 9, 10, 11, 12, 13] hP hD hS hA rfl rfl (by decide) (by decide) (by decide +kernel) 0 0 rfl rfl (fun hPc hDc hF => z_runS (As := [.int 1, .int 0, .int 600]) (rest := [.int 2, .int (nI j0), .ref a0]) ⟨hx, hb, hml, hown, hg⟩ (cX12_isIn_23 l K H.size) kS_RX12_175 hd_X12_isIn rfl rfl ⟨(Nat.le_of_ble_eq_true rfl), (Nat.le_of_ble_eq_true rfl)⟩ hK hS hZ hPc hDc hF rfl hl.1 rfl (Nat.le_of_ble_eq_true rfl) dX12_run_9 ⟨(Nat.le_of_ble_eq_true rfl), (Nat.le_of_ble_eq_true rfl)⟩) (fun r3 u1 H locs w2 hP hD hS => ?_)
  subst w2
  have hP : va_P K.1 classes [(a0, zO 10 83 g0), (a1, zI K 10 f1), (a2, zI K 1290 f2), (a3, zI K 1290 f3), (a4, zI K 1290 f4), (a5, zI K 210000 f5), (a6, zI K 210000 f6), (a7, zI K 60000 f7), (a8, zI K 60000 f8), (a9, zI K 60000 f9), (a10, zI K 60000 f10), (a11, zI K 60000 f11), (a12, zI K 60000 f12), (a13, zI K 60000 f13)] H := hP
  have hD : va_D A [(a0, zO 10 83 g0), (a1, zI K 10 f1), (a2, zI K 1290 f2), (a3, zI K 1290 f3), (a4, zI K 1290 f4), (a5, zI K 210000 f5), (a6, zI K 210000 f6), (a7, zI K 60000 f7), (a8, zI K 60000 f8), (a9, zI K 60000 f9), (a10, zI K 60000 f10), (a11, zI K 60000 f11), (a12, zI K 60000 f12), (a13, zI K 60000 f13)] := hD
  refine lv_iload hx hb dX12_run_12 (lv_at hl 6 rfl) ?_
  refine z_calli [(a0, zO 10 83 g0)] [(a1, zI K 10 f1), (a2, zI K 1290 f2), (a3, zI K 1290 f3), (a4, zI K 1290 f4), (a5, zI K 210000 f5), (a6, zI K 210000 f6), (a7, zI K 60000 f7), (a8, zI K 60000 f8), (a9, zI K 60000 f9), (a10, zI K 60000 f10), (a11, zI K 60000 f11), (a12, zI K 60000 f12), (a13, zI K 60000 f13)] [0] [1, 2, 3, 4, 5, 6, 7, 8, 9, 10, 11, 12, 13] hP hD hS hA rfl rfl (by decide) (by decide) (by decide +kernel) 0 0 rfl rfl (fun hPc hDc hF => z_runV (As := [.int (nI j0), .int 2, .int 1, .int 0]) (rest := []) ⟨hx, hb, hml, hown, hg⟩ (cX12_mayRun_12 l K H.size a0 g0 j0 hj0) kV_RX12_492 hd_X12_mayRun rfl rfl ⟨(Nat.le_of_ble_eq_true rfl), (Nat.le_of_ble_eq_true rfl)⟩ hK hS hZ hPc hDc hF 0 rfl rfl rfl hl.1 rfl (Nat.le_of_ble_eq_true rfl) dX12_run_14 ⟨(Nat.le_of_ble_eq_true rfl), (Nat.le_of_ble_eq_true rfl)⟩) (fun r6 u4 H locs w5 hP hD hS => ?_)
  subst w5
  have hP : va_P K.1 classes [(a1, zI K 10 f1), (a2, zI K 1290 f2), (a3, zI K 1290 f3), (a4, zI K 1290 f4), (a5, zI K 210000 f5), (a6, zI K 210000 f6), (a7, zI K 60000 f7), (a8, zI K 60000 f8), (a9, zI K 60000 f9), (a10, zI K 60000 f10), (a11, zI K 60000 f11), (a12, zI K 60000 f12), (a13, zI K 60000 f13), (a0, zO 10 83 (va_up g0 81 (.int 0)))] H := hP
  have hD : va_D A [(a1, zI K 10 f1), (a2, zI K 1290 f2), (a3, zI K 1290 f3), (a4, zI K 1290 f4), (a5, zI K 210000 f5), (a6, zI K 210000 f6), (a7, zI K 60000 f7), (a8, zI K 60000 f8), (a9, zI K 60000 f9), (a10, zI K 60000 f10), (a11, zI K 60000 f11), (a12, zI K 60000 f12), (a13, zI K 60000 f13), (a0, zO 10 83 (va_up g0 81 (.int 0)))] := hD
  refine lv_if_ne (tgt := 22) hx hb dX12_run_17 (by decide) (fun _ => ?_) (fun c => absurd c (by decide))
  refine lv_aload_n hx hb dX12_run_22 rfl (lv_at hl 0 rfl) ?_
  refine lv_iconst (v := 0) hx hb dX12_run_23 (by decide) ?_
  refine z_put hx hb hg hown hK hP hD hS i_X12 rfl tyX12_ok nmX12 13 rfl 56 (by decide) mt1336 rfl rfl rfl dX12_run_24 (fun gg7 H locs y8 hP hD hS => ?_)
  have hP : va_P K.1 classes [(a1, zI K 10 f1), (a2, zI K 1290 f2), (a3, zI K 1290 f3), (a4, zI K 1290 f4), (a5, zI K 210000 f5), (a6, zI K 210000 f6), (a7, zI K 60000 f7), (a8, zI K 60000 f8), (a9, zI K 60000 f9), (a10, zI K 60000 f10), (a11, zI K 60000 f11), (a12, zI K 60000 f12), (a13, zI K 60000 f13), (a0, zO 10 83 gg7)] H := hP
  have hD : va_D A [(a1, zI K 10 f1), (a2, zI K 1290 f2), (a3, zI K 1290 f3), (a4, zI K 1290 f4), (a5, zI K 210000 f5), (a6, zI K 210000 f6), (a7, zI K 60000 f7), (a8, zI K 60000 f8), (a9, zI K 60000 f9), (a10, zI K 60000 f10), (a11, zI K 60000 f11), (a12, zI K 60000 f12), (a13, zI K 60000 f13), (a0, zO 10 83 gg7)] := hD
  refine lv_aload_n hx hb dX12_run_27 rfl (lv_at hl 0 rfl) ?_
  refine lv_iload hx hb dX12_run_28 (lv_at hl 5 rfl) ?_
  refine z_put hx hb hg hown hK hP hD hS i_X12 rfl tyX12_ok nmX12 13 rfl 60 (by decide) mt1340 rfl rfl rfl dX12_run_30 (fun gg9 H locs y10 hP hD hS => ?_)
  have hP : va_P K.1 classes [(a1, zI K 10 f1), (a2, zI K 1290 f2), (a3, zI K 1290 f3), (a4, zI K 1290 f4), (a5, zI K 210000 f5), (a6, zI K 210000 f6), (a7, zI K 60000 f7), (a8, zI K 60000 f8), (a9, zI K 60000 f9), (a10, zI K 60000 f10), (a11, zI K 60000 f11), (a12, zI K 60000 f12), (a13, zI K 60000 f13), (a0, zO 10 83 gg9)] H := hP
  have hD : va_D A [(a1, zI K 10 f1), (a2, zI K 1290 f2), (a3, zI K 1290 f3), (a4, zI K 1290 f4), (a5, zI K 210000 f5), (a6, zI K 210000 f6), (a7, zI K 60000 f7), (a8, zI K 60000 f8), (a9, zI K 60000 f9), (a10, zI K 60000 f10), (a11, zI K 60000 f11), (a12, zI K 60000 f12), (a13, zI K 60000 f13), (a0, zO 10 83 gg9)] := hD
  refine lv_aload_n hx hb dX12_run_33 rfl (lv_at hl 0 rfl) ?_
  refine lv_iload_n hx hb dX12_run_34 rfl (lv_at hl 1 rfl) ?_
  refine lv_iload_n hx hb dX12_run_35 rfl (lv_at hl 2 rfl) ?_
  refine lv_iload_n hx hb dX12_run_36 rfl (lv_at hl 3 rfl) ?_
  refine lv_iload hx hb dX12_run_37 (lv_at hl 4 rfl) ?_
  refine lv_iload hx hb dX12_run_39 (lv_at hl 6 rfl) ?_
  refine z_calli [(a0, zO 10 83 gg9), (a1, zI K 10 f1), (a2, zI K 1290 f2), (a3, zI K 1290 f3), (a4, zI K 1290 f4), (a5, zI K 210000 f5), (a6, zI K 210000 f6), (a7, zI K 60000 f7), (a8, zI K 60000 f8), (a9, zI K 60000 f9), (a10, zI K 60000 f10), (a11, zI K 60000 f11), (a12, zI K 60000 f12), (a13, zI K 60000 f13)] [] [13, 0, 1, 2, 3, 4, 5, 6, 7, 8, 9, 10, 11, 12] [] hP hD hS hA rfl rfl (by decide) (by decide) (by decide +kernel) 0 0 rfl rfl (fun hPc hDc hF => z_runV (As := [.int (nI j0), .int 2, .int x1, .int x2, .int 0]) (rest := []) ⟨hx, hb, hml, hown, hg⟩ (cX12_begins_3 l K H.size a0 a1 a2 a3 a4 a5 a6 a7 a8 a9 a10 a11 a12 a13 gg9 f1 f2 f3 f4 f5 f6 f7 f8 f9 f10 f11 f12 f13 j0 hj0 x1 x2 (zu_of y10 (zu_ne (by decide) (zu_of y8 (zu_ne (by decide) (zu_ne (by decide) e0))))) (zu_of y10 (zu_ne (by decide) (zu_of y8 (zu_ne (by decide) (zu_ne (by decide) e1))))) (zu_of y10 (zu_ne (by decide) (zu_of y8 (zu_ne (by decide) (zu_ne (by decide) e2))))) (zu_of y10 (zu_ne (by decide) (zu_of y8 (zu_ne (by decide) (zu_ne (by decide) e3))))) (zu_of y10 (zu_ne (by decide) (zu_of y8 (zu_ne (by decide) (zu_ne (by decide) e4))))) (zu_of y10 zu_eq) (zu_of y10 (zu_ne (by decide) (zu_of y8 (zu_ne (by decide) (zu_ne (by decide) e5))))) (zu_of y10 (zu_ne (by decide) (zu_of y8 (zu_ne (by decide) (zu_ne (by decide) e6))))) (zu_of y10 (zu_ne (by decide) (zu_of y8 (zu_ne (by decide) (zu_ne (by decide) e7))))) (zu_of y10 (zu_ne (by decide) (zu_of y8 (zu_ne (by decide) (zu_ne (by decide) e8))))) (zu_of y10 (zu_ne (by decide) (zu_of y8 (zu_ne (by decide) (zu_ne (by decide) e9))))) (zu_of y10 (zu_ne (by decide) (zu_of y8 (zu_ne (by decide) (zu_ne (by decide) e10))))) e11 e12 e13 e14 e15 e16 e17 e18 e19 e20 e21 e22 e23 e24 e25 e26 (zu_of y10 (zu_ne (by decide) (zu_of y8 (zu_ne (by decide) (zu_ne (by decide) e27))))) e28 (zu_of y10 (zu_ne (by decide) (zu_of y8 (zu_ne (by decide) (zu_ne (by decide) e29))))) (zu_of y10 (zu_ne (by decide) (zu_of y8 (zu_ne (by decide) (zu_ne (by decide) e30))))) (zu_of y10 (zu_ne (by decide) (zu_of y8 (zu_ne (by decide) (zu_ne (by decide) e31))))) e32 (zu_of y10 (zu_ne (by decide) (zu_of y8 (zu_ne (by decide) (zu_ne (by decide) e33))))) (zu_of y10 (zu_ne (by decide) (zu_of y8 (zu_ne (by decide) (zu_ne (by decide) e34))))) e35 e36 e37 e38 e39 e40 e41 e42 e43 e44 e45 e46 e47 e48 e49 e50 e51 e52 e53 e54 e55 e56 e57 e58 e59 e60 e61 e62 e63 e64 e65 e66 e67 e68 e69 e70 e71 e72 e73 e74 e75 e76 e77 e78 e79 e80) kV_RX12_496 hd_X12_begins rfl rfl ⟨(Nat.le_of_ble_eq_true rfl), (Nat.le_of_ble_eq_true rfl)⟩ hK hS hZ hPc hDc hF 0 rfl rfl rfl hl.1 rfl (Nat.le_of_ble_eq_true rfl) dX12_run_41 ⟨(Nat.le_of_ble_eq_true rfl), (Nat.le_of_ble_eq_true rfl)⟩) (fun r13 u11 H locs w12 hP hD hS => ?_)
  subst w12
  have hP : va_P K.1 classes [(a0, zO 10 83 (va_up (va_up (va_up (va_up (va_up (va_up (va_up (va_up (va_up (va_up (va_up (va_up (va_up (va_up (va_up (va_up (va_up (va_up (va_up (va_up (va_up (va_up (va_up (va_up (va_up (va_up (va_up (va_up (va_up (va_up (va_up (va_up (va_up (va_up (va_up (va_up (va_up (va_up (va_up (va_up (va_up (va_up (va_up (va_up (va_up (va_up (va_up (va_up gg9 79 (.int 0)) 55 (.int 0)) 58 (.int 0)) 59 (.int 600)) 72 (.int 0)) 77 (.int 0)) 62 (.int 1280)) 63 (.int (-1))) 64 (.int 0)) 65 (.int 0)) 61 (.int (-1))) 61 (.int 7)) 54 (.int 0)) 54 (.int 1)) 54 (.int 2)) 54 (.int 3)) 54 (.int 4)) 54 (.int 5)) 54 (.int 6)) 54 (.int 7)) 54 (.int 8)) 54 (.int 9)) 54 (.int 10)) 54 (.int 11)) 54 (.int 12)) 54 (.int 13)) 54 (.int 14)) 54 (.int 15)) 54 (.int 16)) 54 (.int 15)) 54 (.int 14)) 54 (.int 13)) 54 (.int 12)) 54 (.int 11)) 54 (.int 10)) 54 (.int 9)) 54 (.int 8)) 54 (.int 7)) 54 (.int 6)) 54 (.int 5)) 54 (.int 4)) 54 (.int 3)) 54 (.int 2)) 54 (.int 1)) 54 (.int 0)) 32 (.int 16)) 40 (.int 0)) 46 (.int 0))), (a1, zI K 10 (va_up (va_up (va_up (va_up (va_up (va_up (va_up (va_up (va_up (va_up (va_up f1 0 0) 1 0) 2 0) 3 0) 4 0) 5 0) 6 0) 7 0) 8 0) 9 0) 0 0)), (a2, zI K 1290 (va_up (va_up (va_up (va_up (va_up f2 1280 4) 1281 4) 1282 2) 1283 0) 1284 0)), (a3, zI K 1290 (va_up (va_up (va_up f3 1282 (nI j0)) 1283 x1) 1284 x2)), (a4, zI K 1290 (va_up (va_up (va_up (va_up (va_up f4 1282 1283) 1283 1284) 1281 1284) 1284 1285) 1280 1285)), (a5, zI K 210000 (va_up (va_up (va_up (va_up (va_up (va_up (va_up (va_up (va_up (va_up (va_up (va_up (va_up (va_up (va_up (va_up (va_up (va_up (va_up (va_up (va_up (va_up (va_up (va_up (va_up (va_up (va_up (va_up (va_up (va_up (va_up (va_up (va_up (va_up (va_up (va_up (va_up (va_up (va_up (va_up (va_up (va_up (va_up (va_up (va_up (va_up (va_up (va_up f5 0 (-1)) 1 (-1)) 2 (-1)) 3 (-1)) 4 (-1)) 5 (-1)) 6 (-1)) 7 (-1)) 8 (-1)) 9 (-1)) 10 (-1)) 11 (-1)) 12 (-1)) 13 (-1)) 14 (-1)) 15 (-1)) 0 0) 1 0) 2 0) 3 0) 4 0) 5 0) 6 0) 7 0) 8 0) 9 0) 10 0) 11 0) 12 0) 13 0) 14 0) 15 0) 0 0) 1 1) 2 2) 3 3) 4 4) 5 5) 6 6) 7 7) 8 8) 9 9) 10 10) 11 11) 12 12) 13 13) 14 14) 15 15)), (a6, zI K 210000 (va_up (va_up (va_up (va_up (va_up (va_up (va_up (va_up (va_up (va_up (va_up (va_up (va_up (va_up (va_up (va_up f6 0 0) 1 1) 2 2) 3 3) 4 4) 5 5) 6 6) 7 7) 8 8) 9 9) 10 10) 11 11) 12 12) 13 13) 14 14) 15 15)), (a7, zI K 60000 (va_up (va_up (va_up (va_up (va_up (va_up (va_up (va_up (va_up (va_up (va_up (va_up (va_up (va_up (va_up (va_up f7 0 0) 1 0) 2 0) 3 0) 4 0) 5 0) 6 0) 7 0) 8 0) 9 0) 10 0) 11 0) 12 0) 13 0) 14 0) 15 0)), (a8, zI K 60000 (va_up (va_up (va_up (va_up (va_up (va_up (va_up (va_up (va_up (va_up (va_up (va_up (va_up (va_up (va_up (va_up f8 0 0) 1 0) 2 0) 3 0) 4 0) 5 0) 6 0) 7 0) 8 0) 9 0) 10 0) 11 0) 12 0) 13 0) 14 0) 15 0)), (a9, zI K 60000 (va_up (va_up (va_up (va_up (va_up (va_up (va_up (va_up (va_up (va_up (va_up (va_up (va_up (va_up (va_up (va_up f9 0 0) 1 0) 2 0) 3 0) 4 0) 5 0) 6 0) 7 0) 8 0) 9 0) 10 0) 11 0) 12 0) 13 0) 14 0) 15 0)), (a10, zI K 60000 (va_up (va_up (va_up (va_up (va_up (va_up (va_up (va_up (va_up (va_up (va_up (va_up (va_up (va_up (va_up (va_up f10 0 0) 1 0) 2 0) 3 0) 4 0) 5 0) 6 0) 7 0) 8 0) 9 0) 10 0) 11 0) 12 0) 13 0) 14 0) 15 0)), (a11, zI K 60000 (va_up (va_up (va_up (va_up (va_up (va_up (va_up (va_up (va_up (va_up (va_up (va_up (va_up (va_up (va_up (va_up f11 0 0) 1 0) 2 0) 3 0) 4 0) 5 0) 6 0) 7 0) 8 0) 9 0) 10 0) 11 0) 12 0) 13 0) 14 0) 15 0)), (a12, zI K 60000 (va_up (va_up (va_up (va_up (va_up (va_up (va_up (va_up (va_up (va_up (va_up (va_up (va_up (va_up (va_up (va_up f12 0 (-1)) 1 (-1)) 2 (-1)) 3 (-1)) 4 (-1)) 5 (-1)) 6 (-1)) 7 (-1)) 8 (-1)) 9 (-1)) 10 (-1)) 11 (-1)) 12 (-1)) 13 (-1)) 14 (-1)) 15 (-1))), (a13, zI K 60000 (va_up (va_up (va_up (va_up (va_up (va_up (va_up (va_up (va_up (va_up (va_up (va_up (va_up (va_up (va_up (va_up f13 0 0) 1 0) 2 0) 3 0) 4 0) 5 0) 6 0) 7 0) 8 0) 9 0) 10 0) 11 0) 12 0) 13 0) 14 0) 15 0))] H := hP
  have hD : va_D A [(a0, zO 10 83 (va_up (va_up (va_up (va_up (va_up (va_up (va_up (va_up (va_up (va_up (va_up (va_up (va_up (va_up (va_up (va_up (va_up (va_up (va_up (va_up (va_up (va_up (va_up (va_up (va_up (va_up (va_up (va_up (va_up (va_up (va_up (va_up (va_up (va_up (va_up (va_up (va_up (va_up (va_up (va_up (va_up (va_up (va_up (va_up (va_up (va_up (va_up (va_up gg9 79 (.int 0)) 55 (.int 0)) 58 (.int 0)) 59 (.int 600)) 72 (.int 0)) 77 (.int 0)) 62 (.int 1280)) 63 (.int (-1))) 64 (.int 0)) 65 (.int 0)) 61 (.int (-1))) 61 (.int 7)) 54 (.int 0)) 54 (.int 1)) 54 (.int 2)) 54 (.int 3)) 54 (.int 4)) 54 (.int 5)) 54 (.int 6)) 54 (.int 7)) 54 (.int 8)) 54 (.int 9)) 54 (.int 10)) 54 (.int 11)) 54 (.int 12)) 54 (.int 13)) 54 (.int 14)) 54 (.int 15)) 54 (.int 16)) 54 (.int 15)) 54 (.int 14)) 54 (.int 13)) 54 (.int 12)) 54 (.int 11)) 54 (.int 10)) 54 (.int 9)) 54 (.int 8)) 54 (.int 7)) 54 (.int 6)) 54 (.int 5)) 54 (.int 4)) 54 (.int 3)) 54 (.int 2)) 54 (.int 1)) 54 (.int 0)) 32 (.int 16)) 40 (.int 0)) 46 (.int 0))), (a1, zI K 10 (va_up (va_up (va_up (va_up (va_up (va_up (va_up (va_up (va_up (va_up (va_up f1 0 0) 1 0) 2 0) 3 0) 4 0) 5 0) 6 0) 7 0) 8 0) 9 0) 0 0)), (a2, zI K 1290 (va_up (va_up (va_up (va_up (va_up f2 1280 4) 1281 4) 1282 2) 1283 0) 1284 0)), (a3, zI K 1290 (va_up (va_up (va_up f3 1282 (nI j0)) 1283 x1) 1284 x2)), (a4, zI K 1290 (va_up (va_up (va_up (va_up (va_up f4 1282 1283) 1283 1284) 1281 1284) 1284 1285) 1280 1285)), (a5, zI K 210000 (va_up (va_up (va_up (va_up (va_up (va_up (va_up (va_up (va_up (va_up (va_up (va_up (va_up (va_up (va_up (va_up (va_up (va_up (va_up (va_up (va_up (va_up (va_up (va_up (va_up (va_up (va_up (va_up (va_up (va_up (va_up (va_up (va_up (va_up (va_up (va_up (va_up (va_up (va_up (va_up (va_up (va_up (va_up (va_up (va_up (va_up (va_up (va_up f5 0 (-1)) 1 (-1)) 2 (-1)) 3 (-1)) 4 (-1)) 5 (-1)) 6 (-1)) 7 (-1)) 8 (-1)) 9 (-1)) 10 (-1)) 11 (-1)) 12 (-1)) 13 (-1)) 14 (-1)) 15 (-1)) 0 0) 1 0) 2 0) 3 0) 4 0) 5 0) 6 0) 7 0) 8 0) 9 0) 10 0) 11 0) 12 0) 13 0) 14 0) 15 0) 0 0) 1 1) 2 2) 3 3) 4 4) 5 5) 6 6) 7 7) 8 8) 9 9) 10 10) 11 11) 12 12) 13 13) 14 14) 15 15)), (a6, zI K 210000 (va_up (va_up (va_up (va_up (va_up (va_up (va_up (va_up (va_up (va_up (va_up (va_up (va_up (va_up (va_up (va_up f6 0 0) 1 1) 2 2) 3 3) 4 4) 5 5) 6 6) 7 7) 8 8) 9 9) 10 10) 11 11) 12 12) 13 13) 14 14) 15 15)), (a7, zI K 60000 (va_up (va_up (va_up (va_up (va_up (va_up (va_up (va_up (va_up (va_up (va_up (va_up (va_up (va_up (va_up (va_up f7 0 0) 1 0) 2 0) 3 0) 4 0) 5 0) 6 0) 7 0) 8 0) 9 0) 10 0) 11 0) 12 0) 13 0) 14 0) 15 0)), (a8, zI K 60000 (va_up (va_up (va_up (va_up (va_up (va_up (va_up (va_up (va_up (va_up (va_up (va_up (va_up (va_up (va_up (va_up f8 0 0) 1 0) 2 0) 3 0) 4 0) 5 0) 6 0) 7 0) 8 0) 9 0) 10 0) 11 0) 12 0) 13 0) 14 0) 15 0)), (a9, zI K 60000 (va_up (va_up (va_up (va_up (va_up (va_up (va_up (va_up (va_up (va_up (va_up (va_up (va_up (va_up (va_up (va_up f9 0 0) 1 0) 2 0) 3 0) 4 0) 5 0) 6 0) 7 0) 8 0) 9 0) 10 0) 11 0) 12 0) 13 0) 14 0) 15 0)), (a10, zI K 60000 (va_up (va_up (va_up (va_up (va_up (va_up (va_up (va_up (va_up (va_up (va_up (va_up (va_up (va_up (va_up (va_up f10 0 0) 1 0) 2 0) 3 0) 4 0) 5 0) 6 0) 7 0) 8 0) 9 0) 10 0) 11 0) 12 0) 13 0) 14 0) 15 0)), (a11, zI K 60000 (va_up (va_up (va_up (va_up (va_up (va_up (va_up (va_up (va_up (va_up (va_up (va_up (va_up (va_up (va_up (va_up f11 0 0) 1 0) 2 0) 3 0) 4 0) 5 0) 6 0) 7 0) 8 0) 9 0) 10 0) 11 0) 12 0) 13 0) 14 0) 15 0)), (a12, zI K 60000 (va_up (va_up (va_up (va_up (va_up (va_up (va_up (va_up (va_up (va_up (va_up (va_up (va_up (va_up (va_up (va_up f12 0 (-1)) 1 (-1)) 2 (-1)) 3 (-1)) 4 (-1)) 5 (-1)) 6 (-1)) 7 (-1)) 8 (-1)) 9 (-1)) 10 (-1)) 11 (-1)) 12 (-1)) 13 (-1)) 14 (-1)) 15 (-1))), (a13, zI K 60000 (va_up (va_up (va_up (va_up (va_up (va_up (va_up (va_up (va_up (va_up (va_up (va_up (va_up (va_up (va_up (va_up f13 0 0) 1 0) 2 0) 3 0) 4 0) 5 0) 6 0) 7 0) 8 0) 9 0) 10 0) 11 0) 12 0) 13 0) 14 0) 15 0))] := hD
  obtain ⟨gg14, y15⟩ : ∃ z, z = ((va_up (va_up (va_up (va_up (va_up (va_up (va_up (va_up (va_up (va_up (va_up (va_up (va_up (va_up (va_up (va_up (va_up (va_up (va_up (va_up (va_up (va_up (va_up (va_up (va_up (va_up (va_up (va_up (va_up (va_up (va_up (va_up (va_up (va_up (va_up (va_up (va_up (va_up (va_up (va_up (va_up (va_up (va_up (va_up (va_up (va_up (va_up (va_up gg9 79 (.int 0)) 55 (.int 0)) 58 (.int 0)) 59 (.int 600)) 72 (.int 0)) 77 (.int 0)) 62 (.int 1280)) 63 (.int (-1))) 64 (.int 0)) 65 (.int 0)) 61 (.int (-1))) 61 (.int 7)) 54 (.int 0)) 54 (.int 1)) 54 (.int 2)) 54 (.int 3)) 54 (.int 4)) 54 (.int 5)) 54 (.int 6)) 54 (.int 7)) 54 (.int 8)) 54 (.int 9)) 54 (.int 10)) 54 (.int 11)) 54 (.int 12)) 54 (.int 13)) 54 (.int 14)) 54 (.int 15)) 54 (.int 16)) 54 (.int 15)) 54 (.int 14)) 54 (.int 13)) 54 (.int 12)) 54 (.int 11)) 54 (.int 10)) 54 (.int 9)) 54 (.int 8)) 54 (.int 7)) 54 (.int 6)) 54 (.int 5)) 54 (.int 4)) 54 (.int 3)) 54 (.int 2)) 54 (.int 1)) 54 (.int 0)) 32 (.int 16)) 40 (.int 0)) 46 (.int 0)) : Nat → Value) := ⟨_, rfl⟩
  rw [← y15] at hP hD
  obtain ⟨ff16, y17⟩ : ∃ z, z = ((va_up (va_up (va_up (va_up (va_up (va_up (va_up (va_up (va_up (va_up (va_up f1 0 0) 1 0) 2 0) 3 0) 4 0) 5 0) 6 0) 7 0) 8 0) 9 0) 0 0) : Nat → Int32) := ⟨_, rfl⟩
  rw [← y17] at hP hD
  obtain ⟨ff18, y19⟩ : ∃ z, z = ((va_up (va_up (va_up (va_up (va_up f2 1280 4) 1281 4) 1282 2) 1283 0) 1284 0) : Nat → Int32) := ⟨_, rfl⟩
  rw [← y19] at hP hD
  obtain ⟨ff20, y21⟩ : ∃ z, z = ((va_up (va_up (va_up f3 1282 (nI j0)) 1283 x1) 1284 x2) : Nat → Int32) := ⟨_, rfl⟩
  rw [← y21] at hP hD
  obtain ⟨ff22, y23⟩ : ∃ z, z = ((va_up (va_up (va_up (va_up (va_up f4 1282 1283) 1283 1284) 1281 1284) 1284 1285) 1280 1285) : Nat → Int32) := ⟨_, rfl⟩
  rw [← y23] at hP hD
  obtain ⟨ff24, y25⟩ : ∃ z, z = ((va_up (va_up (va_up (va_up (va_up (va_up (va_up (va_up (va_up (va_up (va_up (va_up (va_up (va_up (va_up (va_up (va_up (va_up (va_up (va_up (va_up (va_up (va_up (va_up (va_up (va_up (va_up (va_up (va_up (va_up (va_up (va_up (va_up (va_up (va_up (va_up (va_up (va_up (va_up (va_up (va_up (va_up (va_up (va_up (va_up (va_up (va_up (va_up f5 0 (-1)) 1 (-1)) 2 (-1)) 3 (-1)) 4 (-1)) 5 (-1)) 6 (-1)) 7 (-1)) 8 (-1)) 9 (-1)) 10 (-1)) 11 (-1)) 12 (-1)) 13 (-1)) 14 (-1)) 15 (-1)) 0 0) 1 0) 2 0) 3 0) 4 0) 5 0) 6 0) 7 0) 8 0) 9 0) 10 0) 11 0) 12 0) 13 0) 14 0) 15 0) 0 0) 1 1) 2 2) 3 3) 4 4) 5 5) 6 6) 7 7) 8 8) 9 9) 10 10) 11 11) 12 12) 13 13) 14 14) 15 15) : Nat → Int32) := ⟨_, rfl⟩
  rw [← y25] at hP hD
  obtain ⟨ff26, y27⟩ : ∃ z, z = ((va_up (va_up (va_up (va_up (va_up (va_up (va_up (va_up (va_up (va_up (va_up (va_up (va_up (va_up (va_up (va_up f6 0 0) 1 1) 2 2) 3 3) 4 4) 5 5) 6 6) 7 7) 8 8) 9 9) 10 10) 11 11) 12 12) 13 13) 14 14) 15 15) : Nat → Int32) := ⟨_, rfl⟩
  rw [← y27] at hP hD
  obtain ⟨ff28, y29⟩ : ∃ z, z = ((va_up (va_up (va_up (va_up (va_up (va_up (va_up (va_up (va_up (va_up (va_up (va_up (va_up (va_up (va_up (va_up f7 0 0) 1 0) 2 0) 3 0) 4 0) 5 0) 6 0) 7 0) 8 0) 9 0) 10 0) 11 0) 12 0) 13 0) 14 0) 15 0) : Nat → Int32) := ⟨_, rfl⟩
  rw [← y29] at hP hD
  obtain ⟨ff30, y31⟩ : ∃ z, z = ((va_up (va_up (va_up (va_up (va_up (va_up (va_up (va_up (va_up (va_up (va_up (va_up (va_up (va_up (va_up (va_up f8 0 0) 1 0) 2 0) 3 0) 4 0) 5 0) 6 0) 7 0) 8 0) 9 0) 10 0) 11 0) 12 0) 13 0) 14 0) 15 0) : Nat → Int32) := ⟨_, rfl⟩
  rw [← y31] at hP hD
  obtain ⟨ff32, y33⟩ : ∃ z, z = ((va_up (va_up (va_up (va_up (va_up (va_up (va_up (va_up (va_up (va_up (va_up (va_up (va_up (va_up (va_up (va_up f9 0 0) 1 0) 2 0) 3 0) 4 0) 5 0) 6 0) 7 0) 8 0) 9 0) 10 0) 11 0) 12 0) 13 0) 14 0) 15 0) : Nat → Int32) := ⟨_, rfl⟩
  rw [← y33] at hP hD
  obtain ⟨ff34, y35⟩ : ∃ z, z = ((va_up (va_up (va_up (va_up (va_up (va_up (va_up (va_up (va_up (va_up (va_up (va_up (va_up (va_up (va_up (va_up f10 0 0) 1 0) 2 0) 3 0) 4 0) 5 0) 6 0) 7 0) 8 0) 9 0) 10 0) 11 0) 12 0) 13 0) 14 0) 15 0) : Nat → Int32) := ⟨_, rfl⟩
  rw [← y35] at hP hD
  obtain ⟨ff36, y37⟩ : ∃ z, z = ((va_up (va_up (va_up (va_up (va_up (va_up (va_up (va_up (va_up (va_up (va_up (va_up (va_up (va_up (va_up (va_up f11 0 0) 1 0) 2 0) 3 0) 4 0) 5 0) 6 0) 7 0) 8 0) 9 0) 10 0) 11 0) 12 0) 13 0) 14 0) 15 0) : Nat → Int32) := ⟨_, rfl⟩
  rw [← y37] at hP hD
  obtain ⟨ff38, y39⟩ : ∃ z, z = ((va_up (va_up (va_up (va_up (va_up (va_up (va_up (va_up (va_up (va_up (va_up (va_up (va_up (va_up (va_up (va_up f12 0 (-1)) 1 (-1)) 2 (-1)) 3 (-1)) 4 (-1)) 5 (-1)) 6 (-1)) 7 (-1)) 8 (-1)) 9 (-1)) 10 (-1)) 11 (-1)) 12 (-1)) 13 (-1)) 14 (-1)) 15 (-1)) : Nat → Int32) := ⟨_, rfl⟩
  rw [← y39] at hP hD
  obtain ⟨ff40, y41⟩ : ∃ z, z = ((va_up (va_up (va_up (va_up (va_up (va_up (va_up (va_up (va_up (va_up (va_up (va_up (va_up (va_up (va_up (va_up f13 0 0) 1 0) 2 0) 3 0) 4 0) 5 0) 6 0) 7 0) 8 0) 9 0) 10 0) 11 0) 12 0) 13 0) 14 0) 15 0) : Nat → Int32) := ⟨_, rfl⟩
  rw [← y41] at hP hD
  subst y41
  subst y39
  subst y37
  subst y35
  subst y33
  subst y31
  subst y29
  subst y27
  subst y25
  subst y23
  subst y21
  subst y19
  subst y17
  subst y15
  subst y10
  subst y8
  have hP9 : va_P K.1 classes [(a0, zO 10 83 (va_up (va_up (va_up (va_up (va_up (va_up (va_up (va_up (va_up (va_up (va_up (va_up (va_up (va_up (va_up (va_up (va_up (va_up (va_up (va_up (va_up (va_up (va_up (va_up (va_up (va_up (va_up (va_up (va_up (va_up (va_up (va_up (va_up (va_up (va_up (va_up (va_up (va_up (va_up (va_up (va_up (va_up (va_up (va_up (va_up (va_up (va_up (va_up (va_up (va_up (va_up g0 81 (.int 0)) 56 (.int 0)) 60 (.int 1)) 79 (.int 0)) 55 (.int 0)) 58 (.int 0)) 59 (.int 600)) 72 (.int 0)) 77 (.int 0)) 62 (.int 1280)) 63 (.int (-1))) 64 (.int 0)) 65 (.int 0)) 61 (.int (-1))) 61 (.int 7)) 54 (.int 0)) 54 (.int 1)) 54 (.int 2)) 54 (.int 3)) 54 (.int 4)) 54 (.int 5)) 54 (.int 6)) 54 (.int 7)) 54 (.int 8)) 54 (.int 9)) 54 (.int 10)) 54 (.int 11)) 54 (.int 12)) 54 (.int 13)) 54 (.int 14)) 54 (.int 15)) 54 (.int 16)) 54 (.int 15)) 54 (.int 14)) 54 (.int 13)) 54 (.int 12)) 54 (.int 11)) 54 (.int 10)) 54 (.int 9)) 54 (.int 8)) 54 (.int 7)) 54 (.int 6)) 54 (.int 5)) 54 (.int 4)) 54 (.int 3)) 54 (.int 2)) 54 (.int 1)) 54 (.int 0)) 32 (.int 16)) 40 (.int 0)) 46 (.int 0)))] H := hP.sub [0] rfl
  have hD9 : va_D A [(a0, zO 10 83 (va_up (va_up (va_up (va_up (va_up (va_up (va_up (va_up (va_up (va_up (va_up (va_up (va_up (va_up (va_up (va_up (va_up (va_up (va_up (va_up (va_up (va_up (va_up (va_up (va_up (va_up (va_up (va_up (va_up (va_up (va_up (va_up (va_up (va_up (va_up (va_up (va_up (va_up (va_up (va_up (va_up (va_up (va_up (va_up (va_up (va_up (va_up (va_up (va_up (va_up (va_up g0 81 (.int 0)) 56 (.int 0)) 60 (.int 1)) 79 (.int 0)) 55 (.int 0)) 58 (.int 0)) 59 (.int 600)) 72 (.int 0)) 77 (.int 0)) 62 (.int 1280)) 63 (.int (-1))) 64 (.int 0)) 65 (.int 0)) 61 (.int (-1))) 61 (.int 7)) 54 (.int 0)) 54 (.int 1)) 54 (.int 2)) 54 (.int 3)) 54 (.int 4)) 54 (.int 5)) 54 (.int 6)) 54 (.int 7)) 54 (.int 8)) 54 (.int 9)) 54 (.int 10)) 54 (.int 11)) 54 (.int 12)) 54 (.int 13)) 54 (.int 14)) 54 (.int 15)) 54 (.int 16)) 54 (.int 15)) 54 (.int 14)) 54 (.int 13)) 54 (.int 12)) 54 (.int 11)) 54 (.int 10)) 54 (.int 9)) 54 (.int 8)) 54 (.int 7)) 54 (.int 6)) 54 (.int 5)) 54 (.int 4)) 54 (.int 3)) 54 (.int 2)) 54 (.int 1)) 54 (.int 0)) 32 (.int 16)) 40 (.int 0)) 46 (.int 0)))] := hD.sub [0] (by decide) rfl
  exact z_iret hx hb hr (fun _ => 0) rfl hP9 hD9 hS (Nat.le_of_ble_eq_true rfl) (Nat.le_of_ble_eq_true rfl) hlocks dX12_run_44
set_option maxHeartbeats 4000000 in
set_option maxRecDepth 100000 in
theorem cX1_countStep_1 (l : Launch) (K : zK) (sz : Nat) (a0 : Nat) (a1 : Nat) (g0 : Nat → Value) (f1 : Nat → Int32) (e0 : g0 10 = (.int 0)) (e1 : g0 8 = (.int 0)) (e2 : g0 2 = (.ref a1)) (e3 : f1 0 = 0) (e4 : g0 14 = (.int 0)) (e5 : f1 6 = 0) : Met l yX1_countStep (Cond.code yX1_countStep cX1_countStep 1 none :: WG) { frames := 0, cells := 0, slots := 0, locals := 0 } (zPre K [(a0, zO 1 18 g0), (a1, zI K 10 f1)] sz [.ref a0]) (va_Qv (fun _ : Nat → Nat => True) (zB K (va_A [(a0, zO 1 18 g0), (a1, zI K 10 f1)] sz) (fun u : Nat → Nat => [(a0, zO 1 18 (va_up g0 10 (.int 1))), (a1, zI K 10 (va_up (va_up f1 0 1) 6 1))])) (va_A [(a0, zO 1 18 g0), (a1, zI K 10 f1)] sz)) 0 0 (va_A [(a0, zO 1 18 g0), (a1, zI K 10 f1)] sz) := by
  refine z_met (Qc := fun A => (va_Qv (fun _ : Nat → Nat => True) (zB K A (fun u : Nat → Nat => [(a0, zO 1 18 (va_up g0 10 (.int 1))), (a1, zI K 10 (va_up (va_up f1 0 1) 6 1))])) A)) (by decide +kernel) (Nat.le_of_ble_eq_true rfl) ?_
  intro p e s m args below meth c A ls H hx hb hr hg hown hlocks hml hin hK hP hD hA hS hZ hl
  have hown : s.vm.findClass RX1 = some m.cls := hown
  have hl : lv_has ls 1 [(0, .ref a0)] := hl
  refine lv_aload_n hx hb dX1_countStep_0 rfl (lv_at hl 0 rfl) ?_
  refine lv_dup hx hb dX1_countStep_1 rfl ?_
  refine z_get (v := .int 0) hx hb hg hown hK hP i_X1 rfl 0 rfl 10 (by decide) mt259 e0 dX1_countStep_2 ?_
  refine lv_iconst (v := 1) hx hb dX1_countStep_5 (by decide) ?_
  refine lv_iadd hx hb dX1_countStep_6 ?_
  refine z_cst (v := 1) (by decide +kernel) ?_
  refine z_put hx hb hg hown hK hP hD hS i_X1 rfl tyX1_ok nmX1 0 rfl 10 (by decide) mt259 rfl rfl rfl dX1_countStep_7 (fun gg1 H locs y2 hP hD hS => ?_)
  have hP : va_P K.1 classes [(a0, zO 1 18 gg1), (a1, zI K 10 f1)] H := hP
  have hD : va_D A [(a0, zO 1 18 gg1), (a1, zI K 10 f1)] := hD
  refine lv_aload_n hx hb dX1_countStep_10 rfl (lv_at hl 0 rfl) ?_
  refine z_get (v := .int 0) hx hb hg hown hK hP i_X1 rfl 0 rfl 8 (by decide) mt257 (zu_of y2 (zu_ne (by decide) e1)) dX1_countStep_11 ?_
  refine lv_if_eq (tgt := 28) hx hb dX1_countStep_14 (by decide) (fun _ => ?_) (fun c => absurd (by decide) c)
  refine lv_aload_n hx hb dX1_countStep_28 rfl (lv_at hl 0 rfl) ?_
  refine z_get (v := .ref a1) hx hb hg hown hK hP i_X1 rfl 0 rfl 2 (by decide) mt251 (zu_of y2 (zu_ne (by decide) e2)) dX1_countStep_29 ?_
  refine lv_iconst (v := 0) hx hb dX1_countStep_32 (by decide) ?_
  refine lv_dup2_11 hx hb dX1_countStep_33 rfl rfl ?_
  refine z_iald (v := 0) (j := 0) hx hb hK hP 1 rfl rfl (Nat.le_of_ble_eq_true rfl) (Nat.le_of_ble_eq_true rfl) e3 dX1_countStep_34 ?_
  refine lv_iconst (v := 1) hx hb dX1_countStep_35 (by decide) ?_
  refine lv_iadd hx hb dX1_countStep_36 ?_
  refine z_cst (v := 1) (by decide +kernel) ?_
  refine z_iast (j := 0) hx hb hK hP hD hS 1 rfl rfl (Nat.le_of_ble_eq_true rfl) (Nat.le_of_ble_eq_true rfl) dX1_countStep_37 (fun ff3 H locs y4 hP hD hS => ?_)
  have hP : va_P K.1 classes [(a0, zO 1 18 gg1), (a1, zI K 10 ff3)] H := hP
  have hD : va_D A [(a0, zO 1 18 gg1), (a1, zI K 10 ff3)] := hD
  refine lv_aload_n hx hb dX1_countStep_38 rfl (lv_at hl 0 rfl) ?_
  refine z_get (v := .int 0) hx hb hg hown hK hP i_X1 rfl 0 rfl 14 (by decide) mt263 (zu_of y2 (zu_ne (by decide) e4)) dX1_countStep_39 ?_
  refine lv_if_lt (tgt := 69) hx hb dX1_countStep_42 (by decide) (fun c => absurd c (by decide)) (fun _ => ?_)
  refine lv_aload_n hx hb dX1_countStep_45 rfl (lv_at hl 0 rfl) ?_
  refine z_get (v := .int 0) hx hb hg hown hK hP i_X1 rfl 0 rfl 14 (by decide) mt263 (zu_of y2 (zu_ne (by decide) e4)) dX1_countStep_46 ?_
  refine lv_iconst (v := 4) hx hb dX1_countStep_49 (by decide) ?_
  refine lv_icmp_ge (tgt := 69) hx hb dX1_countStep_50 (by decide) (fun c => absurd c (by decide)) (fun _ => ?_)
  refine lv_aload_n hx hb dX1_countStep_53 rfl (lv_at hl 0 rfl) ?_
  refine z_get (v := .ref a1) hx hb hg hown hK hP i_X1 rfl 0 rfl 2 (by decide) mt251 (zu_of y2 (zu_ne (by decide) e2)) dX1_countStep_54 ?_
  refine lv_bipush (v := 6) hx hb dX1_countStep_57 (by decide) ?_
  refine lv_aload_n hx hb dX1_countStep_59 rfl (lv_at hl 0 rfl) ?_
  refine z_get (v := .int 0) hx hb hg hown hK hP i_X1 rfl 0 rfl 14 (by decide) mt263 (zu_of y2 (zu_ne (by decide) e4)) dX1_countStep_60 ?_
  refine lv_iadd hx hb dX1_countStep_63 ?_
  refine z_cst (v := 6) (by decide +kernel) ?_
  refine lv_dup2_11 hx hb dX1_countStep_64 rfl rfl ?_
  refine z_iald (v := 0) (j := 6) hx hb hK hP 1 rfl rfl (Nat.le_of_ble_eq_true rfl) (Nat.le_of_ble_eq_true rfl) (zu_of y4 (zu_ne (by decide) e5)) dX1_countStep_65 ?_
  refine lv_iconst (v := 1) hx hb dX1_countStep_66 (by decide) ?_
  refine lv_iadd hx hb dX1_countStep_67 ?_
  refine z_cst (v := 1) (by decide +kernel) ?_
  refine z_iast (j := 6) hx hb hK hP hD hS 1 rfl rfl (Nat.le_of_ble_eq_true rfl) (Nat.le_of_ble_eq_true rfl) dX1_countStep_68 (fun ff5 H locs y6 hP hD hS => ?_)
  have hP : va_P K.1 classes [(a0, zO 1 18 gg1), (a1, zI K 10 ff5)] H := hP
  have hD : va_D A [(a0, zO 1 18 gg1), (a1, zI K 10 ff5)] := hD
  subst y6
  subst y4
  subst y2
  have hP9 : va_P K.1 classes [(a0, zO 1 18 (va_up g0 10 (.int 1))), (a1, zI K 10 (va_up (va_up f1 0 1) 6 1))] H := hP.sub [0, 1] rfl
  have hD9 : va_D A [(a0, zO 1 18 (va_up g0 10 (.int 1))), (a1, zI K 10 (va_up (va_up f1 0 1) 6 1))] := hD.sub [0, 1] (by decide) rfl
  exact z_vret hx hb hr (fun _ => 0) trivial hP9 hD9 hS (Nat.le_of_ble_eq_true rfl) (Nat.le_of_ble_eq_true rfl) hlocks dX1_countStep_69
set_option maxHeartbeats 4000000 in
set_option maxRecDepth 100000 in
theorem cX9_kindOf_1 (l : Launch) (K : zK) (sz : Nat) (a0 : Nat) (a1 : Nat) (g0 : Nat → Value) (f1 : Nat → Int32) (e0 : g0 5 = (.int 645)) (e1 : g0 0 = (.ref a1)) (e2 : f1 640 = 2) : Met l yX9_kindOf (Cond.code yX9_kindOf cX9_kindOf 2 (some .int) :: WG) { frames := 0, cells := 0, slots := 0, locals := 0 } (zPre K [(a0, zO 7 6 g0), (a1, zI K 645 f1)] sz [.ref a0, .int 640]) (va_Qi (fun (r : Int32) (_ : Nat → Nat) => r = 2) (zB K (va_A [(a0, zO 7 6 g0), (a1, zI K 645 f1)] sz) (fun u : Nat → Nat => [(a0, zO 7 6 g0), (a1, zI K 645 f1)])) (va_A [(a0, zO 7 6 g0), (a1, zI K 645 f1)] sz)) 0 0 (va_A [(a0, zO 7 6 g0), (a1, zI K 645 f1)] sz) := by
  refine z_met (Qc := fun A => (va_Qi (fun (r : Int32) (_ : Nat → Nat) => r = 2) (zB K A (fun u : Nat → Nat => [(a0, zO 7 6 g0), (a1, zI K 645 f1)])) A)) (by decide +kernel) (Nat.le_of_ble_eq_true rfl) ?_
  intro p e s m args below meth c A ls H hx hb hr hg hown hlocks hml hin hK hP hD hA hS hZ hl
  have hown : s.vm.findClass RX9 = some m.cls := hown
  have hl : lv_has ls 2 [(0, .ref a0), (1, .int 640)] := hl
  refine lv_iload_n hx hb dX9_kindOf_0 rfl (lv_at hl 1 rfl) ?_
  refine lv_if_lt (tgt := 21) hx hb dX9_kindOf_1 (by decide) (fun c => absurd c (by decide)) (fun _ => ?_)
  refine lv_iload_n hx hb dX9_kindOf_4 rfl (lv_at hl 1 rfl) ?_
  refine lv_aload_n hx hb dX9_kindOf_5 rfl (lv_at hl 0 rfl) ?_
  refine z_get (v := .int 645) hx hb hg hown hK hP i_X9 rfl 0 rfl 5 (by decide) mt42 e0 dX9_kindOf_6 ?_
  refine lv_icmp_ge (tgt := 21) hx hb dX9_kindOf_9 (by decide) (fun c => absurd c (by decide)) (fun _ => ?_)
  refine lv_aload_n hx hb dX9_kindOf_12 rfl (lv_at hl 0 rfl) ?_
  refine z_get (v := .ref a1) hx hb hg hown hK hP i_X9 rfl 0 rfl 0 (by decide) mt37 e1 dX9_kindOf_13 ?_
  refine lv_iload_n hx hb dX9_kindOf_16 rfl (lv_at hl 1 rfl) ?_
  refine z_iald (v := 2) (j := 640) hx hb hK hP 1 rfl rfl (Nat.le_of_ble_eq_true rfl) (Nat.le_of_ble_eq_true rfl) e2 dX9_kindOf_17 ?_
  refine lv_goto (tgt := 22) hx hb dX9_kindOf_18 (by decide) ?_
  have hP9 : va_P K.1 classes [(a0, zO 7 6 g0), (a1, zI K 645 f1)] H := hP.sub [0, 1] rfl
  have hD9 : va_D A [(a0, zO 7 6 g0), (a1, zI K 645 f1)] := hD.sub [0, 1] (by decide) rfl
  exact z_iret hx hb hr (fun _ => 0) rfl hP9 hD9 hS (Nat.le_of_ble_eq_true rfl) (Nat.le_of_ble_eq_true rfl) hlocks dX9_kindOf_22
set_option maxHeartbeats 4000000 in
set_option maxRecDepth 100000 in
theorem cX9_numberOf_1 (l : Launch) (K : zK) (sz : Nat) (a0 : Nat) (a1 : Nat) (g0 : Nat → Value) (f1 : Nat → Int32) (j0 : Nat) (hj0 : j0 < 8) (e0 : g0 5 = (.int 645)) (e1 : g0 1 = (.ref a1)) (e2 : f1 640 = (nI j0)) : Met l yX9_numberOf (Cond.code yX9_numberOf cX9_numberOf 2 (some .int) :: WG) { frames := 0, cells := 0, slots := 0, locals := 0 } (zPre K [(a0, zO 7 6 g0), (a1, zI K 645 f1)] sz [.ref a0, .int 640]) (va_Qi (fun (r : Int32) (_ : Nat → Nat) => r = (nI j0)) (zB K (va_A [(a0, zO 7 6 g0), (a1, zI K 645 f1)] sz) (fun u : Nat → Nat => [(a0, zO 7 6 g0), (a1, zI K 645 f1)])) (va_A [(a0, zO 7 6 g0), (a1, zI K 645 f1)] sz)) 0 0 (va_A [(a0, zO 7 6 g0), (a1, zI K 645 f1)] sz) := by
  refine z_met (Qc := fun A => (va_Qi (fun (r : Int32) (_ : Nat → Nat) => r = (nI j0)) (zB K A (fun u : Nat → Nat => [(a0, zO 7 6 g0), (a1, zI K 645 f1)])) A)) (by decide +kernel) (Nat.le_of_ble_eq_true rfl) ?_
  intro p e s m args below meth c A ls H hx hb hr hg hown hlocks hml hin hK hP hD hA hS hZ hl
  have hown : s.vm.findClass RX9 = some m.cls := hown
  have hl : lv_has ls 2 [(0, .ref a0), (1, .int 640)] := hl
  refine lv_iload_n hx hb dX9_numberOf_0 rfl (lv_at hl 1 rfl) ?_
  refine lv_if_lt (tgt := 21) hx hb dX9_numberOf_1 (by decide) (fun c => absurd c (by decide)) (fun _ => ?_)
  refine lv_iload_n hx hb dX9_numberOf_4 rfl (lv_at hl 1 rfl) ?_
  refine lv_aload_n hx hb dX9_numberOf_5 rfl (lv_at hl 0 rfl) ?_
  refine z_get (v := .int 645) hx hb hg hown hK hP i_X9 rfl 0 rfl 5 (by decide) mt42 e0 dX9_numberOf_6 ?_
  refine lv_icmp_ge (tgt := 21) hx hb dX9_numberOf_9 (by decide) (fun c => absurd c (by decide)) (fun _ => ?_)
  refine lv_aload_n hx hb dX9_numberOf_12 rfl (lv_at hl 0 rfl) ?_
  refine z_get (v := .ref a1) hx hb hg hown hK hP i_X9 rfl 0 rfl 1 (by decide) mt38 e1 dX9_numberOf_13 ?_
  refine lv_iload_n hx hb dX9_numberOf_16 rfl (lv_at hl 1 rfl) ?_
  refine z_iald (v := (nI j0)) (j := 640) hx hb hK hP 1 rfl rfl (Nat.le_of_ble_eq_true rfl) (Nat.le_of_ble_eq_true rfl) e2 dX9_numberOf_17 ?_
  refine lv_goto (tgt := 22) hx hb dX9_numberOf_18 (by decide) ?_
  have hP9 : va_P K.1 classes [(a0, zO 7 6 g0), (a1, zI K 645 f1)] H := hP.sub [0, 1] rfl
  have hD9 : va_D A [(a0, zO 7 6 g0), (a1, zI K 645 f1)] := hD.sub [0, 1] (by decide) rfl
  exact z_iret hx hb hr (fun _ => 0) rfl hP9 hD9 hS (Nat.le_of_ble_eq_true rfl) (Nat.le_of_ble_eq_true rfl) hlocks dX9_numberOf_22
set_option maxHeartbeats 4000000 in
set_option maxRecDepth 100000 in
theorem cX8_of_1 (l : Launch) (K : zK) (sz : Nat) (j0 : Nat) (hj0 : j0 < 8) : Met l yX8_of (Cond.code yX8_of cX8_of 2 (some .long) :: WG) { frames := 0, cells := 0, slots := 0, locals := 0 } (zPre K [] sz [.int 5, .int (nI j0)]) (va_Ql (fun (r : Int64) (_ : Nat → Nat) => r = ((1407374883553280 : Int64) ||| (((nI j0).toInt64) &&& (4294967295 : Int64)))) (zB K (va_A [] sz) (fun u : Nat → Nat => [])) (va_A [] sz)) 0 0 (va_A [] sz) := by
  refine z_met (Qc := fun A => (va_Ql (fun (r : Int64) (_ : Nat → Nat) => r = ((1407374883553280 : Int64) ||| (((nI j0).toInt64) &&& (4294967295 : Int64)))) (zB K A (fun u : Nat → Nat => [])) A)) (by decide +kernel) (Nat.le_of_ble_eq_true rfl) ?_
  intro p e s m args below meth c A ls H hx hb hr hg hown hlocks hml hin hK hP hD hA hS hZ hl
  have hown : s.vm.findClass RX8 = some m.cls := hown
  have hl : lv_has ls 2 [(0, .int 5), (1, .int (nI j0))] := hl
  refine lv_iload_n hx hb dX8_of_0 rfl (lv_at hl 0 rfl) ?_
  refine lv_i2l hx hb dX8_of_1 rfl ?_
  refine z_cstl (v := 5) (by decide +kernel) ?_
  refine lv_bipush (v := 48) hx hb dX8_of_2 (by decide) ?_
  refine lv_lshl hx hb dX8_of_4 rfl ?_
  refine z_cstl (v := 1407374883553280) (by decide +kernel) ?_
  refine lv_iload_n hx hb dX8_of_5 rfl (lv_at hl 1 rfl) ?_
  refine lv_i2l hx hb dX8_of_6 rfl ?_
  refine lv_ldc2 (v := 4294967295) hx hb hown (hg _ mt983) dX8_of_7 ?_
  refine lv_land hx hb dX8_of_10 ?_
  refine lv_lor hx hb dX8_of_11 ?_
  have hP9 : va_P K.1 classes [] H := hP.sub [] rfl
  have hD9 : va_D A [] := hD.sub [] (by decide) rfl
  exact z_lret hx hb hr (fun _ => 0) rfl hP9 hD9 hS (Nat.le_of_ble_eq_true rfl) (Nat.le_of_ble_eq_true rfl) hlocks dX8_of_12
set_option maxHeartbeats 4000000 in
set_option maxRecDepth 100000 in
theorem cX1_goToThing_1 (l : Launch) (K : zK) (sz : Nat) (a0 : Nat) (g0 : Nat → Value) (j0 : Nat) (hj0 : j0 < 8) : Met l yX1_goToThing (Cond.code yX1_goToThing cX1_goToThing 3 none :: WG) { frames := 0, cells := 0, slots := 0, locals := 0 } (zPre K [(a0, zO 1 18 g0)] sz [.ref a0, .long ((1407374883553280 : Int64) ||| (((nI j0).toInt64) &&& (4294967295 : Int64)))]) (va_Qv (fun _ : Nat → Nat => True) (zB K (va_A [(a0, zO 1 18 g0)] sz) (fun u : Nat → Nat => [(a0, zO 1 18 (va_up (va_up g0 15 (.long ((1407374883553280 : Int64) ||| (((nI j0).toInt64) &&& (4294967295 : Int64))))) 11 (.int 1)))])) (va_A [(a0, zO 1 18 g0)] sz)) 0 0 (va_A [(a0, zO 1 18 g0)] sz) := by
  refine z_met (Qc := fun A => (va_Qv (fun _ : Nat → Nat => True) (zB K A (fun u : Nat → Nat => [(a0, zO 1 18 (va_up (va_up g0 15 (.long ((1407374883553280 : Int64) ||| (((nI j0).toInt64) &&& (4294967295 : Int64))))) 11 (.int 1)))])) A)) (by decide +kernel) (Nat.le_of_ble_eq_true rfl) ?_
  intro p e s m args below meth c A ls H hx hb hr hg hown hlocks hml hin hK hP hD hA hS hZ hl
  have hown : s.vm.findClass RX1 = some m.cls := hown
  have hl : lv_has ls 3 [(0, .ref a0), (1, .long ((1407374883553280 : Int64) ||| (((nI j0).toInt64) &&& (4294967295 : Int64))))] := hl
  refine lv_aload_n hx hb dX1_goToThing_0 rfl (lv_at hl 0 rfl) ?_
  refine lv_lload_n hx hb dX1_goToThing_1 rfl (lv_at hl 1 rfl) ?_
  refine z_put hx hb hg hown hK hP hD hS i_X1 rfl tyX1_ok nmX1 0 rfl 15 (by decide) mt264 rfl rfl rfl dX1_goToThing_2 (fun gg1 H locs y2 hP hD hS => ?_)
  have hP : va_P K.1 classes [(a0, zO 1 18 gg1)] H := hP
  have hD : va_D A [(a0, zO 1 18 gg1)] := hD
  refine lv_aload_n hx hb dX1_goToThing_5 rfl (lv_at hl 0 rfl) ?_
  refine lv_iconst (v := 1) hx hb dX1_goToThing_6 (by decide) ?_
  refine z_put hx hb hg hown hK hP hD hS i_X1 rfl tyX1_ok nmX1 0 rfl 11 (by decide) mt260 rfl rfl rfl dX1_goToThing_7 (fun gg3 H locs y4 hP hD hS => ?_)
  have hP : va_P K.1 classes [(a0, zO 1 18 gg3)] H := hP
  have hD : va_D A [(a0, zO 1 18 gg3)] := hD
  subst y4
  subst y2
  have hP9 : va_P K.1 classes [(a0, zO 1 18 (va_up (va_up g0 15 (.long ((1407374883553280 : Int64) ||| (((nI j0).toInt64) &&& (4294967295 : Int64))))) 11 (.int 1)))] H := hP.sub [0] rfl
  have hD9 : va_D A [(a0, zO 1 18 (va_up (va_up g0 15 (.long ((1407374883553280 : Int64) ||| (((nI j0).toInt64) &&& (4294967295 : Int64))))) 11 (.int 1)))] := hD.sub [0] (by decide) rfl
  exact z_vret hx hb hr (fun _ => 0) trivial hP9 hD9 hS (Nat.le_of_ble_eq_true rfl) (Nat.le_of_ble_eq_true rfl) hlocks dX1_goToThing_10
set_option maxHeartbeats 4000000 in
set_option maxRecDepth 100000 in
theorem cX1_step_2 (l : Launch) (K : zK) (sz : Nat) (a0 : Nat) (a1 : Nat) (a2 : Nat) (a3 : Nat) (a4 : Nat) (a5 : Nat) (g0 : Nat → Value) (f1 : Nat → Int32) (g2 : Nat → Value) (g3 : Nat → Value) (f4 : Nat → Int32) (f5 : Nat → Int32) (x0 : Int32) (j1 : Nat) (hj1 : j1 < 8) (e0 : g0 10 = (.int 0)) (e1 : g0 8 = (.int 0)) (e2 : g0 9 = (.int x0)) (e3 : ¬ (1 : Int32) = x0) (e4 : g0 2 = (.ref a1)) (e5 : f1 0 = 0) (e6 : g0 14 = (.int 0)) (e7 : f1 6 = 0) (e8 : g0 6 = (.ref a2)) (e9 : g2 0 = (.ref a3)) (e10 : g0 12 = (.int 640)) (e11 : g3 5 = (.int 645)) (e12 : g3 0 = (.ref a4)) (e13 : f4 640 = 2) (e14 : g3 1 = (.ref a5)) (e15 : f5 640 = (nI j1)) : Met l yX1_step (Cond.code yX1_step cX1_step 2 none :: WG) { frames := 1, cells := 0, slots := 0, locals := 22 } (zPre K [(a0, zO 1 18 g0), (a1, zI K 10 f1), (a2, zO 4 6 g2), (a3, zO 7 6 g3), (a4, zI K 645 f4), (a5, zI K 645 f5)] sz [.ref a0]) (va_Qv (fun _ : Nat → Nat => True) (zB K (va_A [(a0, zO 1 18 g0), (a1, zI K 10 f1), (a2, zO 4 6 g2), (a3, zO 7 6 g3), (a4, zI K 645 f4), (a5, zI K 645 f5)] sz) (fun u : Nat → Nat => [(a0, zO 1 18 (va_up (va_up (va_up g0 10 (.int 1)) 15 (.long ((1407374883553280 : Int64) ||| (((nI j1).toInt64) &&& (4294967295 : Int64))))) 11 (.int 1))), (a1, zI K 10 (va_up (va_up f1 0 1) 6 1)), (a2, zO 4 6 g2), (a3, zO 7 6 g3), (a4, zI K 645 f4), (a5, zI K 645 f5)])) (va_A [(a0, zO 1 18 g0), (a1, zI K 10 f1), (a2, zO 4 6 g2), (a3, zO 7 6 g3), (a4, zI K 645 f4), (a5, zI K 645 f5)] sz)) 0 0 (va_A [(a0, zO 1 18 g0), (a1, zI K 10 f1), (a2, zO 4 6 g2), (a3, zO 7 6 g3), (a4, zI K 645 f4), (a5, zI K 645 f5)] sz) := by
  refine z_met (Qc := fun A => (va_Qv (fun _ : Nat → Nat => True) (zB K A (fun u : Nat → Nat => [(a0, zO 1 18 (va_up (va_up (va_up g0 10 (.int 1)) 15 (.long ((1407374883553280 : Int64) ||| (((nI j1).toInt64) &&& (4294967295 : Int64))))) 11 (.int 1))), (a1, zI K 10 (va_up (va_up f1 0 1) 6 1)), (a2, zO 4 6 g2), (a3, zO 7 6 g3), (a4, zI K 645 f4), (a5, zI K 645 f5)])) A)) (by decide +kernel) (Nat.le_of_ble_eq_true rfl) ?_
  intro p e s m args below meth c A ls H hx hb hr hg hown hlocks hml hin hK hP hD hA hS hZ hl
  have hown : s.vm.findClass RX1 = some m.cls := hown
  have hl : lv_has ls 2 [(0, .ref a0)] := hl
  refine lv_aload_n hx hb dX1_step_0 rfl (lv_at hl 0 rfl) ?_
  refine z_get (v := .int 0) hx hb hg hown hK hP i_X1 rfl 0 rfl 10 (by decide) mt259 e0 dX1_step_1 ?_
  refine lv_aload_n hx hb dX1_step_4 rfl (lv_at hl 0 rfl) ?_
  refine z_get (v := .int 0) hx hb hg hown hK hP i_X1 rfl 0 rfl 8 (by decide) mt257 e1 dX1_step_5 ?_
  refine lv_if_eq (tgt := 17) hx hb dX1_step_8 (by decide) (fun _ => ?_) (fun c => absurd (by decide) c)
  refine lv_sipush (v := 600) hx hb dX1_step_17 (by decide) ?_
  refine lv_icmp_lt (tgt := 30) hx hb dX1_step_20 (by decide) (fun _ => ?_) (fun c => absurd (by decide) c)
  refine lv_aload_n hx hb dX1_step_30 rfl (lv_at hl 0 rfl) ?_
  refine z_get (v := .int 0) hx hb hg hown hK hP i_X1 rfl 0 rfl 8 (by decide) mt257 e1 dX1_step_31 ?_
  refine lv_if_ne (tgt := 57) hx hb dX1_step_34 (by decide) (fun c => absurd (by decide) c) (fun _ => ?_)
  refine lv_aload_n hx hb dX1_step_37 rfl (lv_at hl 0 rfl) ?_
  refine z_get (v := .int 0) hx hb hg hown hK hP i_X1 rfl 0 rfl 10 (by decide) mt259 e0 dX1_step_38 ?_
  refine lv_iconst (v := 1) hx hb dX1_step_41 (by decide) ?_
  refine lv_iadd hx hb dX1_step_42 ?_
  refine z_cst (v := 1) (by decide +kernel) ?_
  refine lv_aload_n hx hb dX1_step_43 rfl (lv_at hl 0 rfl) ?_
  refine z_get (v := .int x0) hx hb hg hown hK hP i_X1 rfl 0 rfl 9 (by decide) mt258 e2 dX1_step_44 ?_
  refine lv_icmp_ne (tgt := 57) hx hb dX1_step_47 (by decide) (fun _ => ?_) (fun c => absurd c e3)
  refine lv_aload_n hx hb dX1_step_57 rfl (lv_at hl 0 rfl) ?_
  refine z_callv [(a0, zO 1 18 g0), (a1, zI K 10 f1)] [(a2, zO 4 6 g2), (a3, zO 7 6 g3), (a4, zI K 645 f4), (a5, zI K 645 f5)] [0, 1] [2, 3, 4, 5] hP hD hS hA rfl rfl (by decide) (by decide) (by decide +kernel) 0 0 rfl rfl (fun hPc hDc hF => z_runV (As := []) (rest := []) ⟨hx, hb, hml, hown, hg⟩ (cX1_countStep_1 l K H.size a0 a1 g0 f1 e0 e1 e4 e5 e6 e7) kV_RX1_126 hd_X1_countStep rfl rfl ⟨(Nat.le_of_ble_eq_true rfl), (Nat.le_of_ble_eq_true rfl)⟩ hK hS hZ hPc hDc hF 0 rfl rfl rfl hl.1 rfl (Nat.le_of_ble_eq_true rfl) dX1_step_58 ⟨(Nat.le_of_ble_eq_true rfl), (Nat.le_of_ble_eq_true rfl)⟩) (fun u1 H locs w2 hP hD hS => ?_)
  have hP : va_P K.1 classes [(a2, zO 4 6 g2), (a3, zO 7 6 g3), (a4, zI K 645 f4), (a5, zI K 645 f5), (a0, zO 1 18 (va_up g0 10 (.int 1))), (a1, zI K 10 (va_up (va_up f1 0 1) 6 1))] H := hP
  have hD : va_D A [(a2, zO 4 6 g2), (a3, zO 7 6 g3), (a4, zI K 645 f4), (a5, zI K 645 f5), (a0, zO 1 18 (va_up g0 10 (.int 1))), (a1, zI K 10 (va_up (va_up f1 0 1) 6 1))] := hD
  obtain ⟨ff4, y5⟩ : ∃ z, z = ((va_up (va_up f1 0 1) 6 1) : Nat → Int32) := ⟨_, rfl⟩
  rw [← y5] at hP hD
  refine lv_aload_n hx hb dX1_step_61 rfl (lv_at hl 0 rfl) ?_
  refine z_get (v := .ref a2) hx hb hg hown hK hP i_X1 rfl 4 rfl 6 (by decide) mt255 (zu_ne (by decide) e8) dX1_step_62 ?_
  refine z_get (v := .ref a3) hx hb hg hown hK hP i_X5 rfl 0 rfl 0 (by decide) mt72 e9 dX1_step_65 ?_
  refine lv_aload_n hx hb dX1_step_68 rfl (lv_at hl 0 rfl) ?_
  refine z_get (v := .int 640) hx hb hg hown hK hP i_X1 rfl 4 rfl 12 (by decide) mt261 (zu_ne (by decide) e10) dX1_step_69 ?_
  refine z_calli [(a3, zO 7 6 g3), (a4, zI K 645 f4)] [(a2, zO 4 6 g2), (a5, zI K 645 f5), (a0, zO 1 18 (va_up g0 10 (.int 1))), (a1, zI K 10 ff4)] [1, 2] [0, 3, 4, 5] hP hD hS hA rfl rfl (by decide) (by decide) (by decide +kernel) 0 0 rfl rfl (fun hPc hDc hF => z_runV (As := [.int 640]) (rest := []) ⟨hx, hb, hml, hown, hg⟩ (cX9_kindOf_1 l K H.size a3 a4 g3 f4 e11 e12 e13) kV_RX1_135 hd_X9_kindOf rfl rfl ⟨(Nat.le_of_ble_eq_true rfl), (Nat.le_of_ble_eq_true rfl)⟩ hK hS hZ hPc hDc hF 0 rfl rfl rfl hl.1 rfl (Nat.le_of_ble_eq_true rfl) dX1_step_72 ⟨(Nat.le_of_ble_eq_true rfl), (Nat.le_of_ble_eq_true rfl)⟩) (fun r8 u6 H locs w7 hP hD hS => ?_)
  subst w7
  have hP : va_P K.1 classes [(a2, zO 4 6 g2), (a5, zI K 645 f5), (a0, zO 1 18 (va_up g0 10 (.int 1))), (a1, zI K 10 ff4), (a3, zO 7 6 g3), (a4, zI K 645 f4)] H := hP
  have hD : va_D A [(a2, zO 4 6 g2), (a5, zI K 645 f5), (a0, zO 1 18 (va_up g0 10 (.int 1))), (a1, zI K 10 ff4), (a3, zO 7 6 g3), (a4, zI K 645 f4)] := hD
  refine lv_istore_n (lv' := [(1, .int 2), (0, .ref a0)]) hx hb dX1_step_75 rfl hl (by decide) rfl (fun ls hl => ?_)
  refine lv_iload_n hx hb dX1_step_76 rfl (lv_at hl 0 rfl) ?_
  refine lv_tableIn (off := 131) (tgt := 208) hx hb dX1_step_77 (by decide) (by decide) (by decide) (by decide) ?_
  refine lv_aload_n hx hb dX1_step_208 rfl (lv_at hl 1 rfl) ?_
  refine lv_iconst (v := 5) hx hb dX1_step_209 (by decide) ?_
  refine lv_aload_n hx hb dX1_step_210 rfl (lv_at hl 1 rfl) ?_
  refine z_get (v := .ref a2) hx hb hg hown hK hP i_X1 rfl 2 rfl 6 (by decide) mt255 (zu_ne (by decide) e8) dX1_step_211 ?_
  refine z_get (v := .ref a3) hx hb hg hown hK hP i_X5 rfl 0 rfl 0 (by decide) mt72 e9 dX1_step_214 ?_
  refine lv_aload_n hx hb dX1_step_217 rfl (lv_at hl 1 rfl) ?_
  refine z_get (v := .int 640) hx hb hg hown hK hP i_X1 rfl 2 rfl 12 (by decide) mt261 (zu_ne (by decide) e10) dX1_step_218 ?_
  refine z_calli [(a3, zO 7 6 g3), (a5, zI K 645 f5)] [(a2, zO 4 6 g2), (a0, zO 1 18 (va_up g0 10 (.int 1))), (a1, zI K 10 ff4), (a4, zI K 645 f4)] [4, 1] [0, 2, 3, 5] hP hD hS hA rfl rfl (by decide) (by decide) (by decide +kernel) 0 0 rfl rfl (fun hPc hDc hF => z_runV (As := [.int 640]) (rest := [.int 5, .ref a0]) ⟨hx, hb, hml, hown, hg⟩ (cX9_numberOf_1 l K H.size a3 a5 g3 f5 j1 hj1 e11 e14 e15) kV_RX1_157 hd_X9_numberOf rfl rfl ⟨(Nat.le_of_ble_eq_true rfl), (Nat.le_of_ble_eq_true rfl)⟩ hK hS hZ hPc hDc hF 0 rfl rfl rfl hl.1 rfl (Nat.le_of_ble_eq_true rfl) dX1_step_221 ⟨(Nat.le_of_ble_eq_true rfl), (Nat.le_of_ble_eq_true rfl)⟩) (fun r11 u9 H locs w10 hP hD hS => ?_)
  subst w10
  have hP : va_P K.1 classes [(a2, zO 4 6 g2), (a0, zO 1 18 (va_up g0 10 (.int 1))), (a1, zI K 10 ff4), (a4, zI K 645 f4), (a3, zO 7 6 g3), (a5, zI K 645 f5)] H := hP
  have hD : va_D A [(a2, zO 4 6 g2), (a0, zO 1 18 (va_up g0 10 (.int 1))), (a1, zI K 10 ff4), (a4, zI K 645 f4), (a3, zO 7 6 g3), (a5, zI K 645 f5)] := hD
  refine z_calll [] [(a2, zO 4 6 g2), (a0, zO 1 18 (va_up g0 10 (.int 1))), (a1, zI K 10 ff4), (a4, zI K 645 f4), (a3, zO 7 6 g3), (a5, zI K 645 f5)] [] [0, 1, 2, 3, 4, 5] hP hD hS hA rfl rfl (by decide) (by decide) (by decide +kernel) 0 0 rfl rfl (fun hPc hDc hF => z_runS (As := [.int 5, .int (nI j1)]) (rest := [.ref a0]) ⟨hx, hb, hml, hown, hg⟩ (cX8_of_1 l K H.size j1 hj1) kS_RX1_122 hd_X8_of rfl rfl ⟨(Nat.le_of_ble_eq_true rfl), (Nat.le_of_ble_eq_true rfl)⟩ hK hS hZ hPc hDc hF rfl hl.1 rfl (Nat.le_of_ble_eq_true rfl) dX1_step_224 ⟨(Nat.le_of_ble_eq_true rfl), (Nat.le_of_ble_eq_true rfl)⟩) (fun r14 u12 H locs w13 hP hD hS => ?_)
  subst w13
  have hP : va_P K.1 classes [(a2, zO 4 6 g2), (a0, zO 1 18 (va_up g0 10 (.int 1))), (a1, zI K 10 ff4), (a4, zI K 645 f4), (a3, zO 7 6 g3), (a5, zI K 645 f5)] H := hP
  have hD : va_D A [(a2, zO 4 6 g2), (a0, zO 1 18 (va_up g0 10 (.int 1))), (a1, zI K 10 ff4), (a4, zI K 645 f4), (a3, zO 7 6 g3), (a5, zI K 645 f5)] := hD
  refine z_callv [(a0, zO 1 18 (va_up g0 10 (.int 1)))] [(a2, zO 4 6 g2), (a1, zI K 10 ff4), (a4, zI K 645 f4), (a3, zO 7 6 g3), (a5, zI K 645 f5)] [1] [0, 2, 3, 4, 5] hP hD hS hA rfl rfl (by decide) (by decide) (by decide +kernel) 0 0 rfl rfl (fun hPc hDc hF => z_runV (As := [.long ((1407374883553280 : Int64) ||| (((nI j1).toInt64) &&& (4294967295 : Int64)))]) (rest := []) ⟨hx, hb, hml, hown, hg⟩ (cX1_goToThing_1 l K H.size a0 (va_up g0 10 (.int 1)) j1 hj1) kV_RX1_154 hd_X1_goToThing rfl rfl ⟨(Nat.le_of_ble_eq_true rfl), (Nat.le_of_ble_eq_true rfl)⟩ hK hS hZ hPc hDc hF 0 rfl rfl rfl hl.1 rfl (Nat.le_of_ble_eq_true rfl) dX1_step_227 ⟨(Nat.le_of_ble_eq_true rfl), (Nat.le_of_ble_eq_true rfl)⟩) (fun u15 H locs w16 hP hD hS => ?_)
  have hP : va_P K.1 classes [(a2, zO 4 6 g2), (a1, zI K 10 ff4), (a4, zI K 645 f4), (a3, zO 7 6 g3), (a5, zI K 645 f5), (a0, zO 1 18 (va_up (va_up (va_up g0 10 (.int 1)) 15 (.long ((1407374883553280 : Int64) ||| (((nI j1).toInt64) &&& (4294967295 : Int64))))) 11 (.int 1)))] H := hP
  have hD : va_D A [(a2, zO 4 6 g2), (a1, zI K 10 ff4), (a4, zI K 645 f4), (a3, zO 7 6 g3), (a5, zI K 645 f5), (a0, zO 1 18 (va_up (va_up (va_up g0 10 (.int 1)) 15 (.long ((1407374883553280 : Int64) ||| (((nI j1).toInt64) &&& (4294967295 : Int64))))) 11 (.int 1)))] := hD
  obtain ⟨gg18, y19⟩ : ∃ z, z = ((va_up (va_up (va_up g0 10 (.int 1)) 15 (.long ((1407374883553280 : Int64) ||| (((nI j1).toInt64) &&& (4294967295 : Int64))))) 11 (.int 1)) : Nat → Value) := ⟨_, rfl⟩
  rw [← y19] at hP hD
  refine lv_goto (tgt := 327) hx hb dX1_step_230 (by decide) ?_
  subst y19
  subst y5
  have hP9 : va_P K.1 classes [(a0, zO 1 18 (va_up (va_up (va_up g0 10 (.int 1)) 15 (.long ((1407374883553280 : Int64) ||| (((nI j1).toInt64) &&& (4294967295 : Int64))))) 11 (.int 1))), (a1, zI K 10 (va_up (va_up f1 0 1) 6 1)), (a2, zO 4 6 g2), (a3, zO 7 6 g3), (a4, zI K 645 f4), (a5, zI K 645 f5)] H := hP.sub [5, 1, 0, 3, 2, 4] rfl
  have hD9 : va_D A [(a0, zO 1 18 (va_up (va_up (va_up g0 10 (.int 1)) 15 (.long ((1407374883553280 : Int64) ||| (((nI j1).toInt64) &&& (4294967295 : Int64))))) 11 (.int 1))), (a1, zI K 10 (va_up (va_up f1 0 1) 6 1)), (a2, zO 4 6 g2), (a3, zO 7 6 g3), (a4, zI K 645 f4), (a5, zI K 645 f5)] := hD.sub [5, 1, 0, 3, 2, 4] (by decide) rfl
  exact z_vret hx hb hr (fun _ => 0) trivial hP9 hD9 hS (Nat.le_of_ble_eq_true rfl) (Nat.le_of_ble_eq_true rfl) hlocks dX1_step_327
set_option maxHeartbeats 4000000 in
set_option maxRecDepth 100000 in
theorem cX8_sort_1 (l : Launch) (K : zK) (sz : Nat) (j0 : Nat) (hj0 : j0 < 8) : Met l yX8_sort (Cond.code yX8_sort cX8_sort 2 (some .int) :: WG) { frames := 0, cells := 0, slots := 0, locals := 0 } (zPre K [] sz [.long ((1407374883553280 : Int64) ||| (((nI j0).toInt64) &&& (4294967295 : Int64)))]) (va_Qi (fun (r : Int32) (_ : Nat → Nat) => r = 5) (zB K (va_A [] sz) (fun u : Nat → Nat => [])) (va_A [] sz)) 0 0 (va_A [] sz) := by
  refine z_met (Qc := fun A => (va_Qi (fun (r : Int32) (_ : Nat → Nat) => r = 5) (zB K A (fun u : Nat → Nat => [])) A)) (by decide +kernel) (Nat.le_of_ble_eq_true rfl) ?_
  intro p e s m args below meth c A ls H hx hb hr hg hown hlocks hml hin hK hP hD hA hS hZ hl
  have hown : s.vm.findClass RX8 = some m.cls := hown
  have hl : lv_has ls 2 [(0, .long ((1407374883553280 : Int64) ||| (((nI j0).toInt64) &&& (4294967295 : Int64))))] := hl
  refine lv_lload_n hx hb dX8_sort_0 rfl (lv_at hl 0 rfl) ?_
  refine lv_bipush (v := 48) hx hb dX8_sort_1 (by decide) ?_
  refine lv_lshr hx hb dX8_sort_3 rfl ?_
  refine z_cstl (v := 5) ((by decide +kernel : ∀ j, j < 8 → (((1407374883553280 : Int64) ||| (((nI j).toInt64) &&& (4294967295 : Int64))) >>> ((48 : Int32).toInt64 &&& 63)) = (5 : Int64)) j0 hj0) ?_
  refine lv_l2i hx hb dX8_sort_4 rfl ?_
  refine z_cst (v := 5) (by decide +kernel) ?_
  have hP9 : va_P K.1 classes [] H := hP.sub [] rfl
  have hD9 : va_D A [] := hD.sub [] (by decide) rfl
  exact z_iret hx hb hr (fun _ => 0) rfl hP9 hD9 hS (Nat.le_of_ble_eq_true rfl) (Nat.le_of_ble_eq_true rfl) hlocks dX8_sort_5
set_option maxHeartbeats 4000000 in
set_option maxRecDepth 100000 in
theorem cX8_low_1 (l : Launch) (K : zK) (sz : Nat) (j0 : Nat) (hj0 : j0 < 8) : Met l yX8_low (Cond.code yX8_low cX8_low 2 (some .int) :: WG) { frames := 0, cells := 0, slots := 0, locals := 0 } (zPre K [] sz [.long ((1407374883553280 : Int64) ||| (((nI j0).toInt64) &&& (4294967295 : Int64)))]) (va_Qi (fun (r : Int32) (_ : Nat → Nat) => r = (nI j0)) (zB K (va_A [] sz) (fun u : Nat → Nat => [])) (va_A [] sz)) 0 0 (va_A [] sz) := by
  refine z_met (Qc := fun A => (va_Qi (fun (r : Int32) (_ : Nat → Nat) => r = (nI j0)) (zB K A (fun u : Nat → Nat => [])) A)) (by decide +kernel) (Nat.le_of_ble_eq_true rfl) ?_
  intro p e s m args below meth c A ls H hx hb hr hg hown hlocks hml hin hK hP hD hA hS hZ hl
  have hown : s.vm.findClass RX8 = some m.cls := hown
  have hl : lv_has ls 2 [(0, .long ((1407374883553280 : Int64) ||| (((nI j0).toInt64) &&& (4294967295 : Int64))))] := hl
  refine lv_lload_n hx hb dX8_low_0 rfl (lv_at hl 0 rfl) ?_
  refine lv_l2i hx hb dX8_low_1 rfl ?_
  refine z_cst (v := (nI j0)) ((by decide +kernel : ∀ j, j < 8 → (((1407374883553280 : Int64) ||| (((nI j).toInt64) &&& (4294967295 : Int64))).toInt32) = (nI j)) j0 hj0) ?_
  have hP9 : va_P K.1 classes [] H := hP.sub [] rfl
  have hD9 : va_D A [] := hD.sub [] (by decide) rfl
  exact z_iret hx hb hr (fun _ => 0) rfl hP9 hD9 hS (Nat.le_of_ble_eq_true rfl) (Nat.le_of_ble_eq_true rfl) hlocks dX8_low_2
set_option maxHeartbeats 4000000 in
set_option maxRecDepth 100000 in
theorem cX5_rootOf_1 (l : Launch) (K : zK) (sz : Nat) (a0 : Nat) (g0 : Nat → Value) (j0 : Nat) (hj0 : j0 < 8) : Met l yX5_rootOf (Cond.code yX5_rootOf cX5_rootOf 2 (some .int) :: WG) { frames := 0, cells := 0, slots := 0, locals := 0 } (zPre K [(a0, zO 4 6 g0)] sz [.ref a0, .int (nI j0)]) (va_Qi (fun (r : Int32) (_ : Nat → Nat) => r = ((nI j0) * (80 : Int32))) (zB K (va_A [(a0, zO 4 6 g0)] sz) (fun u : Nat → Nat => [(a0, zO 4 6 g0)])) (va_A [(a0, zO 4 6 g0)] sz)) 0 0 (va_A [(a0, zO 4 6 g0)] sz) := by
  refine z_met (Qc := fun A => (va_Qi (fun (r : Int32) (_ : Nat → Nat) => r = ((nI j0) * (80 : Int32))) (zB K A (fun u : Nat → Nat => [(a0, zO 4 6 g0)])) A)) (by decide +kernel) (Nat.le_of_ble_eq_true rfl) ?_
  intro p e s m args below meth c A ls H hx hb hr hg hown hlocks hml hin hK hP hD hA hS hZ hl
  have hown : s.vm.findClass RX5 = some m.cls := hown
  have hl : lv_has ls 2 [(0, .ref a0), (1, .int (nI j0))] := hl
  refine lv_iload_n hx hb dX5_rootOf_0 rfl (lv_at hl 1 rfl) ?_
  refine lv_bipush (v := 80) hx hb dX5_rootOf_1 (by decide) ?_
  refine lv_imul hx hb dX5_rootOf_3 ?_
  have hP9 : va_P K.1 classes [(a0, zO 4 6 g0)] H := hP.sub [0] rfl
  have hD9 : va_D A [(a0, zO 4 6 g0)] := hD.sub [0] (by decide) rfl
  exact z_iret hx hb hr (fun _ => 0) rfl hP9 hD9 hS (Nat.le_of_ble_eq_true rfl) (Nat.le_of_ble_eq_true rfl) hlocks dX5_rootOf_4
set_option maxHeartbeats 4000000 in
set_option maxRecDepth 100000 in
theorem cX5_stateOf_1 (l : Launch) (K : zK) (sz : Nat) (a0 : Nat) (a1 : Nat) (g0 : Nat → Value) (f1 : Nat → Int32) (j0 : Nat) (hj0 : j0 < 8) (e0 : g0 2 = (.ref a1)) (e1 : ∀ j : Nat, f1 j = 0) : Met l yX5_stateOf (Cond.code yX5_stateOf cX5_stateOf 2 (some .int) :: WG) { frames := 0, cells := 0, slots := 0, locals := 0 } (zPre K [(a0, zO 4 6 g0), (a1, zI K 8 f1)] sz [.ref a0, .int (nI j0)]) (va_Qi (fun (r : Int32) (_ : Nat → Nat) => r = 0) (zB K (va_A [(a0, zO 4 6 g0), (a1, zI K 8 f1)] sz) (fun u : Nat → Nat => [(a0, zO 4 6 g0), (a1, zI K 8 f1)])) (va_A [(a0, zO 4 6 g0), (a1, zI K 8 f1)] sz)) 0 0 (va_A [(a0, zO 4 6 g0), (a1, zI K 8 f1)] sz) := by
  refine z_met (Qc := fun A => (va_Qi (fun (r : Int32) (_ : Nat → Nat) => r = 0) (zB K A (fun u : Nat → Nat => [(a0, zO 4 6 g0), (a1, zI K 8 f1)])) A)) (by decide +kernel) (Nat.le_of_ble_eq_true rfl) ?_
  intro p e s m args below meth c A ls H hx hb hr hg hown hlocks hml hin hK hP hD hA hS hZ hl
  have hown : s.vm.findClass RX5 = some m.cls := hown
  have hl : lv_has ls 2 [(0, .ref a0), (1, .int (nI j0))] := hl
  refine lv_iload_n hx hb dX5_stateOf_0 rfl (lv_at hl 1 rfl) ?_
  refine lv_if_lt (tgt := 19) hx hb dX5_stateOf_1 (by decide) (fun c => absurd c ((by decide : ∀ j, j < 8 → ¬ ((nI j) < (0 : Int32))) j0 hj0)) (fun _ => ?_)
  refine lv_iload_n hx hb dX5_stateOf_4 rfl (lv_at hl 1 rfl) ?_
  refine lv_bipush (v := 8) hx hb dX5_stateOf_5 (by decide) ?_
  refine lv_icmp_ge (tgt := 19) hx hb dX5_stateOf_7 (by decide) (fun c => absurd c ((by decide : ∀ j, j < 8 → ¬ ((8 : Int32) ≤ (nI j))) j0 hj0)) (fun _ => ?_)
  refine lv_aload_n hx hb dX5_stateOf_10 rfl (lv_at hl 0 rfl) ?_
  refine z_get (v := .ref a1) hx hb hg hown hK hP i_X5 rfl 0 rfl 2 (by decide) mt75 e0 dX5_stateOf_11 ?_
  refine lv_iload_n hx hb dX5_stateOf_14 rfl (lv_at hl 1 rfl) ?_
  refine z_iald (v := 0) (j := j0) hx hb hK hP 1 rfl rfl (Nat.lt_of_lt_of_le hj0 (Nat.le_of_ble_eq_true rfl)) (Nat.le_of_ble_eq_true rfl) (e1 j0) dX5_stateOf_15 ?_
  refine lv_goto (tgt := 20) hx hb dX5_stateOf_16 (by decide) ?_
  have hP9 : va_P K.1 classes [(a0, zO 4 6 g0), (a1, zI K 8 f1)] H := hP.sub [0, 1] rfl
  have hD9 : va_D A [(a0, zO 4 6 g0), (a1, zI K 8 f1)] := hD.sub [0, 1] (by decide) rfl
  exact z_iret hx hb hr (fun _ => 0) rfl hP9 hD9 hS (Nat.le_of_ble_eq_true rfl) (Nat.le_of_ble_eq_true rfl) hlocks dX5_stateOf_20
set_option maxHeartbeats 4000000 in
set_option maxRecDepth 100000 in
theorem cX1_stop_2 (l : Launch) (K : zK) (sz : Nat) (a0 : Nat) (g0 : Nat → Value) (e0 : g0 8 = (.int 0)) : Met l yX1_stop (Cond.code yX1_stop cX1_stop 2 none :: WG) { frames := 0, cells := 0, slots := 0, locals := 0 } (zPre K [(a0, zO 1 18 g0)] sz [.ref a0, .int 5]) (va_Qv (fun _ : Nat → Nat => True) (zB K (va_A [(a0, zO 1 18 g0)] sz) (fun u : Nat → Nat => [(a0, zO 1 18 (va_up (va_up g0 16 (.int 5)) 11 (.int 4)))])) (va_A [(a0, zO 1 18 g0)] sz)) 0 0 (va_A [(a0, zO 1 18 g0)] sz) := by
  refine z_met (Qc := fun A => (va_Qv (fun _ : Nat → Nat => True) (zB K A (fun u : Nat → Nat => [(a0, zO 1 18 (va_up (va_up g0 16 (.int 5)) 11 (.int 4)))])) A)) (by decide +kernel) (Nat.le_of_ble_eq_true rfl) ?_
  intro p e s m args below meth c A ls H hx hb hr hg hown hlocks hml hin hK hP hD hA hS hZ hl
  have hown : s.vm.findClass RX1 = some m.cls := hown
  have hl : lv_has ls 2 [(0, .ref a0), (1, .int 5)] := hl
  refine lv_aload_n hx hb dX1_stop_0 rfl (lv_at hl 0 rfl) ?_
  refine z_get (v := .int 0) hx hb hg hown hK hP i_X1 rfl 0 rfl 8 (by decide) mt257 e0 dX1_stop_1 ?_
  refine lv_if_ne (tgt := 12) hx hb dX1_stop_4 (by decide) (fun c => absurd (by decide) c) (fun _ => ?_)
  refine lv_aload_n hx hb dX1_stop_7 rfl (lv_at hl 0 rfl) ?_
  refine lv_iload_n hx hb dX1_stop_8 rfl (lv_at hl 1 rfl) ?_
  refine z_put hx hb hg hown hK hP hD hS i_X1 rfl tyX1_ok nmX1 0 rfl 16 (by decide) mt265 rfl rfl rfl dX1_stop_9 (fun gg1 H locs y2 hP hD hS => ?_)
  have hP : va_P K.1 classes [(a0, zO 1 18 gg1)] H := hP
  have hD : va_D A [(a0, zO 1 18 gg1)] := hD
  refine lv_aload_n hx hb dX1_stop_12 rfl (lv_at hl 0 rfl) ?_
  refine lv_iconst (v := 4) hx hb dX1_stop_13 (by decide) ?_
  refine z_put hx hb hg hown hK hP hD hS i_X1 rfl tyX1_ok nmX1 0 rfl 11 (by decide) mt260 rfl rfl rfl dX1_stop_14 (fun gg3 H locs y4 hP hD hS => ?_)
  have hP : va_P K.1 classes [(a0, zO 1 18 gg3)] H := hP
  have hD : va_D A [(a0, zO 1 18 gg3)] := hD
  subst y4
  subst y2
  have hP9 : va_P K.1 classes [(a0, zO 1 18 (va_up (va_up g0 16 (.int 5)) 11 (.int 4)))] H := hP.sub [0] rfl
  have hD9 : va_D A [(a0, zO 1 18 (va_up (va_up g0 16 (.int 5)) 11 (.int 4)))] := hD.sub [0] (by decide) rfl
  exact z_vret hx hb hr (fun _ => 0) trivial hP9 hD9 hS (Nat.le_of_ble_eq_true rfl) (Nat.le_of_ble_eq_true rfl) hlocks dX1_stop_17
set_option maxHeartbeats 4000000 in
set_option maxRecDepth 100000 in
theorem cX1_lookAtOwn_1 (l : Launch) (K : zK) (sz : Nat) (a0 : Nat) (a1 : Nat) (a2 : Nat) (a3 : Nat) (g0 : Nat → Value) (g1 : Nat → Value) (f2 : Nat → Int32) (f3 : Nat → Int32) (j0 : Nat) (hj0 : j0 < 8) (e0 : g0 6 = (.ref a1)) (e1 : g0 7 = (.int 1)) (e2 : g1 2 = (.ref a2)) (e3 : ∀ j : Nat, f2 j = 0) (e4 : g1 1 = (.ref a3)) (e5 : ∀ j : Nat, f3 j = 0) (e6 : g0 8 = (.int 0)) : Met l yX1_lookAtOwn (Cond.code yX1_lookAtOwn cX1_lookAtOwn 4 none :: WG) { frames := 1, cells := 0, slots := 0, locals := 21 } (zPre K [(a0, zO 1 18 g0), (a1, zO 4 6 g1), (a2, zI K 8 f2), (a3, zI K 8 f3)] sz [.ref a0, .int (nI j0)]) (va_Qv (fun _ : Nat → Nat => True) (zB K (va_A [(a0, zO 1 18 g0), (a1, zO 4 6 g1), (a2, zI K 8 f2), (a3, zI K 8 f3)] sz) (fun u : Nat → Nat => [(a0, zO 1 18 (va_up (va_up g0 16 (.int 5)) 11 (.int 4))), (a1, zO 4 6 g1), (a2, zI K 8 f2), (a3, zI K 8 f3)])) (va_A [(a0, zO 1 18 g0), (a1, zO 4 6 g1), (a2, zI K 8 f2), (a3, zI K 8 f3)] sz)) 0 0 (va_A [(a0, zO 1 18 g0), (a1, zO 4 6 g1), (a2, zI K 8 f2), (a3, zI K 8 f3)] sz) := by
  refine z_met (Qc := fun A => (va_Qv (fun _ : Nat → Nat => True) (zB K A (fun u : Nat → Nat => [(a0, zO 1 18 (va_up (va_up g0 16 (.int 5)) 11 (.int 4))), (a1, zO 4 6 g1), (a2, zI K 8 f2), (a3, zI K 8 f3)])) A)) (by decide +kernel) (Nat.le_of_ble_eq_true rfl) ?_
  intro p e s m args below meth c A ls H hx hb hr hg hown hlocks hml hin hK hP hD hA hS hZ hl
  have hown : s.vm.findClass RX1 = some m.cls := hown
  have hl : lv_has ls 4 [(0, .ref a0), (1, .int (nI j0))] := hl
  refine lv_aload_n hx hb dX1_lookAtOwn_0 rfl (lv_at hl 0 rfl) ?_
  refine z_get (v := .ref a1) hx hb hg hown hK hP i_X1 rfl 0 rfl 6 (by decide) mt255 e0 dX1_lookAtOwn_1 ?_
  refine lv_iload_n hx hb dX1_lookAtOwn_4 rfl (lv_at hl 1 rfl) ?_
  refine z_calli [(a1, zO 4 6 g1)] [(a0, zO 1 18 g0), (a2, zI K 8 f2), (a3, zI K 8 f3)] [1] [0, 2, 3] hP hD hS hA rfl rfl (by decide) (by decide) (by decide +kernel) 0 0 rfl rfl (fun hPc hDc hF => z_runV (As := [.int (nI j0)]) (rest := []) ⟨hx, hb, hml, hown, hg⟩ (cX5_rootOf_1 l K H.size a1 g1 j0 hj0) kV_RX1_222 hd_X5_rootOf rfl rfl ⟨(Nat.le_of_ble_eq_true rfl), (Nat.le_of_ble_eq_true rfl)⟩ hK hS hZ hPc hDc hF 0 rfl rfl rfl hl.1 rfl (Nat.le_of_ble_eq_true rfl) dX1_lookAtOwn_5 ⟨(Nat.le_of_ble_eq_true rfl), (Nat.le_of_ble_eq_true rfl)⟩) (fun r3 u1 H locs w2 hP hD hS => ?_)
  subst w2
  have hP : va_P K.1 classes [(a0, zO 1 18 g0), (a2, zI K 8 f2), (a3, zI K 8 f3), (a1, zO 4 6 g1)] H := hP
  have hD : va_D A [(a0, zO 1 18 g0), (a2, zI K 8 f2), (a3, zI K 8 f3), (a1, zO 4 6 g1)] := hD
  refine lv_istore_n (lv' := [(2, .int ((nI j0) * (80 : Int32))), (0, .ref a0), (1, .int (nI j0))]) hx hb dX1_lookAtOwn_8 rfl hl (by decide) rfl (fun ls hl => ?_)
  refine lv_aload_n hx hb dX1_lookAtOwn_9 rfl (lv_at hl 1 rfl) ?_
  refine z_get (v := .int 1) hx hb hg hown hK hP i_X1 rfl 0 rfl 7 (by decide) mt256 e1 dX1_lookAtOwn_10 ?_
  refine lv_if_eq (tgt := 27) hx hb dX1_lookAtOwn_13 (by decide) (fun c => absurd c (by decide)) (fun _ => ?_)
  refine lv_aload_n hx hb dX1_lookAtOwn_16 rfl (lv_at hl 1 rfl) ?_
  refine z_get (v := .ref a1) hx hb hg hown hK hP i_X1 rfl 0 rfl 6 (by decide) mt255 e0 dX1_lookAtOwn_17 ?_
  refine lv_iload_n hx hb dX1_lookAtOwn_20 rfl (lv_at hl 2 rfl) ?_
  refine z_calli [(a1, zO 4 6 g1), (a2, zI K 8 f2)] [(a0, zO 1 18 g0), (a3, zI K 8 f3)] [3, 1] [0, 2] hP hD hS hA rfl rfl (by decide) (by decide) (by decide +kernel) 0 0 rfl rfl (fun hPc hDc hF => z_runV (As := [.int (nI j0)]) (rest := []) ⟨hx, hb, hml, hown, hg⟩ (cX5_stateOf_1 l K H.size a1 a2 g1 f2 j0 hj0 e2 e3) kV_RX1_225 hd_X5_stateOf rfl rfl ⟨(Nat.le_of_ble_eq_true rfl), (Nat.le_of_ble_eq_true rfl)⟩ hK hS hZ hPc hDc hF 0 rfl rfl rfl hl.1 rfl (Nat.le_of_ble_eq_true rfl) dX1_lookAtOwn_21 ⟨(Nat.le_of_ble_eq_true rfl), (Nat.le_of_ble_eq_true rfl)⟩) (fun r6 u4 H locs w5 hP hD hS => ?_)
  subst w5
  have hP : va_P K.1 classes [(a0, zO 1 18 g0), (a3, zI K 8 f3), (a1, zO 4 6 g1), (a2, zI K 8 f2)] H := hP
  have hD : va_D A [(a0, zO 1 18 g0), (a3, zI K 8 f3), (a1, zO 4 6 g1), (a2, zI K 8 f2)] := hD
  refine lv_goto (tgt := 28) hx hb dX1_lookAtOwn_24 (by decide) ?_
  refine lv_istore_n (lv' := [(3, .int 0), (2, .int ((nI j0) * (80 : Int32))), (0, .ref a0), (1, .int (nI j0))]) hx hb dX1_lookAtOwn_28 rfl hl (by decide) rfl (fun ls hl => ?_)
  refine lv_aload_n hx hb dX1_lookAtOwn_29 rfl (lv_at hl 2 rfl) ?_
  refine z_get (v := .ref a1) hx hb hg hown hK hP i_X1 rfl 0 rfl 6 (by decide) mt255 e0 dX1_lookAtOwn_30 ?_
  refine lv_iload_n hx hb dX1_lookAtOwn_33 rfl (lv_at hl 3 rfl) ?_
  refine z_calli [(a1, zO 4 6 g1), (a3, zI K 8 f3)] [(a0, zO 1 18 g0), (a2, zI K 8 f2)] [2, 1] [0, 3] hP hD hS hA rfl rfl (by decide) (by decide) (by decide +kernel) 0 0 rfl rfl (fun hPc hDc hF => z_runV (As := [.int (nI j0)]) (rest := []) ⟨hx, hb, hml, hown, hg⟩ (cX5_sizeOf_1 l K H.size a1 a3 g1 f3 j0 hj0 e4 e5) kV_RX1_226 hd_X5_sizeOf rfl rfl ⟨(Nat.le_of_ble_eq_true rfl), (Nat.le_of_ble_eq_true rfl)⟩ hK hS hZ hPc hDc hF 0 rfl rfl rfl hl.1 rfl (Nat.le_of_ble_eq_true rfl) dX1_lookAtOwn_34 ⟨(Nat.le_of_ble_eq_true rfl), (Nat.le_of_ble_eq_true rfl)⟩) (fun r9 u7 H locs w8 hP hD hS => ?_)
  subst w8
  have hP : va_P K.1 classes [(a0, zO 1 18 g0), (a2, zI K 8 f2), (a1, zO 4 6 g1), (a3, zI K 8 f3)] H := hP
  have hD : va_D A [(a0, zO 1 18 g0), (a2, zI K 8 f2), (a1, zO 4 6 g1), (a3, zI K 8 f3)] := hD
  refine lv_if_ne (tgt := 48) hx hb dX1_lookAtOwn_37 (by decide) (fun c => absurd (by decide) c) (fun _ => ?_)
  refine lv_aload_n hx hb dX1_lookAtOwn_40 rfl (lv_at hl 2 rfl) ?_
  refine lv_iconst (v := 5) hx hb dX1_lookAtOwn_41 (by decide) ?_
  refine z_callv [(a0, zO 1 18 g0)] [(a2, zI K 8 f2), (a1, zO 4 6 g1), (a3, zI K 8 f3)] [0] [1, 2, 3] hP hD hS hA rfl rfl (by decide) (by decide) (by decide +kernel) 0 0 rfl rfl (fun hPc hDc hF => z_runV (As := [.int 5]) (rest := []) ⟨hx, hb, hml, hown, hg⟩ (cX1_stop_2 l K H.size a0 g0 e6) kV_RX1_119 hd_X1_stop rfl rfl ⟨(Nat.le_of_ble_eq_true rfl), (Nat.le_of_ble_eq_true rfl)⟩ hK hS hZ hPc hDc hF 0 rfl rfl rfl hl.1 rfl (Nat.le_of_ble_eq_true rfl) dX1_lookAtOwn_42 ⟨(Nat.le_of_ble_eq_true rfl), (Nat.le_of_ble_eq_true rfl)⟩) (fun u10 H locs w11 hP hD hS => ?_)
  have hP : va_P K.1 classes [(a2, zI K 8 f2), (a1, zO 4 6 g1), (a3, zI K 8 f3), (a0, zO 1 18 (va_up (va_up g0 16 (.int 5)) 11 (.int 4)))] H := hP
  have hD : va_D A [(a2, zI K 8 f2), (a1, zO 4 6 g1), (a3, zI K 8 f3), (a0, zO 1 18 (va_up (va_up g0 16 (.int 5)) 11 (.int 4)))] := hD
  obtain ⟨gg13, y14⟩ : ∃ z, z = ((va_up (va_up g0 16 (.int 5)) 11 (.int 4)) : Nat → Value) := ⟨_, rfl⟩
  rw [← y14] at hP hD
  refine lv_goto (tgt := 157) hx hb dX1_lookAtOwn_45 (by decide) ?_
  subst y14
  have hP9 : va_P K.1 classes [(a0, zO 1 18 (va_up (va_up g0 16 (.int 5)) 11 (.int 4))), (a1, zO 4 6 g1), (a2, zI K 8 f2), (a3, zI K 8 f3)] H := hP.sub [3, 1, 0, 2] rfl
  have hD9 : va_D A [(a0, zO 1 18 (va_up (va_up g0 16 (.int 5)) 11 (.int 4))), (a1, zO 4 6 g1), (a2, zI K 8 f2), (a3, zI K 8 f3)] := hD.sub [3, 1, 0, 2] (by decide) rfl
  exact z_vret hx hb hr (fun _ => 0) trivial hP9 hD9 hS (Nat.le_of_ble_eq_true rfl) (Nat.le_of_ble_eq_true rfl) hlocks dX1_lookAtOwn_157
set_option maxHeartbeats 4000000 in
set_option maxRecDepth 100000 in
theorem cX1_lookAt_1 (l : Launch) (K : zK) (sz : Nat) (a0 : Nat) (a1 : Nat) (a2 : Nat) (a3 : Nat) (g0 : Nat → Value) (g1 : Nat → Value) (f2 : Nat → Int32) (f3 : Nat → Int32) (j0 : Nat) (hj0 : j0 < 8) (e0 : g0 6 = (.ref a1)) (e1 : g0 7 = (.int 1)) (e2 : g1 2 = (.ref a2)) (e3 : ∀ j : Nat, f2 j = 0) (e4 : g1 1 = (.ref a3)) (e5 : ∀ j : Nat, f3 j = 0) (e6 : g0 8 = (.int 0)) : Met l yX1_lookAt (Cond.code yX1_lookAt cX1_lookAt 3 none :: WG) { frames := 2, cells := 0, slots := 0, locals := 44 } (zPre K [(a0, zO 1 18 g0), (a1, zO 4 6 g1), (a2, zI K 8 f2), (a3, zI K 8 f3)] sz [.ref a0, .long ((1407374883553280 : Int64) ||| (((nI j0).toInt64) &&& (4294967295 : Int64)))]) (va_Qv (fun _ : Nat → Nat => True) (zB K (va_A [(a0, zO 1 18 g0), (a1, zO 4 6 g1), (a2, zI K 8 f2), (a3, zI K 8 f3)] sz) (fun u : Nat → Nat => [(a0, zO 1 18 (va_up (va_up g0 16 (.int 5)) 11 (.int 4))), (a1, zO 4 6 g1), (a2, zI K 8 f2), (a3, zI K 8 f3)])) (va_A [(a0, zO 1 18 g0), (a1, zO 4 6 g1), (a2, zI K 8 f2), (a3, zI K 8 f3)] sz)) 0 0 (va_A [(a0, zO 1 18 g0), (a1, zO 4 6 g1), (a2, zI K 8 f2), (a3, zI K 8 f3)] sz) := by
  refine z_met (Qc := fun A => (va_Qv (fun _ : Nat → Nat => True) (zB K A (fun u : Nat → Nat => [(a0, zO 1 18 (va_up (va_up g0 16 (.int 5)) 11 (.int 4))), (a1, zO 4 6 g1), (a2, zI K 8 f2), (a3, zI K 8 f3)])) A)) (by decide +kernel) (Nat.le_of_ble_eq_true rfl) ?_
  intro p e s m args below meth c A ls H hx hb hr hg hown hlocks hml hin hK hP hD hA hS hZ hl
  have hown : s.vm.findClass RX1 = some m.cls := hown
  have hl : lv_has ls 3 [(0, .ref a0), (1, .long ((1407374883553280 : Int64) ||| (((nI j0).toInt64) &&& (4294967295 : Int64))))] := hl
  refine lv_lload_n hx hb dX1_lookAt_0 rfl (lv_at hl 1 rfl) ?_
  refine z_calli [] [(a0, zO 1 18 g0), (a1, zO 4 6 g1), (a2, zI K 8 f2), (a3, zI K 8 f3)] [] [0, 1, 2, 3] hP hD hS hA rfl rfl (by decide) (by decide) (by decide +kernel) 0 0 rfl rfl (fun hPc hDc hF => z_runS (As := [.long ((1407374883553280 : Int64) ||| (((nI j0).toInt64) &&& (4294967295 : Int64)))]) (rest := []) ⟨hx, hb, hml, hown, hg⟩ (cX8_sort_1 l K H.size j0 hj0) kS_RX1_189 hd_X8_sort rfl rfl ⟨(Nat.le_of_ble_eq_true rfl), (Nat.le_of_ble_eq_true rfl)⟩ hK hS hZ hPc hDc hF rfl hl.1 rfl (Nat.le_of_ble_eq_true rfl) dX1_lookAt_1 ⟨(Nat.le_of_ble_eq_true rfl), (Nat.le_of_ble_eq_true rfl)⟩) (fun r3 u1 H locs w2 hP hD hS => ?_)
  subst w2
  have hP : va_P K.1 classes [(a0, zO 1 18 g0), (a1, zO 4 6 g1), (a2, zI K 8 f2), (a3, zI K 8 f3)] H := hP
  have hD : va_D A [(a0, zO 1 18 g0), (a1, zO 4 6 g1), (a2, zI K 8 f2), (a3, zI K 8 f3)] := hD
  refine lv_lookup (off := 39) (tgt := 43) hx hb dX1_lookAt_4 (by decide) (by decide) (by decide) ?_
  refine lv_aload_n hx hb dX1_lookAt_43 rfl (lv_at hl 0 rfl) ?_
  refine lv_lload_n hx hb dX1_lookAt_44 rfl (lv_at hl 1 rfl) ?_
  refine z_calli [] [(a0, zO 1 18 g0), (a1, zO 4 6 g1), (a2, zI K 8 f2), (a3, zI K 8 f3)] [] [0, 1, 2, 3] hP hD hS hA rfl rfl (by decide) (by decide) (by decide +kernel) 0 0 rfl rfl (fun hPc hDc hF => z_runS (As := [.long ((1407374883553280 : Int64) ||| (((nI j0).toInt64) &&& (4294967295 : Int64)))]) (rest := [.ref a0]) ⟨hx, hb, hml, hown, hg⟩ (cX8_low_1 l K H.size j0 hj0) kS_RX1_193 hd_X8_low rfl rfl ⟨(Nat.le_of_ble_eq_true rfl), (Nat.le_of_ble_eq_true rfl)⟩ hK hS hZ hPc hDc hF rfl hl.1 rfl (Nat.le_of_ble_eq_true rfl) dX1_lookAt_45 ⟨(Nat.le_of_ble_eq_true rfl), (Nat.le_of_ble_eq_true rfl)⟩) (fun r6 u4 H locs w5 hP hD hS => ?_)
  subst w5
  have hP : va_P K.1 classes [(a0, zO 1 18 g0), (a1, zO 4 6 g1), (a2, zI K 8 f2), (a3, zI K 8 f3)] H := hP
  have hD : va_D A [(a0, zO 1 18 g0), (a1, zO 4 6 g1), (a2, zI K 8 f2), (a3, zI K 8 f3)] := hD
  refine z_callv [(a0, zO 1 18 g0), (a1, zO 4 6 g1), (a2, zI K 8 f2), (a3, zI K 8 f3)] [] [0, 1, 2, 3] [] hP hD hS hA rfl rfl (by decide) (by decide) (by decide +kernel) 0 0 rfl rfl (fun hPc hDc hF => z_runV (As := [.int (nI j0)]) (rest := []) ⟨hx, hb, hml, hown, hg⟩ (cX1_lookAtOwn_1 l K H.size a0 a1 a2 a3 g0 g1 f2 f3 j0 hj0 e0 e1 e2 e3 e4 e5 e6) kV_RX1_199 hd_X1_lookAtOwn rfl rfl ⟨(Nat.le_of_ble_eq_true rfl), (Nat.le_of_ble_eq_true rfl)⟩ hK hS hZ hPc hDc hF 0 rfl rfl rfl hl.1 rfl (Nat.le_of_ble_eq_true rfl) dX1_lookAt_48 ⟨(Nat.le_of_ble_eq_true rfl), (Nat.le_of_ble_eq_true rfl)⟩) (fun u7 H locs w8 hP hD hS => ?_)
  have hP : va_P K.1 classes [(a0, zO 1 18 (va_up (va_up g0 16 (.int 5)) 11 (.int 4))), (a1, zO 4 6 g1), (a2, zI K 8 f2), (a3, zI K 8 f3)] H := hP
  have hD : va_D A [(a0, zO 1 18 (va_up (va_up g0 16 (.int 5)) 11 (.int 4))), (a1, zO 4 6 g1), (a2, zI K 8 f2), (a3, zI K 8 f3)] := hD
  obtain ⟨gg10, y11⟩ : ∃ z, z = ((va_up (va_up g0 16 (.int 5)) 11 (.int 4)) : Nat → Value) := ⟨_, rfl⟩
  rw [← y11] at hP hD
  refine lv_goto (tgt := 59) hx hb dX1_lookAt_51 (by decide) ?_
  subst y11
  have hP9 : va_P K.1 classes [(a0, zO 1 18 (va_up (va_up g0 16 (.int 5)) 11 (.int 4))), (a1, zO 4 6 g1), (a2, zI K 8 f2), (a3, zI K 8 f3)] H := hP.sub [0, 1, 2, 3] rfl
  have hD9 : va_D A [(a0, zO 1 18 (va_up (va_up g0 16 (.int 5)) 11 (.int 4))), (a1, zO 4 6 g1), (a2, zI K 8 f2), (a3, zI K 8 f3)] := hD.sub [0, 1, 2, 3] (by decide) rfl
  exact z_vret hx hb hr (fun _ => 0) trivial hP9 hD9 hS (Nat.le_of_ble_eq_true rfl) (Nat.le_of_ble_eq_true rfl) hlocks dX1_lookAt_59
set_option maxHeartbeats 4000000 in
set_option maxRecDepth 100000 in
theorem cX1_rest_2 (l : Launch) (K : zK) (sz : Nat) (a0 : Nat) (g0 : Nat → Value) (e0 : g0 16 = (.int 5)) : Met l yX1_rest (Cond.code yX1_rest cX1_rest 4 none :: WG) { frames := 0, cells := 0, slots := 0, locals := 0 } (zPre K [(a0, zO 1 18 g0)] sz [.ref a0]) (va_Qv (fun _ : Nat → Nat => True) (zB K (va_A [(a0, zO 1 18 g0)] sz) (fun u : Nat → Nat => [(a0, zO 1 18 (va_up g0 11 (.int 6)))])) (va_A [(a0, zO 1 18 g0)] sz)) 0 0 (va_A [(a0, zO 1 18 g0)] sz) := by
  refine z_met (Qc := fun A => (va_Qv (fun _ : Nat → Nat => True) (zB K A (fun u : Nat → Nat => [(a0, zO 1 18 (va_up g0 11 (.int 6)))])) A)) (by decide +kernel) (Nat.le_of_ble_eq_true rfl) ?_
  intro p e s m args below meth c A ls H hx hb hr hg hown hlocks hml hin hK hP hD hA hS hZ hl
  have hown : s.vm.findClass RX1 = some m.cls := hown
  have hl : lv_has ls 4 [(0, .ref a0)] := hl
  refine lv_aload_n hx hb dX1_rest_0 rfl (lv_at hl 0 rfl) ?_
  refine z_get (v := .int 5) hx hb hg hown hK hP i_X1 rfl 0 rfl 16 (by decide) mt265 e0 dX1_rest_1 ?_
  refine lv_if_eq (tgt := 23) hx hb dX1_rest_4 (by decide) (fun c => absurd c (by decide)) (fun _ => ?_)
  refine lv_aload_n hx hb dX1_rest_7 rfl (lv_at hl 0 rfl) ?_
  refine z_get (v := .int 5) hx hb hg hown hK hP i_X1 rfl 0 rfl 16 (by decide) mt265 e0 dX1_rest_8 ?_
  refine lv_iconst (v := 1) hx hb dX1_rest_11 (by decide) ?_
  refine lv_icmp_eq (tgt := 23) hx hb dX1_rest_12 (by decide) (fun c => absurd c (by decide)) (fun _ => ?_)
  refine lv_aload_n hx hb dX1_rest_15 rfl (lv_at hl 0 rfl) ?_
  refine z_get (v := .int 5) hx hb hg hown hK hP i_X1 rfl 0 rfl 16 (by decide) mt265 e0 dX1_rest_16 ?_
  refine lv_iconst (v := 2) hx hb dX1_rest_19 (by decide) ?_
  refine lv_icmp_ne (tgt := 27) hx hb dX1_rest_20 (by decide) (fun _ => ?_) (fun c => absurd c (by decide))
  refine lv_iconst (v := 0) hx hb dX1_rest_27 (by decide) ?_
  refine lv_istore_n (lv' := [(1, .int 0), (0, .ref a0)]) hx hb dX1_rest_28 rfl hl (by decide) rfl (fun ls hl => ?_)
  refine lv_iload_n hx hb dX1_rest_29 rfl (lv_at hl 0 rfl) ?_
  refine lv_if_eq (tgt := 52) hx hb dX1_rest_30 (by decide) (fun _ => ?_) (fun c => absurd (by decide) c)
  refine lv_aload_n hx hb dX1_rest_52 rfl (lv_at hl 1 rfl) ?_
  refine lv_bipush (v := 6) hx hb dX1_rest_53 (by decide) ?_
  refine z_put hx hb hg hown hK hP hD hS i_X1 rfl tyX1_ok nmX1 0 rfl 11 (by decide) mt260 rfl rfl rfl dX1_rest_55 (fun gg1 H locs y2 hP hD hS => ?_)
  have hP : va_P K.1 classes [(a0, zO 1 18 gg1)] H := hP
  have hD : va_D A [(a0, zO 1 18 gg1)] := hD
  subst y2
  have hP9 : va_P K.1 classes [(a0, zO 1 18 (va_up g0 11 (.int 6)))] H := hP.sub [0] rfl
  have hD9 : va_D A [(a0, zO 1 18 (va_up g0 11 (.int 6)))] := hD.sub [0] (by decide) rfl
  exact z_vret hx hb hr (fun _ => 0) trivial hP9 hD9 hS (Nat.le_of_ble_eq_true rfl) (Nat.le_of_ble_eq_true rfl) hlocks dX1_rest_58
set_option maxHeartbeats 4000000 in
set_option maxRecDepth 100000 in
theorem cX1_find_6 (l : Launch) (K : zK) (sz : Nat) (a0 : Nat) (a1 : Nat) (a2 : Nat) (a3 : Nat) (a4 : Nat) (a5 : Nat) (a6 : Nat) (a7 : Nat) (a8 : Nat) (a9 : Nat) (a10 : Nat) (a11 : Nat) (a12 : Nat) (g0 : Nat → Value) (g2 : Nat → Value) (g1 : Nat → Value) (f3 : Nat → Int32) (g4 : Nat → Value) (f5 : Nat → Int32) (f6 : Nat → Option Nat) (g7 : Nat → Value) (f8 : Nat → Int32) (g9 : Nat → Value) (f10 : Nat → Int32) (f11 : Nat → Int32) (f12 : Nat → Int32) (x0 : Int32) (j1 : Nat) (hj1 : j1 < 8) (e0 : g0 0 = (.ref a2)) (e1 : g2 6 = (.int 0)) (e2 : g2 4 = (.int 0)) (e3 : g2 0 = (.ref a1)) (e4 : g1 2 = (.ref a3)) (e5 : f3 0 = 0) (e6 : f3 1 = 0) (e7 : f3 2 = 0) (e8 : f3 3 = 0) (e9 : f3 4 = 0) (e10 : f3 5 = 0) (e11 : f3 6 = 0) (e12 : f3 7 = 0) (e13 : g2 1 = (.ref a4)) (e14 : g4 2 = (.ref a5)) (e15 : f5 0 = 0) (e16 : f5 1 = 0) (e17 : f5 2 = 0) (e18 : f5 3 = 0) (e19 : f5 4 = 0) (e20 : f5 5 = 0) (e21 : f5 6 = 0) (e22 : f5 7 = 0) (e23 : g2 3 = (.int 0)) (e24 : g2 2 = (.ref a6)) (e25 : g0 1 = (.ref a7)) (e26 : g0 2 = (.ref a8)) (e27 : ¬ (1 : Int32) = x0) (e28 : g1 0 = (.ref a9)) (e29 : g9 5 = (.int 645)) (e30 : g9 0 = (.ref a10)) (e31 : f10 640 = 2) (e32 : g9 1 = (.ref a11)) (e33 : f11 640 = (nI j1)) (e34 : ∀ j : Nat, f3 j = 0) (e35 : g1 1 = (.ref a12)) (e36 : ∀ j : Nat, f12 j = 0) : Met l yX1_find (Cond.code yX1_find cX1_find 6 (some .int) :: WG) { frames := 4, cells := 4, slots := 4203, locals := 72 } (zPre K [(a0, zO 1 18 g0), (a2, zO 3 7 g2), (a1, zO 4 6 g1), (a3, zI K 8 f3), (a4, zO 4 6 g4), (a5, zI K 8 f5), (a6, zR K 512 f6), (a7, zO 2 6 g7), (a8, zI K 10 f8), (a9, zO 7 6 g9), (a10, zI K 645 f10), (a11, zI K 645 f11), (a12, zI K 8 f12)] sz [.ref a0, .ref a1, .int 640, .int 1, .int x0]) (va_Qi (fun (r : Int32) (_ : Nat → Nat) => r = 5) (zB K (va_A [(a0, zO 1 18 g0), (a2, zO 3 7 g2), (a1, zO 4 6 g1), (a3, zI K 8 f3), (a4, zO 4 6 g4), (a5, zI K 8 f5), (a6, zR K 512 f6), (a7, zO 2 6 g7), (a8, zI K 10 f8), (a9, zO 7 6 g9), (a10, zI K 645 f10), (a11, zI K 645 f11), (a12, zI K 8 f12)] sz) (fun u : Nat → Nat => [(a0, zO 1 18 (va_up (va_up (va_up (va_up (va_up (va_up (va_up (va_up (va_up (va_up (va_up (va_up (va_up (va_up (va_up (va_up (va_up (va_up (va_up (va_up g0 6 (.ref a1)) 7 (.int 1)) 9 (.int x0)) 4 (.int 0)) 5 (.int 0)) 8 (.int 0)) 10 (.int 0)) 13 (.int (-1))) 14 (.int 0)) 16 (.int 6)) 17 (.int 0)) 12 (.int 640)) 11 (.int 0)) 10 (.int 1)) 15 (.long ((1407374883553280 : Int64) ||| (((nI j1).toInt64) &&& (4294967295 : Int64))))) 11 (.int 1)) 16 (.int 5)) 11 (.int 4)) 11 (.int 5)) 11 (.int 6))), (a2, zO 3 7 (va_up (va_up (va_up (va_up (va_up g2 5 (.int 0)) 5 (.int 0)) 3 (.int 1)) 4 (.int 0)) 6 (.int 0))), (a1, zO 4 6 g1), (a3, zI K 8 f3), (a4, zO 4 6 g4), (a5, zI K 8 f5), (a6, zR K 512 (va_up f6 0 (some (u 0)))), (a7, zO 2 6 (va_up g7 5 (.int 0))), (a8, zI K 10 (va_up (va_up (va_up (va_up (va_up (va_up (va_up (va_up (va_up (va_up (va_up (va_up f8 0 0) 1 0) 2 0) 3 0) 4 0) 5 0) 6 0) 7 0) 8 0) 9 0) 0 1) 6 1)), (a9, zO 7 6 g9), (a10, zI K 645 f10), (a11, zI K 645 f11), (a12, zI K 8 f12), ((u 0), zO 6 3 (va_up (va_up (va_up (fun k => defaultValue (tyX7 k)) 0 (.ref (u 1))) 1 (.ref (u 2))) 2 (.ref (u 3)))), ((u 1), zJ K 1400 (fun _ => 0)), ((u 2), zJ K 1400 (fun _ => 0)), ((u 3), zJ K 1400 (fun _ => 0))])) (va_A [(a0, zO 1 18 g0), (a2, zO 3 7 g2), (a1, zO 4 6 g1), (a3, zI K 8 f3), (a4, zO 4 6 g4), (a5, zI K 8 f5), (a6, zR K 512 f6), (a7, zO 2 6 g7), (a8, zI K 10 f8), (a9, zO 7 6 g9), (a10, zI K 645 f10), (a11, zI K 645 f11), (a12, zI K 8 f12)] sz)) 4 4203 (va_A [(a0, zO 1 18 g0), (a2, zO 3 7 g2), (a1, zO 4 6 g1), (a3, zI K 8 f3), (a4, zO 4 6 g4), (a5, zI K 8 f5), (a6, zR K 512 f6), (a7, zO 2 6 g7), (a8, zI K 10 f8), (a9, zO 7 6 g9), (a10, zI K 645 f10), (a11, zI K 645 f11), (a12, zI K 8 f12)] sz) := by
  refine z_met (Qc := fun A => (va_Qi (fun (r : Int32) (_ : Nat → Nat) => r = 5) (zB K A (fun u : Nat → Nat => [(a0, zO 1 18 (va_up (va_up (va_up (va_up (va_up (va_up (va_up (va_up (va_up (va_up (va_up (va_up (va_up (va_up (va_up (va_up (va_up (va_up (va_up (va_up g0 6 (.ref a1)) 7 (.int 1)) 9 (.int x0)) 4 (.int 0)) 5 (.int 0)) 8 (.int 0)) 10 (.int 0)) 13 (.int (-1))) 14 (.int 0)) 16 (.int 6)) 17 (.int 0)) 12 (.int 640)) 11 (.int 0)) 10 (.int 1)) 15 (.long ((1407374883553280 : Int64) ||| (((nI j1).toInt64) &&& (4294967295 : Int64))))) 11 (.int 1)) 16 (.int 5)) 11 (.int 4)) 11 (.int 5)) 11 (.int 6))), (a2, zO 3 7 (va_up (va_up (va_up (va_up (va_up g2 5 (.int 0)) 5 (.int 0)) 3 (.int 1)) 4 (.int 0)) 6 (.int 0))), (a1, zO 4 6 g1), (a3, zI K 8 f3), (a4, zO 4 6 g4), (a5, zI K 8 f5), (a6, zR K 512 (va_up f6 0 (some (u 0)))), (a7, zO 2 6 (va_up g7 5 (.int 0))), (a8, zI K 10 (va_up (va_up (va_up (va_up (va_up (va_up (va_up (va_up (va_up (va_up (va_up (va_up f8 0 0) 1 0) 2 0) 3 0) 4 0) 5 0) 6 0) 7 0) 8 0) 9 0) 0 1) 6 1)), (a9, zO 7 6 g9), (a10, zI K 645 f10), (a11, zI K 645 f11), (a12, zI K 8 f12), ((u 0), zO 6 3 (va_up (va_up (va_up (fun k => defaultValue (tyX7 k)) 0 (.ref (u 1))) 1 (.ref (u 2))) 2 (.ref (u 3)))), ((u 1), zJ K 1400 (fun _ => 0)), ((u 2), zJ K 1400 (fun _ => 0)), ((u 3), zJ K 1400 (fun _ => 0))])) A)) (by decide +kernel) (Nat.le_of_ble_eq_true rfl) ?_
  intro p e s m args below meth c A ls H hx hb hr hg hown hlocks hml hin hK hP hD hA hS hZ hl
  have hown : s.vm.findClass RX1 = some m.cls := hown
  have hl : lv_has ls 6 [(0, .ref a0), (1, .ref a1), (2, .int 640), (3, .int 1), (4, .int x0)] := hl
  refine lv_aload_n hx hb dX1_find_0 rfl (lv_at hl 0 rfl) ?_
  refine z_get (v := .ref a2) hx hb hg hown hK hP i_X1 rfl 0 rfl 0 (by decide) mt249 e0 dX1_find_1 ?_
  refine z_callv [(a2, zO 3 7 g2), (a1, zO 4 6 g1), (a3, zI K 8 f3), (a4, zO 4 6 g4), (a5, zI K 8 f5), (a6, zR K 512 f6)] [(a0, zO 1 18 g0), (a7, zO 2 6 g7), (a8, zI K 10 f8), (a9, zO 7 6 g9), (a10, zI K 645 f10), (a11, zI K 645 f11), (a12, zI K 8 f12)] [1, 2, 3, 4, 5, 6] [0, 7, 8, 9, 10, 11, 12] hP hD hS hA rfl rfl (by decide) (by decide) (by decide +kernel) 4 4203 rfl rfl (fun hPc hDc hF => z_runV (As := []) (rest := []) ⟨hx, hb, hml, hown, hg⟩ (cX3_prepare_1 l K H.size a2 a1 a3 a4 a5 a6 g2 g1 f3 g4 f5 f6 e1 e2 e3 e4 e5 e6 e7 e8 e9 e10 e11 e12 e13 e14 e15 e16 e17 e18 e19 e20 e21 e22 e23 e24) kV_RX1_46 hd_X3_prepare rfl rfl ⟨(Nat.le_of_ble_eq_true rfl), (Nat.le_of_ble_eq_true rfl)⟩ hK hS hZ hPc hDc hF 0 rfl rfl rfl hl.1 rfl (Nat.le_of_ble_eq_true rfl) dX1_find_4 ⟨(Nat.le_of_ble_eq_true rfl), (Nat.le_of_ble_eq_true rfl)⟩) (fun u1 H locs w2 hP hD hS => ?_)
  have hP : va_P K.1 classes [(a0, zO 1 18 g0), (a7, zO 2 6 g7), (a8, zI K 10 f8), (a9, zO 7 6 g9), (a10, zI K 645 f10), (a11, zI K 645 f11), (a12, zI K 8 f12), (a2, zO 3 7 (va_up (va_up (va_up (va_up (va_up g2 5 (.int 0)) 5 (.int 0)) 3 (.int 1)) 4 (.int 0)) 6 (.int 0))), (a1, zO 4 6 g1), (a3, zI K 8 f3), (a4, zO 4 6 g4), (a5, zI K 8 f5), (a6, zR K 512 (va_up f6 0 (some (u1 0)))), ((u1 0), zO 6 3 (va_up (va_up (va_up (fun k => defaultValue (tyX7 k)) 0 (.ref (u1 1))) 1 (.ref (u1 2))) 2 (.ref (u1 3)))), ((u1 1), zJ K 1400 (fun _ => 0)), ((u1 2), zJ K 1400 (fun _ => 0)), ((u1 3), zJ K 1400 (fun _ => 0))] H := hP
  have hD : va_D A [(a0, zO 1 18 g0), (a7, zO 2 6 g7), (a8, zI K 10 f8), (a9, zO 7 6 g9), (a10, zI K 645 f10), (a11, zI K 645 f11), (a12, zI K 8 f12), (a2, zO 3 7 (va_up (va_up (va_up (va_up (va_up g2 5 (.int 0)) 5 (.int 0)) 3 (.int 1)) 4 (.int 0)) 6 (.int 0))), (a1, zO 4 6 g1), (a3, zI K 8 f3), (a4, zO 4 6 g4), (a5, zI K 8 f5), (a6, zR K 512 (va_up f6 0 (some (u1 0)))), ((u1 0), zO 6 3 (va_up (va_up (va_up (fun k => defaultValue (tyX7 k)) 0 (.ref (u1 1))) 1 (.ref (u1 2))) 2 (.ref (u1 3)))), ((u1 1), zJ K 1400 (fun _ => 0)), ((u1 2), zJ K 1400 (fun _ => 0)), ((u1 3), zJ K 1400 (fun _ => 0))] := hD
  obtain ⟨gg4, y5⟩ : ∃ z, z = ((va_up (va_up (va_up (va_up (va_up g2 5 (.int 0)) 5 (.int 0)) 3 (.int 1)) 4 (.int 0)) 6 (.int 0)) : Nat → Value) := ⟨_, rfl⟩
  rw [← y5] at hP hD
  obtain ⟨gg6, y7⟩ : ∃ z, z = ((va_up (va_up (va_up (fun k => defaultValue (tyX7 k)) 0 (.ref (u1 1))) 1 (.ref (u1 2))) 2 (.ref (u1 3))) : Nat → Value) := ⟨_, rfl⟩
  rw [← y7] at hP hD
  refine lv_aload_n hx hb dX1_find_7 rfl (lv_at hl 0 rfl) ?_
  refine z_get (v := .ref a7) hx hb hg hown hK hP i_X1 rfl 0 rfl 1 (by decide) mt250 e25 dX1_find_8 ?_
  refine z_callv [(a7, zO 2 6 g7)] [(a0, zO 1 18 g0), (a8, zI K 10 f8), (a9, zO 7 6 g9), (a10, zI K 645 f10), (a11, zI K 645 f11), (a12, zI K 8 f12), (a2, zO 3 7 gg4), (a1, zO 4 6 g1), (a3, zI K 8 f3), (a4, zO 4 6 g4), (a5, zI K 8 f5), (a6, zR K 512 (va_up f6 0 (some (u1 0)))), ((u1 0), zO 6 3 gg6), ((u1 1), zJ K 1400 (fun _ => 0)), ((u1 2), zJ K 1400 (fun _ => 0)), ((u1 3), zJ K 1400 (fun _ => 0))] [1] [0, 2, 3, 4, 5, 6, 7, 8, 9, 10, 11, 12, 13, 14, 15, 16] hP hD hS hA rfl rfl (by decide) (by decide) (by decide +kernel) 4 4203 rfl rfl (fun hPc hDc hF => z_runV (As := []) (rest := []) ⟨hx, hb, hml, hown, hg⟩ (cX2_clear_1 l K H.size a7 g7) kV_RX1_49 hd_X2_clear rfl rfl ⟨(Nat.le_of_ble_eq_true rfl), (Nat.le_of_ble_eq_true rfl)⟩ hK hS hZ hPc hDc hF 0 rfl rfl rfl hl.1 rfl (Nat.le_of_ble_eq_true rfl) dX1_find_11 ⟨(Nat.le_of_ble_eq_true rfl), (Nat.le_of_ble_eq_true rfl)⟩) (fun u8 H locs w9 hP hD hS => ?_)
  have hP : va_P K.1 classes [(a0, zO 1 18 g0), (a8, zI K 10 f8), (a9, zO 7 6 g9), (a10, zI K 645 f10), (a11, zI K 645 f11), (a12, zI K 8 f12), (a2, zO 3 7 gg4), (a1, zO 4 6 g1), (a3, zI K 8 f3), (a4, zO 4 6 g4), (a5, zI K 8 f5), (a6, zR K 512 (va_up f6 0 (some (u1 0)))), ((u1 0), zO 6 3 gg6), ((u1 1), zJ K 1400 (fun _ => 0)), ((u1 2), zJ K 1400 (fun _ => 0)), ((u1 3), zJ K 1400 (fun _ => 0)), (a7, zO 2 6 (va_up g7 5 (.int 0)))] H := hP
  have hD : va_D A [(a0, zO 1 18 g0), (a8, zI K 10 f8), (a9, zO 7 6 g9), (a10, zI K 645 f10), (a11, zI K 645 f11), (a12, zI K 8 f12), (a2, zO 3 7 gg4), (a1, zO 4 6 g1), (a3, zI K 8 f3), (a4, zO 4 6 g4), (a5, zI K 8 f5), (a6, zR K 512 (va_up f6 0 (some (u1 0)))), ((u1 0), zO 6 3 gg6), ((u1 1), zJ K 1400 (fun _ => 0)), ((u1 2), zJ K 1400 (fun _ => 0)), ((u1 3), zJ K 1400 (fun _ => 0)), (a7, zO 2 6 (va_up g7 5 (.int 0)))] := hD
  refine lv_aload_n hx hb dX1_find_14 rfl (lv_at hl 0 rfl) ?_
  refine z_get (v := .ref a8) hx hb hg hown hK hP i_X1 rfl 0 rfl 2 (by decide) mt251 e26 dX1_find_15 ?_
  refine lv_iconst (v := 0) hx hb dX1_find_18 (by decide) ?_
  refine z_callv [(a8, zI K 10 f8)] [(a0, zO 1 18 g0), (a9, zO 7 6 g9), (a10, zI K 645 f10), (a11, zI K 645 f11), (a12, zI K 8 f12), (a2, zO 3 7 gg4), (a1, zO 4 6 g1), (a3, zI K 8 f3), (a4, zO 4 6 g4), (a5, zI K 8 f5), (a6, zR K 512 (va_up f6 0 (some (u1 0)))), ((u1 0), zO 6 3 gg6), ((u1 1), zJ K 1400 (fun _ => 0)), ((u1 2), zJ K 1400 (fun _ => 0)), ((u1 3), zJ K 1400 (fun _ => 0)), (a7, zO 2 6 (va_up g7 5 (.int 0)))] [1] [0, 2, 3, 4, 5, 6, 7, 8, 9, 10, 11, 12, 13, 14, 15, 16] hP hD hS hA rfl rfl (by decide) (by decide) (by decide +kernel) 4 4203 rfl rfl (fun hPc hDc hF => z_runS (As := [.ref a8, .int 0]) (rest := []) ⟨hx, hb, hml, hown, hg⟩ (cJ7_fill_53178_1 l K H.size a8 f8) kS_RX1_52 hd_J7_fill_53178 rfl rfl ⟨(Nat.le_of_ble_eq_true rfl), (Nat.le_of_ble_eq_true rfl)⟩ hK hS hZ hPc hDc hF rfl hl.1 rfl (Nat.le_of_ble_eq_true rfl) dX1_find_19 ⟨(Nat.le_of_ble_eq_true rfl), (Nat.le_of_ble_eq_true rfl)⟩) (fun u11 H locs w12 hP hD hS => ?_)
  have hP : va_P K.1 classes [(a0, zO 1 18 g0), (a9, zO 7 6 g9), (a10, zI K 645 f10), (a11, zI K 645 f11), (a12, zI K 8 f12), (a2, zO 3 7 gg4), (a1, zO 4 6 g1), (a3, zI K 8 f3), (a4, zO 4 6 g4), (a5, zI K 8 f5), (a6, zR K 512 (va_up f6 0 (some (u1 0)))), ((u1 0), zO 6 3 gg6), ((u1 1), zJ K 1400 (fun _ => 0)), ((u1 2), zJ K 1400 (fun _ => 0)), ((u1 3), zJ K 1400 (fun _ => 0)), (a7, zO 2 6 (va_up g7 5 (.int 0))), (a8, zI K 10 (va_up (va_up (va_up (va_up (va_up (va_up (va_up (va_up (va_up (va_up f8 0 0) 1 0) 2 0) 3 0) 4 0) 5 0) 6 0) 7 0) 8 0) 9 0))] H := hP
  have hD : va_D A [(a0, zO 1 18 g0), (a9, zO 7 6 g9), (a10, zI K 645 f10), (a11, zI K 645 f11), (a12, zI K 8 f12), (a2, zO 3 7 gg4), (a1, zO 4 6 g1), (a3, zI K 8 f3), (a4, zO 4 6 g4), (a5, zI K 8 f5), (a6, zR K 512 (va_up f6 0 (some (u1 0)))), ((u1 0), zO 6 3 gg6), ((u1 1), zJ K 1400 (fun _ => 0)), ((u1 2), zJ K 1400 (fun _ => 0)), ((u1 3), zJ K 1400 (fun _ => 0)), (a7, zO 2 6 (va_up g7 5 (.int 0))), (a8, zI K 10 (va_up (va_up (va_up (va_up (va_up (va_up (va_up (va_up (va_up (va_up f8 0 0) 1 0) 2 0) 3 0) 4 0) 5 0) 6 0) 7 0) 8 0) 9 0))] := hD
  obtain ⟨ff14, y15⟩ : ∃ z, z = ((va_up (va_up (va_up (va_up (va_up (va_up (va_up (va_up (va_up (va_up f8 0 0) 1 0) 2 0) 3 0) 4 0) 5 0) 6 0) 7 0) 8 0) 9 0) : Nat → Int32) := ⟨_, rfl⟩
  rw [← y15] at hP hD
  refine lv_aload_n hx hb dX1_find_22 rfl (lv_at hl 0 rfl) ?_
  refine lv_aload_n hx hb dX1_find_23 rfl (lv_at hl 1 rfl) ?_
  refine z_put hx hb hg hown hK hP hD hS i_X1 rfl tyX1_ok nmX1 0 rfl 6 (by decide) mt255 rfl rfl rfl dX1_find_24 (fun gg16 H locs y17 hP hD hS => ?_)
  have hP : va_P K.1 classes [(a0, zO 1 18 gg16), (a9, zO 7 6 g9), (a10, zI K 645 f10), (a11, zI K 645 f11), (a12, zI K 8 f12), (a2, zO 3 7 gg4), (a1, zO 4 6 g1), (a3, zI K 8 f3), (a4, zO 4 6 g4), (a5, zI K 8 f5), (a6, zR K 512 (va_up f6 0 (some (u1 0)))), ((u1 0), zO 6 3 gg6), ((u1 1), zJ K 1400 (fun _ => 0)), ((u1 2), zJ K 1400 (fun _ => 0)), ((u1 3), zJ K 1400 (fun _ => 0)), (a7, zO 2 6 (va_up g7 5 (.int 0))), (a8, zI K 10 ff14)] H := hP
  have hD : va_D A [(a0, zO 1 18 gg16), (a9, zO 7 6 g9), (a10, zI K 645 f10), (a11, zI K 645 f11), (a12, zI K 8 f12), (a2, zO 3 7 gg4), (a1, zO 4 6 g1), (a3, zI K 8 f3), (a4, zO 4 6 g4), (a5, zI K 8 f5), (a6, zR K 512 (va_up f6 0 (some (u1 0)))), ((u1 0), zO 6 3 gg6), ((u1 1), zJ K 1400 (fun _ => 0)), ((u1 2), zJ K 1400 (fun _ => 0)), ((u1 3), zJ K 1400 (fun _ => 0)), (a7, zO 2 6 (va_up g7 5 (.int 0))), (a8, zI K 10 ff14)] := hD
  refine lv_aload_n hx hb dX1_find_27 rfl (lv_at hl 0 rfl) ?_
  refine lv_iload_n hx hb dX1_find_28 rfl (lv_at hl 3 rfl) ?_
  refine z_put hx hb hg hown hK hP hD hS i_X1 rfl tyX1_ok nmX1 0 rfl 7 (by decide) mt256 rfl rfl rfl dX1_find_29 (fun gg18 H locs y19 hP hD hS => ?_)
  have hP : va_P K.1 classes [(a0, zO 1 18 gg18), (a9, zO 7 6 g9), (a10, zI K 645 f10), (a11, zI K 645 f11), (a12, zI K 8 f12), (a2, zO 3 7 gg4), (a1, zO 4 6 g1), (a3, zI K 8 f3), (a4, zO 4 6 g4), (a5, zI K 8 f5), (a6, zR K 512 (va_up f6 0 (some (u1 0)))), ((u1 0), zO 6 3 gg6), ((u1 1), zJ K 1400 (fun _ => 0)), ((u1 2), zJ K 1400 (fun _ => 0)), ((u1 3), zJ K 1400 (fun _ => 0)), (a7, zO 2 6 (va_up g7 5 (.int 0))), (a8, zI K 10 ff14)] H := hP
  have hD : va_D A [(a0, zO 1 18 gg18), (a9, zO 7 6 g9), (a10, zI K 645 f10), (a11, zI K 645 f11), (a12, zI K 8 f12), (a2, zO 3 7 gg4), (a1, zO 4 6 g1), (a3, zI K 8 f3), (a4, zO 4 6 g4), (a5, zI K 8 f5), (a6, zR K 512 (va_up f6 0 (some (u1 0)))), ((u1 0), zO 6 3 gg6), ((u1 1), zJ K 1400 (fun _ => 0)), ((u1 2), zJ K 1400 (fun _ => 0)), ((u1 3), zJ K 1400 (fun _ => 0)), (a7, zO 2 6 (va_up g7 5 (.int 0))), (a8, zI K 10 ff14)] := hD
  refine lv_aload_n hx hb dX1_find_32 rfl (lv_at hl 0 rfl) ?_
  refine lv_iload hx hb dX1_find_33 (lv_at hl 4 rfl) ?_
  refine z_put hx hb hg hown hK hP hD hS i_X1 rfl tyX1_ok nmX1 0 rfl 9 (by decide) mt258 rfl rfl rfl dX1_find_35 (fun gg20 H locs y21 hP hD hS => ?_)
  have hP : va_P K.1 classes [(a0, zO 1 18 gg20), (a9, zO 7 6 g9), (a10, zI K 645 f10), (a11, zI K 645 f11), (a12, zI K 8 f12), (a2, zO 3 7 gg4), (a1, zO 4 6 g1), (a3, zI K 8 f3), (a4, zO 4 6 g4), (a5, zI K 8 f5), (a6, zR K 512 (va_up f6 0 (some (u1 0)))), ((u1 0), zO 6 3 gg6), ((u1 1), zJ K 1400 (fun _ => 0)), ((u1 2), zJ K 1400 (fun _ => 0)), ((u1 3), zJ K 1400 (fun _ => 0)), (a7, zO 2 6 (va_up g7 5 (.int 0))), (a8, zI K 10 ff14)] H := hP
  have hD : va_D A [(a0, zO 1 18 gg20), (a9, zO 7 6 g9), (a10, zI K 645 f10), (a11, zI K 645 f11), (a12, zI K 8 f12), (a2, zO 3 7 gg4), (a1, zO 4 6 g1), (a3, zI K 8 f3), (a4, zO 4 6 g4), (a5, zI K 8 f5), (a6, zR K 512 (va_up f6 0 (some (u1 0)))), ((u1 0), zO 6 3 gg6), ((u1 1), zJ K 1400 (fun _ => 0)), ((u1 2), zJ K 1400 (fun _ => 0)), ((u1 3), zJ K 1400 (fun _ => 0)), (a7, zO 2 6 (va_up g7 5 (.int 0))), (a8, zI K 10 ff14)] := hD
  refine lv_aload_n hx hb dX1_find_38 rfl (lv_at hl 0 rfl) ?_
  refine lv_iconst (v := 0) hx hb dX1_find_39 (by decide) ?_
  refine z_put hx hb hg hown hK hP hD hS i_X1 rfl tyX1_ok nmX1 0 rfl 4 (by decide) mt253 rfl rfl rfl dX1_find_40 (fun gg22 H locs y23 hP hD hS => ?_)
  have hP : va_P K.1 classes [(a0, zO 1 18 gg22), (a9, zO 7 6 g9), (a10, zI K 645 f10), (a11, zI K 645 f11), (a12, zI K 8 f12), (a2, zO 3 7 gg4), (a1, zO 4 6 g1), (a3, zI K 8 f3), (a4, zO 4 6 g4), (a5, zI K 8 f5), (a6, zR K 512 (va_up f6 0 (some (u1 0)))), ((u1 0), zO 6 3 gg6), ((u1 1), zJ K 1400 (fun _ => 0)), ((u1 2), zJ K 1400 (fun _ => 0)), ((u1 3), zJ K 1400 (fun _ => 0)), (a7, zO 2 6 (va_up g7 5 (.int 0))), (a8, zI K 10 ff14)] H := hP
  have hD : va_D A [(a0, zO 1 18 gg22), (a9, zO 7 6 g9), (a10, zI K 645 f10), (a11, zI K 645 f11), (a12, zI K 8 f12), (a2, zO 3 7 gg4), (a1, zO 4 6 g1), (a3, zI K 8 f3), (a4, zO 4 6 g4), (a5, zI K 8 f5), (a6, zR K 512 (va_up f6 0 (some (u1 0)))), ((u1 0), zO 6 3 gg6), ((u1 1), zJ K 1400 (fun _ => 0)), ((u1 2), zJ K 1400 (fun _ => 0)), ((u1 3), zJ K 1400 (fun _ => 0)), (a7, zO 2 6 (va_up g7 5 (.int 0))), (a8, zI K 10 ff14)] := hD
  refine lv_aload_n hx hb dX1_find_43 rfl (lv_at hl 0 rfl) ?_
  refine lv_iconst (v := 0) hx hb dX1_find_44 (by decide) ?_
  refine z_put hx hb hg hown hK hP hD hS i_X1 rfl tyX1_ok nmX1 0 rfl 5 (by decide) mt254 rfl rfl rfl dX1_find_45 (fun gg24 H locs y25 hP hD hS => ?_)
  have hP : va_P K.1 classes [(a0, zO 1 18 gg24), (a9, zO 7 6 g9), (a10, zI K 645 f10), (a11, zI K 645 f11), (a12, zI K 8 f12), (a2, zO 3 7 gg4), (a1, zO 4 6 g1), (a3, zI K 8 f3), (a4, zO 4 6 g4), (a5, zI K 8 f5), (a6, zR K 512 (va_up f6 0 (some (u1 0)))), ((u1 0), zO 6 3 gg6), ((u1 1), zJ K 1400 (fun _ => 0)), ((u1 2), zJ K 1400 (fun _ => 0)), ((u1 3), zJ K 1400 (fun _ => 0)), (a7, zO 2 6 (va_up g7 5 (.int 0))), (a8, zI K 10 ff14)] H := hP
  have hD : va_D A [(a0, zO 1 18 gg24), (a9, zO 7 6 g9), (a10, zI K 645 f10), (a11, zI K 645 f11), (a12, zI K 8 f12), (a2, zO 3 7 gg4), (a1, zO 4 6 g1), (a3, zI K 8 f3), (a4, zO 4 6 g4), (a5, zI K 8 f5), (a6, zR K 512 (va_up f6 0 (some (u1 0)))), ((u1 0), zO 6 3 gg6), ((u1 1), zJ K 1400 (fun _ => 0)), ((u1 2), zJ K 1400 (fun _ => 0)), ((u1 3), zJ K 1400 (fun _ => 0)), (a7, zO 2 6 (va_up g7 5 (.int 0))), (a8, zI K 10 ff14)] := hD
  refine lv_aload_n hx hb dX1_find_48 rfl (lv_at hl 0 rfl) ?_
  refine lv_iconst (v := 0) hx hb dX1_find_49 (by decide) ?_
  refine z_put hx hb hg hown hK hP hD hS i_X1 rfl tyX1_ok nmX1 0 rfl 8 (by decide) mt257 rfl rfl rfl dX1_find_50 (fun gg26 H locs y27 hP hD hS => ?_)
  have hP : va_P K.1 classes [(a0, zO 1 18 gg26), (a9, zO 7 6 g9), (a10, zI K 645 f10), (a11, zI K 645 f11), (a12, zI K 8 f12), (a2, zO 3 7 gg4), (a1, zO 4 6 g1), (a3, zI K 8 f3), (a4, zO 4 6 g4), (a5, zI K 8 f5), (a6, zR K 512 (va_up f6 0 (some (u1 0)))), ((u1 0), zO 6 3 gg6), ((u1 1), zJ K 1400 (fun _ => 0)), ((u1 2), zJ K 1400 (fun _ => 0)), ((u1 3), zJ K 1400 (fun _ => 0)), (a7, zO 2 6 (va_up g7 5 (.int 0))), (a8, zI K 10 ff14)] H := hP
  have hD : va_D A [(a0, zO 1 18 gg26), (a9, zO 7 6 g9), (a10, zI K 645 f10), (a11, zI K 645 f11), (a12, zI K 8 f12), (a2, zO 3 7 gg4), (a1, zO 4 6 g1), (a3, zI K 8 f3), (a4, zO 4 6 g4), (a5, zI K 8 f5), (a6, zR K 512 (va_up f6 0 (some (u1 0)))), ((u1 0), zO 6 3 gg6), ((u1 1), zJ K 1400 (fun _ => 0)), ((u1 2), zJ K 1400 (fun _ => 0)), ((u1 3), zJ K 1400 (fun _ => 0)), (a7, zO 2 6 (va_up g7 5 (.int 0))), (a8, zI K 10 ff14)] := hD
  refine lv_aload_n hx hb dX1_find_53 rfl (lv_at hl 0 rfl) ?_
  refine lv_iconst (v := 0) hx hb dX1_find_54 (by decide) ?_
  refine z_put hx hb hg hown hK hP hD hS i_X1 rfl tyX1_ok nmX1 0 rfl 10 (by decide) mt259 rfl rfl rfl dX1_find_55 (fun gg28 H locs y29 hP hD hS => ?_)
  have hP : va_P K.1 classes [(a0, zO 1 18 gg28), (a9, zO 7 6 g9), (a10, zI K 645 f10), (a11, zI K 645 f11), (a12, zI K 8 f12), (a2, zO 3 7 gg4), (a1, zO 4 6 g1), (a3, zI K 8 f3), (a4, zO 4 6 g4), (a5, zI K 8 f5), (a6, zR K 512 (va_up f6 0 (some (u1 0)))), ((u1 0), zO 6 3 gg6), ((u1 1), zJ K 1400 (fun _ => 0)), ((u1 2), zJ K 1400 (fun _ => 0)), ((u1 3), zJ K 1400 (fun _ => 0)), (a7, zO 2 6 (va_up g7 5 (.int 0))), (a8, zI K 10 ff14)] H := hP
  have hD : va_D A [(a0, zO 1 18 gg28), (a9, zO 7 6 g9), (a10, zI K 645 f10), (a11, zI K 645 f11), (a12, zI K 8 f12), (a2, zO 3 7 gg4), (a1, zO 4 6 g1), (a3, zI K 8 f3), (a4, zO 4 6 g4), (a5, zI K 8 f5), (a6, zR K 512 (va_up f6 0 (some (u1 0)))), ((u1 0), zO 6 3 gg6), ((u1 1), zJ K 1400 (fun _ => 0)), ((u1 2), zJ K 1400 (fun _ => 0)), ((u1 3), zJ K 1400 (fun _ => 0)), (a7, zO 2 6 (va_up g7 5 (.int 0))), (a8, zI K 10 ff14)] := hD
  refine lv_aload_n hx hb dX1_find_58 rfl (lv_at hl 0 rfl) ?_
  refine lv_iconst (v := (-1)) hx hb dX1_find_59 (by decide) ?_
  refine z_put hx hb hg hown hK hP hD hS i_X1 rfl tyX1_ok nmX1 0 rfl 13 (by decide) mt262 rfl rfl rfl dX1_find_60 (fun gg30 H locs y31 hP hD hS => ?_)
  have hP : va_P K.1 classes [(a0, zO 1 18 gg30), (a9, zO 7 6 g9), (a10, zI K 645 f10), (a11, zI K 645 f11), (a12, zI K 8 f12), (a2, zO 3 7 gg4), (a1, zO 4 6 g1), (a3, zI K 8 f3), (a4, zO 4 6 g4), (a5, zI K 8 f5), (a6, zR K 512 (va_up f6 0 (some (u1 0)))), ((u1 0), zO 6 3 gg6), ((u1 1), zJ K 1400 (fun _ => 0)), ((u1 2), zJ K 1400 (fun _ => 0)), ((u1 3), zJ K 1400 (fun _ => 0)), (a7, zO 2 6 (va_up g7 5 (.int 0))), (a8, zI K 10 ff14)] H := hP
  have hD : va_D A [(a0, zO 1 18 gg30), (a9, zO 7 6 g9), (a10, zI K 645 f10), (a11, zI K 645 f11), (a12, zI K 8 f12), (a2, zO 3 7 gg4), (a1, zO 4 6 g1), (a3, zI K 8 f3), (a4, zO 4 6 g4), (a5, zI K 8 f5), (a6, zR K 512 (va_up f6 0 (some (u1 0)))), ((u1 0), zO 6 3 gg6), ((u1 1), zJ K 1400 (fun _ => 0)), ((u1 2), zJ K 1400 (fun _ => 0)), ((u1 3), zJ K 1400 (fun _ => 0)), (a7, zO 2 6 (va_up g7 5 (.int 0))), (a8, zI K 10 ff14)] := hD
  refine lv_aload_n hx hb dX1_find_63 rfl (lv_at hl 0 rfl) ?_
  refine lv_iconst (v := 0) hx hb dX1_find_64 (by decide) ?_
  refine z_put hx hb hg hown hK hP hD hS i_X1 rfl tyX1_ok nmX1 0 rfl 14 (by decide) mt263 rfl rfl rfl dX1_find_65 (fun gg32 H locs y33 hP hD hS => ?_)
  have hP : va_P K.1 classes [(a0, zO 1 18 gg32), (a9, zO 7 6 g9), (a10, zI K 645 f10), (a11, zI K 645 f11), (a12, zI K 8 f12), (a2, zO 3 7 gg4), (a1, zO 4 6 g1), (a3, zI K 8 f3), (a4, zO 4 6 g4), (a5, zI K 8 f5), (a6, zR K 512 (va_up f6 0 (some (u1 0)))), ((u1 0), zO 6 3 gg6), ((u1 1), zJ K 1400 (fun _ => 0)), ((u1 2), zJ K 1400 (fun _ => 0)), ((u1 3), zJ K 1400 (fun _ => 0)), (a7, zO 2 6 (va_up g7 5 (.int 0))), (a8, zI K 10 ff14)] H := hP
  have hD : va_D A [(a0, zO 1 18 gg32), (a9, zO 7 6 g9), (a10, zI K 645 f10), (a11, zI K 645 f11), (a12, zI K 8 f12), (a2, zO 3 7 gg4), (a1, zO 4 6 g1), (a3, zI K 8 f3), (a4, zO 4 6 g4), (a5, zI K 8 f5), (a6, zR K 512 (va_up f6 0 (some (u1 0)))), ((u1 0), zO 6 3 gg6), ((u1 1), zJ K 1400 (fun _ => 0)), ((u1 2), zJ K 1400 (fun _ => 0)), ((u1 3), zJ K 1400 (fun _ => 0)), (a7, zO 2 6 (va_up g7 5 (.int 0))), (a8, zI K 10 ff14)] := hD
  refine lv_aload_n hx hb dX1_find_68 rfl (lv_at hl 0 rfl) ?_
  refine lv_bipush (v := 6) hx hb dX1_find_69 (by decide) ?_
  refine z_put hx hb hg hown hK hP hD hS i_X1 rfl tyX1_ok nmX1 0 rfl 16 (by decide) mt265 rfl rfl rfl dX1_find_71 (fun gg34 H locs y35 hP hD hS => ?_)
  have hP : va_P K.1 classes [(a0, zO 1 18 gg34), (a9, zO 7 6 g9), (a10, zI K 645 f10), (a11, zI K 645 f11), (a12, zI K 8 f12), (a2, zO 3 7 gg4), (a1, zO 4 6 g1), (a3, zI K 8 f3), (a4, zO 4 6 g4), (a5, zI K 8 f5), (a6, zR K 512 (va_up f6 0 (some (u1 0)))), ((u1 0), zO 6 3 gg6), ((u1 1), zJ K 1400 (fun _ => 0)), ((u1 2), zJ K 1400 (fun _ => 0)), ((u1 3), zJ K 1400 (fun _ => 0)), (a7, zO 2 6 (va_up g7 5 (.int 0))), (a8, zI K 10 ff14)] H := hP
  have hD : va_D A [(a0, zO 1 18 gg34), (a9, zO 7 6 g9), (a10, zI K 645 f10), (a11, zI K 645 f11), (a12, zI K 8 f12), (a2, zO 3 7 gg4), (a1, zO 4 6 g1), (a3, zI K 8 f3), (a4, zO 4 6 g4), (a5, zI K 8 f5), (a6, zR K 512 (va_up f6 0 (some (u1 0)))), ((u1 0), zO 6 3 gg6), ((u1 1), zJ K 1400 (fun _ => 0)), ((u1 2), zJ K 1400 (fun _ => 0)), ((u1 3), zJ K 1400 (fun _ => 0)), (a7, zO 2 6 (va_up g7 5 (.int 0))), (a8, zI K 10 ff14)] := hD
  refine lv_aload_n hx hb dX1_find_74 rfl (lv_at hl 0 rfl) ?_
  refine lv_iconst (v := 0) hx hb dX1_find_75 (by decide) ?_
  refine z_put hx hb hg hown hK hP hD hS i_X1 rfl tyX1_ok nmX1 0 rfl 17 (by decide) mt266 rfl rfl rfl dX1_find_76 (fun gg36 H locs y37 hP hD hS => ?_)
  have hP : va_P K.1 classes [(a0, zO 1 18 gg36), (a9, zO 7 6 g9), (a10, zI K 645 f10), (a11, zI K 645 f11), (a12, zI K 8 f12), (a2, zO 3 7 gg4), (a1, zO 4 6 g1), (a3, zI K 8 f3), (a4, zO 4 6 g4), (a5, zI K 8 f5), (a6, zR K 512 (va_up f6 0 (some (u1 0)))), ((u1 0), zO 6 3 gg6), ((u1 1), zJ K 1400 (fun _ => 0)), ((u1 2), zJ K 1400 (fun _ => 0)), ((u1 3), zJ K 1400 (fun _ => 0)), (a7, zO 2 6 (va_up g7 5 (.int 0))), (a8, zI K 10 ff14)] H := hP
  have hD : va_D A [(a0, zO 1 18 gg36), (a9, zO 7 6 g9), (a10, zI K 645 f10), (a11, zI K 645 f11), (a12, zI K 8 f12), (a2, zO 3 7 gg4), (a1, zO 4 6 g1), (a3, zI K 8 f3), (a4, zO 4 6 g4), (a5, zI K 8 f5), (a6, zR K 512 (va_up f6 0 (some (u1 0)))), ((u1 0), zO 6 3 gg6), ((u1 1), zJ K 1400 (fun _ => 0)), ((u1 2), zJ K 1400 (fun _ => 0)), ((u1 3), zJ K 1400 (fun _ => 0)), (a7, zO 2 6 (va_up g7 5 (.int 0))), (a8, zI K 10 ff14)] := hD
  refine lv_aload_n hx hb dX1_find_79 rfl (lv_at hl 0 rfl) ?_
  refine lv_iload_n hx hb dX1_find_80 rfl (lv_at hl 2 rfl) ?_
  refine z_callv [(a0, zO 1 18 gg36)] [(a9, zO 7 6 g9), (a10, zI K 645 f10), (a11, zI K 645 f11), (a12, zI K 8 f12), (a2, zO 3 7 gg4), (a1, zO 4 6 g1), (a3, zI K 8 f3), (a4, zO 4 6 g4), (a5, zI K 8 f5), (a6, zR K 512 (va_up f6 0 (some (u1 0)))), ((u1 0), zO 6 3 gg6), ((u1 1), zJ K 1400 (fun _ => 0)), ((u1 2), zJ K 1400 (fun _ => 0)), ((u1 3), zJ K 1400 (fun _ => 0)), (a7, zO 2 6 (va_up g7 5 (.int 0))), (a8, zI K 10 ff14)] [0] [1, 2, 3, 4, 5, 6, 7, 8, 9, 10, 11, 12, 13, 14, 15, 16] hP hD hS hA rfl rfl (by decide) (by decide) (by decide +kernel) 4 4203 rfl rfl (fun hPc hDc hF => z_runV (As := [.int 640]) (rest := []) ⟨hx, hb, hml, hown, hg⟩ (cX1_goTo_2 l K H.size a0 gg36) kV_RX1_86 hd_X1_goTo rfl rfl ⟨(Nat.le_of_ble_eq_true rfl), (Nat.le_of_ble_eq_true rfl)⟩ hK hS hZ hPc hDc hF 0 rfl rfl rfl hl.1 rfl (Nat.le_of_ble_eq_true rfl) dX1_find_81 ⟨(Nat.le_of_ble_eq_true rfl), (Nat.le_of_ble_eq_true rfl)⟩) (fun u38 H locs w39 hP hD hS => ?_)
  have hP : va_P K.1 classes [(a9, zO 7 6 g9), (a10, zI K 645 f10), (a11, zI K 645 f11), (a12, zI K 8 f12), (a2, zO 3 7 gg4), (a1, zO 4 6 g1), (a3, zI K 8 f3), (a4, zO 4 6 g4), (a5, zI K 8 f5), (a6, zR K 512 (va_up f6 0 (some (u1 0)))), ((u1 0), zO 6 3 gg6), ((u1 1), zJ K 1400 (fun _ => 0)), ((u1 2), zJ K 1400 (fun _ => 0)), ((u1 3), zJ K 1400 (fun _ => 0)), (a7, zO 2 6 (va_up g7 5 (.int 0))), (a8, zI K 10 ff14), (a0, zO 1 18 (va_up (va_up gg36 12 (.int 640)) 11 (.int 0)))] H := hP
  have hD : va_D A [(a9, zO 7 6 g9), (a10, zI K 645 f10), (a11, zI K 645 f11), (a12, zI K 8 f12), (a2, zO 3 7 gg4), (a1, zO 4 6 g1), (a3, zI K 8 f3), (a4, zO 4 6 g4), (a5, zI K 8 f5), (a6, zR K 512 (va_up f6 0 (some (u1 0)))), ((u1 0), zO 6 3 gg6), ((u1 1), zJ K 1400 (fun _ => 0)), ((u1 2), zJ K 1400 (fun _ => 0)), ((u1 3), zJ K 1400 (fun _ => 0)), (a7, zO 2 6 (va_up g7 5 (.int 0))), (a8, zI K 10 ff14), (a0, zO 1 18 (va_up (va_up gg36 12 (.int 640)) 11 (.int 0)))] := hD
  obtain ⟨gg41, y42⟩ : ∃ z, z = ((va_up (va_up gg36 12 (.int 640)) 11 (.int 0)) : Nat → Value) := ⟨_, rfl⟩
  rw [← y42] at hP hD
  refine lv_iconst (v := 0) hx hb dX1_find_84 (by decide) ?_
  refine lv_istore (lv' := [(5, .int 0), (0, .ref a0), (1, .ref a1), (2, .int 640), (3, .int 1), (4, .int x0)]) hx hb dX1_find_85 hl (by decide) rfl (fun ls hl => ?_)
  refine lv_iload hx hb dX1_find_87 (lv_at hl 0 rfl) ?_
  refine lv_ldc (v := 1000000) hx hb hown (hg _ mt961) dX1_find_89 ?_
  refine lv_icmp_ge (tgt := 189) hx hb dX1_find_91 (by decide) (fun c => absurd c (by decide)) (fun _ => ?_)
  refine lv_aload_n hx hb dX1_find_94 rfl (lv_at hl 1 rfl) ?_
  refine z_get (v := .int 0) hx hb hg hown hK hP i_X1 rfl 16 rfl 11 (by decide) mt260 (zu_of y42 zu_eq) dX1_find_95 ?_
  refine lv_bipush (v := 6) hx hb dX1_find_98 (by decide) ?_
  refine lv_icmp_eq (tgt := 189) hx hb dX1_find_100 (by decide) (fun c => absurd c (by decide)) (fun _ => ?_)
  refine lv_aload_n hx hb dX1_find_103 rfl (lv_at hl 1 rfl) ?_
  refine z_get (v := .int 0) hx hb hg hown hK hP i_X1 rfl 16 rfl 11 (by decide) mt260 (zu_of y42 zu_eq) dX1_find_104 ?_
  refine lv_tableIn (off := 33) (tgt := 140) hx hb dX1_find_107 (by decide) (by decide) (by decide) (by decide) ?_
  refine lv_aload_n hx hb dX1_find_140 rfl (lv_at hl 1 rfl) ?_
  refine z_callv [(a0, zO 1 18 gg41), (a8, zI K 10 ff14), (a1, zO 4 6 g1), (a9, zO 7 6 g9), (a10, zI K 645 f10), (a11, zI K 645 f11)] [(a12, zI K 8 f12), (a2, zO 3 7 gg4), (a3, zI K 8 f3), (a4, zO 4 6 g4), (a5, zI K 8 f5), (a6, zR K 512 (va_up f6 0 (some (u1 0)))), ((u1 0), zO 6 3 gg6), ((u1 1), zJ K 1400 (fun _ => 0)), ((u1 2), zJ K 1400 (fun _ => 0)), ((u1 3), zJ K 1400 (fun _ => 0)), (a7, zO 2 6 (va_up g7 5 (.int 0)))] [16, 15, 5, 0, 1, 2] [3, 4, 6, 7, 8, 9, 10, 11, 12, 13, 14] hP hD hS hA rfl rfl (by decide) (by decide) (by decide +kernel) 4 4203 rfl rfl (fun hPc hDc hF => z_runV (As := []) (rest := []) ⟨hx, hb, hml, hown, hg⟩ (cX1_step_2 l K H.size a0 a8 a1 a9 a10 a11 gg41 ff14 g1 g9 f10 f11 x0 j1 hj1 (zu_of y42 (zu_ne (by decide) (zu_ne (by decide) (zu_of y37 (zu_ne (by decide) (zu_of y35 (zu_ne (by decide) (zu_of y33 (zu_ne (by decide) (zu_of y31 (zu_ne (by decide) (zu_of y29 zu_eq)))))))))))) (zu_of y42 (zu_ne (by decide) (zu_ne (by decide) (zu_of y37 (zu_ne (by decide) (zu_of y35 (zu_ne (by decide) (zu_of y33 (zu_ne (by decide) (zu_of y31 (zu_ne (by decide) (zu_of y29 (zu_ne (by decide) (zu_of y27 zu_eq)))))))))))))) (zu_of y42 (zu_ne (by decide) (zu_ne (by decide) (zu_of y37 (zu_ne (by decide) (zu_of y35 (zu_ne (by decide) (zu_of y33 (zu_ne (by decide) (zu_of y31 (zu_ne (by decide) (zu_of y29 (zu_ne (by decide) (zu_of y27 (zu_ne (by decide) (zu_of y25 (zu_ne (by decide) (zu_of y23 (zu_ne (by decide) (zu_of y21 zu_eq)))))))))))))))))))) e27 (zu_of y42 (zu_ne (by decide) (zu_ne (by decide) (zu_of y37 (zu_ne (by decide) (zu_of y35 (zu_ne (by decide) (zu_of y33 (zu_ne (by decide) (zu_of y31 (zu_ne (by decide) (zu_of y29 (zu_ne (by decide) (zu_of y27 (zu_ne (by decide) (zu_of y25 (zu_ne (by decide) (zu_of y23 (zu_ne (by decide) (zu_of y21 (zu_ne (by decide) (zu_of y19 (zu_ne (by decide) (zu_of y17 (zu_ne (by decide) e26))))))))))))))))))))))))) (zu_of y15 (zu_ne (by decide) (zu_ne (by decide) (zu_ne (by decide) (zu_ne (by decide) (zu_ne (by decide) (zu_ne (by decide) (zu_ne (by decide) (zu_ne (by decide) (zu_ne (by decide) zu_eq)))))))))) (zu_of y42 (zu_ne (by decide) (zu_ne (by decide) (zu_of y37 (zu_ne (by decide) (zu_of y35 (zu_ne (by decide) (zu_of y33 zu_eq)))))))) (zu_of y15 (zu_ne (by decide) (zu_ne (by decide) (zu_ne (by decide) zu_eq)))) (zu_of y42 (zu_ne (by decide) (zu_ne (by decide) (zu_of y37 (zu_ne (by decide) (zu_of y35 (zu_ne (by decide) (zu_of y33 (zu_ne (by decide) (zu_of y31 (zu_ne (by decide) (zu_of y29 (zu_ne (by decide) (zu_of y27 (zu_ne (by decide) (zu_of y25 (zu_ne (by decide) (zu_of y23 (zu_ne (by decide) (zu_of y21 (zu_ne (by decide) (zu_of y19 (zu_ne (by decide) (zu_of y17 zu_eq)))))))))))))))))))))))) e28 (zu_of y42 (zu_ne (by decide) zu_eq)) e29 e30 e31 e32 e33) kV_RX1_91 hd_X1_step rfl rfl ⟨(Nat.le_of_ble_eq_true rfl), (Nat.le_of_ble_eq_true rfl)⟩ hK hS hZ hPc hDc hF 0 rfl rfl rfl hl.1 rfl (Nat.le_of_ble_eq_true rfl) dX1_find_141 ⟨(Nat.le_of_ble_eq_true rfl), (Nat.le_of_ble_eq_true rfl)⟩) (fun u43 H locs w44 hP hD hS => ?_)
  have hP : va_P K.1 classes [(a12, zI K 8 f12), (a2, zO 3 7 gg4), (a3, zI K 8 f3), (a4, zO 4 6 g4), (a5, zI K 8 f5), (a6, zR K 512 (va_up f6 0 (some (u1 0)))), ((u1 0), zO 6 3 gg6), ((u1 1), zJ K 1400 (fun _ => 0)), ((u1 2), zJ K 1400 (fun _ => 0)), ((u1 3), zJ K 1400 (fun _ => 0)), (a7, zO 2 6 (va_up g7 5 (.int 0))), (a0, zO 1 18 (va_up (va_up (va_up gg41 10 (.int 1)) 15 (.long ((1407374883553280 : Int64) ||| (((nI j1).toInt64) &&& (4294967295 : Int64))))) 11 (.int 1))), (a8, zI K 10 (va_up (va_up ff14 0 1) 6 1)), (a1, zO 4 6 g1), (a9, zO 7 6 g9), (a10, zI K 645 f10), (a11, zI K 645 f11)] H := hP
  have hD : va_D A [(a12, zI K 8 f12), (a2, zO 3 7 gg4), (a3, zI K 8 f3), (a4, zO 4 6 g4), (a5, zI K 8 f5), (a6, zR K 512 (va_up f6 0 (some (u1 0)))), ((u1 0), zO 6 3 gg6), ((u1 1), zJ K 1400 (fun _ => 0)), ((u1 2), zJ K 1400 (fun _ => 0)), ((u1 3), zJ K 1400 (fun _ => 0)), (a7, zO 2 6 (va_up g7 5 (.int 0))), (a0, zO 1 18 (va_up (va_up (va_up gg41 10 (.int 1)) 15 (.long ((1407374883553280 : Int64) ||| (((nI j1).toInt64) &&& (4294967295 : Int64))))) 11 (.int 1))), (a8, zI K 10 (va_up (va_up ff14 0 1) 6 1)), (a1, zO 4 6 g1), (a9, zO 7 6 g9), (a10, zI K 645 f10), (a11, zI K 645 f11)] := hD
  obtain ⟨gg46, y47⟩ : ∃ z, z = ((va_up (va_up (va_up gg41 10 (.int 1)) 15 (.long ((1407374883553280 : Int64) ||| (((nI j1).toInt64) &&& (4294967295 : Int64))))) 11 (.int 1)) : Nat → Value) := ⟨_, rfl⟩
  rw [← y47] at hP hD
  obtain ⟨ff48, y49⟩ : ∃ z, z = ((va_up (va_up ff14 0 1) 6 1) : Nat → Int32) := ⟨_, rfl⟩
  rw [← y49] at hP hD
  refine lv_goto (tgt := 183) hx hb dX1_find_144 (by decide) ?_
  refine lv_iinc (v := 1) (lv' := [(5, .int 1), (0, .ref a0), (1, .ref a1), (2, .int 640), (3, .int 1), (4, .int x0)]) hx hb dX1_find_183 hl (k := 0) rfl (by decide +kernel) (by decide) rfl (fun ls hl => ?_)
  refine lv_goto (tgt := 87) hx hb dX1_find_186 (by decide) ?_
  refine lv_iload hx hb dX1_find_87 (lv_at hl 0 rfl) ?_
  refine lv_ldc (v := 1000000) hx hb hown (hg _ mt961) dX1_find_89 ?_
  refine lv_icmp_ge (tgt := 189) hx hb dX1_find_91 (by decide) (fun c => absurd c (by decide)) (fun _ => ?_)
  refine lv_aload_n hx hb dX1_find_94 rfl (lv_at hl 1 rfl) ?_
  refine z_get (v := .int 1) hx hb hg hown hK hP i_X1 rfl 11 rfl 11 (by decide) mt260 (zu_of y47 zu_eq) dX1_find_95 ?_
  refine lv_bipush (v := 6) hx hb dX1_find_98 (by decide) ?_
  refine lv_icmp_eq (tgt := 189) hx hb dX1_find_100 (by decide) (fun c => absurd c (by decide)) (fun _ => ?_)
  refine lv_aload_n hx hb dX1_find_103 rfl (lv_at hl 1 rfl) ?_
  refine z_get (v := .int 1) hx hb hg hown hK hP i_X1 rfl 11 rfl 11 (by decide) mt260 (zu_of y47 zu_eq) dX1_find_104 ?_
  refine lv_tableIn (off := 40) (tgt := 147) hx hb dX1_find_107 (by decide) (by decide) (by decide) (by decide) ?_
  refine lv_aload_n hx hb dX1_find_147 rfl (lv_at hl 1 rfl) ?_
  refine lv_aload_n hx hb dX1_find_148 rfl (lv_at hl 1 rfl) ?_
  refine z_get (v := .long ((1407374883553280 : Int64) ||| (((nI j1).toInt64) &&& (4294967295 : Int64)))) hx hb hg hown hK hP i_X1 rfl 11 rfl 15 (by decide) mt264 (zu_of y47 (zu_ne (by decide) zu_eq)) dX1_find_149 ?_
  refine z_callv [(a0, zO 1 18 gg46), (a1, zO 4 6 g1), (a3, zI K 8 f3), (a12, zI K 8 f12)] [(a2, zO 3 7 gg4), (a4, zO 4 6 g4), (a5, zI K 8 f5), (a6, zR K 512 (va_up f6 0 (some (u1 0)))), ((u1 0), zO 6 3 gg6), ((u1 1), zJ K 1400 (fun _ => 0)), ((u1 2), zJ K 1400 (fun _ => 0)), ((u1 3), zJ K 1400 (fun _ => 0)), (a7, zO 2 6 (va_up g7 5 (.int 0))), (a8, zI K 10 ff48), (a9, zO 7 6 g9), (a10, zI K 645 f10), (a11, zI K 645 f11)] [11, 13, 2, 0] [1, 3, 4, 5, 6, 7, 8, 9, 10, 12, 14, 15, 16] hP hD hS hA rfl rfl (by decide) (by decide) (by decide +kernel) 4 4203 rfl rfl (fun hPc hDc hF => z_runV (As := [.long ((1407374883553280 : Int64) ||| (((nI j1).toInt64) &&& (4294967295 : Int64)))]) (rest := []) ⟨hx, hb, hml, hown, hg⟩ (cX1_lookAt_1 l K H.size a0 a1 a3 a12 gg46 g1 f3 f12 j1 hj1 (zu_of y47 (zu_ne (by decide) (zu_ne (by decide) (zu_ne (by decide) (zu_of y42 (zu_ne (by decide) (zu_ne (by decide) (zu_of y37 (zu_ne (by decide) (zu_of y35 (zu_ne (by decide) (zu_of y33 (zu_ne (by decide) (zu_of y31 (zu_ne (by decide) (zu_of y29 (zu_ne (by decide) (zu_of y27 (zu_ne (by decide) (zu_of y25 (zu_ne (by decide) (zu_of y23 (zu_ne (by decide) (zu_of y21 (zu_ne (by decide) (zu_of y19 (zu_ne (by decide) (zu_of y17 zu_eq)))))))))))))))))))))))))))) (zu_of y47 (zu_ne (by decide) (zu_ne (by decide) (zu_ne (by decide) (zu_of y42 (zu_ne (by decide) (zu_ne (by decide) (zu_of y37 (zu_ne (by decide) (zu_of y35 (zu_ne (by decide) (zu_of y33 (zu_ne (by decide) (zu_of y31 (zu_ne (by decide) (zu_of y29 (zu_ne (by decide) (zu_of y27 (zu_ne (by decide) (zu_of y25 (zu_ne (by decide) (zu_of y23 (zu_ne (by decide) (zu_of y21 (zu_ne (by decide) (zu_of y19 zu_eq)))))))))))))))))))))))))) e4 e34 e35 e36 (zu_of y47 (zu_ne (by decide) (zu_ne (by decide) (zu_ne (by decide) (zu_of y42 (zu_ne (by decide) (zu_ne (by decide) (zu_of y37 (zu_ne (by decide) (zu_of y35 (zu_ne (by decide) (zu_of y33 (zu_ne (by decide) (zu_of y31 (zu_ne (by decide) (zu_of y29 (zu_ne (by decide) (zu_of y27 zu_eq))))))))))))))))))) kV_RX1_98 hd_X1_lookAt rfl rfl ⟨(Nat.le_of_ble_eq_true rfl), (Nat.le_of_ble_eq_true rfl)⟩ hK hS hZ hPc hDc hF 0 rfl rfl rfl hl.1 rfl (Nat.le_of_ble_eq_true rfl) dX1_find_152 ⟨(Nat.le_of_ble_eq_true rfl), (Nat.le_of_ble_eq_true rfl)⟩) (fun u50 H locs w51 hP hD hS => ?_)
  have hP : va_P K.1 classes [(a2, zO 3 7 gg4), (a4, zO 4 6 g4), (a5, zI K 8 f5), (a6, zR K 512 (va_up f6 0 (some (u1 0)))), ((u1 0), zO 6 3 gg6), ((u1 1), zJ K 1400 (fun _ => 0)), ((u1 2), zJ K 1400 (fun _ => 0)), ((u1 3), zJ K 1400 (fun _ => 0)), (a7, zO 2 6 (va_up g7 5 (.int 0))), (a8, zI K 10 ff48), (a9, zO 7 6 g9), (a10, zI K 645 f10), (a11, zI K 645 f11), (a0, zO 1 18 (va_up (va_up gg46 16 (.int 5)) 11 (.int 4))), (a1, zO 4 6 g1), (a3, zI K 8 f3), (a12, zI K 8 f12)] H := hP
  have hD : va_D A [(a2, zO 3 7 gg4), (a4, zO 4 6 g4), (a5, zI K 8 f5), (a6, zR K 512 (va_up f6 0 (some (u1 0)))), ((u1 0), zO 6 3 gg6), ((u1 1), zJ K 1400 (fun _ => 0)), ((u1 2), zJ K 1400 (fun _ => 0)), ((u1 3), zJ K 1400 (fun _ => 0)), (a7, zO 2 6 (va_up g7 5 (.int 0))), (a8, zI K 10 ff48), (a9, zO 7 6 g9), (a10, zI K 645 f10), (a11, zI K 645 f11), (a0, zO 1 18 (va_up (va_up gg46 16 (.int 5)) 11 (.int 4))), (a1, zO 4 6 g1), (a3, zI K 8 f3), (a12, zI K 8 f12)] := hD
  obtain ⟨gg53, y54⟩ : ∃ z, z = ((va_up (va_up gg46 16 (.int 5)) 11 (.int 4)) : Nat → Value) := ⟨_, rfl⟩
  rw [← y54] at hP hD
  refine lv_goto (tgt := 183) hx hb dX1_find_155 (by decide) ?_
  refine lv_iinc (v := 2) (lv' := [(5, .int 2), (0, .ref a0), (1, .ref a1), (2, .int 640), (3, .int 1), (4, .int x0)]) hx hb dX1_find_183 hl (k := 0) rfl (by decide +kernel) (by decide) rfl (fun ls hl => ?_)
  refine lv_goto (tgt := 87) hx hb dX1_find_186 (by decide) ?_
  refine lv_iload hx hb dX1_find_87 (lv_at hl 0 rfl) ?_
  refine lv_ldc (v := 1000000) hx hb hown (hg _ mt961) dX1_find_89 ?_
  refine lv_icmp_ge (tgt := 189) hx hb dX1_find_91 (by decide) (fun c => absurd c (by decide)) (fun _ => ?_)
  refine lv_aload_n hx hb dX1_find_94 rfl (lv_at hl 1 rfl) ?_
  refine z_get (v := .int 4) hx hb hg hown hK hP i_X1 rfl 13 rfl 11 (by decide) mt260 (zu_of y54 zu_eq) dX1_find_95 ?_
  refine lv_bipush (v := 6) hx hb dX1_find_98 (by decide) ?_
  refine lv_icmp_eq (tgt := 189) hx hb dX1_find_100 (by decide) (fun c => absurd c (by decide)) (fun _ => ?_)
  refine lv_aload_n hx hb dX1_find_103 rfl (lv_at hl 1 rfl) ?_
  refine z_get (v := .int 4) hx hb hg hown hK hP i_X1 rfl 13 rfl 11 (by decide) mt260 (zu_of y54 zu_eq) dX1_find_104 ?_
  refine lv_tableIn (off := 65) (tgt := 172) hx hb dX1_find_107 (by decide) (by decide) (by decide) (by decide) ?_
  refine lv_aload_n hx hb dX1_find_172 rfl (lv_at hl 1 rfl) ?_
  refine z_callv [(a0, zO 1 18 gg53), (a7, zO 2 6 (va_up g7 5 (.int 0)))] [(a2, zO 3 7 gg4), (a4, zO 4 6 g4), (a5, zI K 8 f5), (a6, zR K 512 (va_up f6 0 (some (u1 0)))), ((u1 0), zO 6 3 gg6), ((u1 1), zJ K 1400 (fun _ => 0)), ((u1 2), zJ K 1400 (fun _ => 0)), ((u1 3), zJ K 1400 (fun _ => 0)), (a8, zI K 10 ff48), (a9, zO 7 6 g9), (a10, zI K 645 f10), (a11, zI K 645 f11), (a1, zO 4 6 g1), (a3, zI K 8 f3), (a12, zI K 8 f12)] [13, 8] [0, 1, 2, 3, 4, 5, 6, 7, 9, 10, 11, 12, 14, 15, 16] hP hD hS hA rfl rfl (by decide) (by decide) (by decide +kernel) 4 4203 rfl rfl (fun hPc hDc hF => z_runV (As := []) (rest := []) ⟨hx, hb, hml, hown, hg⟩ (cX1_leave_1 l K H.size a0 a7 gg53 (va_up g7 5 (.int 0)) (zu_of y54 (zu_ne (by decide) (zu_ne (by decide) (zu_of y47 (zu_ne (by decide) (zu_ne (by decide) (zu_ne (by decide) (zu_of y42 (zu_ne (by decide) (zu_ne (by decide) (zu_of y37 (zu_ne (by decide) (zu_of y35 (zu_ne (by decide) (zu_of y33 (zu_ne (by decide) (zu_of y31 (zu_ne (by decide) (zu_of y29 (zu_ne (by decide) (zu_of y27 (zu_ne (by decide) (zu_of y25 (zu_ne (by decide) (zu_of y23 (zu_ne (by decide) (zu_of y21 (zu_ne (by decide) (zu_of y19 (zu_ne (by decide) (zu_of y17 (zu_ne (by decide) e25)))))))))))))))))))))))))))))))) zu_eq) kV_RX1_108 hd_X1_leave rfl rfl ⟨(Nat.le_of_ble_eq_true rfl), (Nat.le_of_ble_eq_true rfl)⟩ hK hS hZ hPc hDc hF 0 rfl rfl rfl hl.1 rfl (Nat.le_of_ble_eq_true rfl) dX1_find_173 ⟨(Nat.le_of_ble_eq_true rfl), (Nat.le_of_ble_eq_true rfl)⟩) (fun u55 H locs w56 hP hD hS => ?_)
  have hP : va_P K.1 classes [(a2, zO 3 7 gg4), (a4, zO 4 6 g4), (a5, zI K 8 f5), (a6, zR K 512 (va_up f6 0 (some (u1 0)))), ((u1 0), zO 6 3 gg6), ((u1 1), zJ K 1400 (fun _ => 0)), ((u1 2), zJ K 1400 (fun _ => 0)), ((u1 3), zJ K 1400 (fun _ => 0)), (a8, zI K 10 ff48), (a9, zO 7 6 g9), (a10, zI K 645 f10), (a11, zI K 645 f11), (a1, zO 4 6 g1), (a3, zI K 8 f3), (a12, zI K 8 f12), (a0, zO 1 18 (va_up gg53 11 (.int 5))), (a7, zO 2 6 (va_up g7 5 (.int 0)))] H := hP
  have hD : va_D A [(a2, zO 3 7 gg4), (a4, zO 4 6 g4), (a5, zI K 8 f5), (a6, zR K 512 (va_up f6 0 (some (u1 0)))), ((u1 0), zO 6 3 gg6), ((u1 1), zJ K 1400 (fun _ => 0)), ((u1 2), zJ K 1400 (fun _ => 0)), ((u1 3), zJ K 1400 (fun _ => 0)), (a8, zI K 10 ff48), (a9, zO 7 6 g9), (a10, zI K 645 f10), (a11, zI K 645 f11), (a1, zO 4 6 g1), (a3, zI K 8 f3), (a12, zI K 8 f12), (a0, zO 1 18 (va_up gg53 11 (.int 5))), (a7, zO 2 6 (va_up g7 5 (.int 0)))] := hD
  refine lv_goto (tgt := 183) hx hb dX1_find_176 (by decide) ?_
  refine lv_iinc (v := 3) (lv' := [(5, .int 3), (0, .ref a0), (1, .ref a1), (2, .int 640), (3, .int 1), (4, .int x0)]) hx hb dX1_find_183 hl (k := 0) rfl (by decide +kernel) (by decide) rfl (fun ls hl => ?_)
  refine lv_goto (tgt := 87) hx hb dX1_find_186 (by decide) ?_
  refine lv_iload hx hb dX1_find_87 (lv_at hl 0 rfl) ?_
  refine lv_ldc (v := 1000000) hx hb hown (hg _ mt961) dX1_find_89 ?_
  refine lv_icmp_ge (tgt := 189) hx hb dX1_find_91 (by decide) (fun c => absurd c (by decide)) (fun _ => ?_)
  refine lv_aload_n hx hb dX1_find_94 rfl (lv_at hl 1 rfl) ?_
  refine z_get (v := .int 5) hx hb hg hown hK hP i_X1 rfl 15 rfl 11 (by decide) mt260 zu_eq dX1_find_95 ?_
  refine lv_bipush (v := 6) hx hb dX1_find_98 (by decide) ?_
  refine lv_icmp_eq (tgt := 189) hx hb dX1_find_100 (by decide) (fun c => absurd c (by decide)) (fun _ => ?_)
  refine lv_aload_n hx hb dX1_find_103 rfl (lv_at hl 1 rfl) ?_
  refine z_get (v := .int 5) hx hb hg hown hK hP i_X1 rfl 15 rfl 11 (by decide) mt260 zu_eq dX1_find_104 ?_
  refine lv_tableOut (tgt := 179) hx hb dX1_find_107 (by decide) (by decide) ?_
  refine lv_aload_n hx hb dX1_find_179 rfl (lv_at hl 1 rfl) ?_
  refine z_callv [(a0, zO 1 18 (va_up gg53 11 (.int 5)))] [(a2, zO 3 7 gg4), (a4, zO 4 6 g4), (a5, zI K 8 f5), (a6, zR K 512 (va_up f6 0 (some (u1 0)))), ((u1 0), zO 6 3 gg6), ((u1 1), zJ K 1400 (fun _ => 0)), ((u1 2), zJ K 1400 (fun _ => 0)), ((u1 3), zJ K 1400 (fun _ => 0)), (a8, zI K 10 ff48), (a9, zO 7 6 g9), (a10, zI K 645 f10), (a11, zI K 645 f11), (a1, zO 4 6 g1), (a3, zI K 8 f3), (a12, zI K 8 f12), (a7, zO 2 6 (va_up g7 5 (.int 0)))] [15] [0, 1, 2, 3, 4, 5, 6, 7, 8, 9, 10, 11, 12, 13, 14, 16] hP hD hS hA rfl rfl (by decide) (by decide) (by decide +kernel) 4 4203 rfl rfl (fun hPc hDc hF => z_runV (As := []) (rest := []) ⟨hx, hb, hml, hown, hg⟩ (cX1_rest_2 l K H.size a0 (va_up gg53 11 (.int 5)) (zu_ne (by decide) (zu_of y54 (zu_ne (by decide) zu_eq)))) kV_RX1_111 hd_X1_rest rfl rfl ⟨(Nat.le_of_ble_eq_true rfl), (Nat.le_of_ble_eq_true rfl)⟩ hK hS hZ hPc hDc hF 0 rfl rfl rfl hl.1 rfl (Nat.le_of_ble_eq_true rfl) dX1_find_180 ⟨(Nat.le_of_ble_eq_true rfl), (Nat.le_of_ble_eq_true rfl)⟩) (fun u58 H locs w59 hP hD hS => ?_)
  have hP : va_P K.1 classes [(a2, zO 3 7 gg4), (a4, zO 4 6 g4), (a5, zI K 8 f5), (a6, zR K 512 (va_up f6 0 (some (u1 0)))), ((u1 0), zO 6 3 gg6), ((u1 1), zJ K 1400 (fun _ => 0)), ((u1 2), zJ K 1400 (fun _ => 0)), ((u1 3), zJ K 1400 (fun _ => 0)), (a8, zI K 10 ff48), (a9, zO 7 6 g9), (a10, zI K 645 f10), (a11, zI K 645 f11), (a1, zO 4 6 g1), (a3, zI K 8 f3), (a12, zI K 8 f12), (a7, zO 2 6 (va_up g7 5 (.int 0))), (a0, zO 1 18 (va_up (va_up gg53 11 (.int 5)) 11 (.int 6)))] H := hP
  have hD : va_D A [(a2, zO 3 7 gg4), (a4, zO 4 6 g4), (a5, zI K 8 f5), (a6, zR K 512 (va_up f6 0 (some (u1 0)))), ((u1 0), zO 6 3 gg6), ((u1 1), zJ K 1400 (fun _ => 0)), ((u1 2), zJ K 1400 (fun _ => 0)), ((u1 3), zJ K 1400 (fun _ => 0)), (a8, zI K 10 ff48), (a9, zO 7 6 g9), (a10, zI K 645 f10), (a11, zI K 645 f11), (a1, zO 4 6 g1), (a3, zI K 8 f3), (a12, zI K 8 f12), (a7, zO 2 6 (va_up g7 5 (.int 0))), (a0, zO 1 18 (va_up (va_up gg53 11 (.int 5)) 11 (.int 6)))] := hD
  obtain ⟨gg61, y62⟩ : ∃ z, z = ((va_up (va_up gg53 11 (.int 5)) 11 (.int 6)) : Nat → Value) := ⟨_, rfl⟩
  rw [← y62] at hP hD
  refine lv_iinc (v := 4) (lv' := [(5, .int 4), (0, .ref a0), (1, .ref a1), (2, .int 640), (3, .int 1), (4, .int x0)]) hx hb dX1_find_183 hl (k := 0) rfl (by decide +kernel) (by decide) rfl (fun ls hl => ?_)
  refine lv_goto (tgt := 87) hx hb dX1_find_186 (by decide) ?_
  refine lv_iload hx hb dX1_find_87 (lv_at hl 0 rfl) ?_
  refine lv_ldc (v := 1000000) hx hb hown (hg _ mt961) dX1_find_89 ?_
  refine lv_icmp_ge (tgt := 189) hx hb dX1_find_91 (by decide) (fun c => absurd c (by decide)) (fun _ => ?_)
  refine lv_aload_n hx hb dX1_find_94 rfl (lv_at hl 1 rfl) ?_
  refine z_get (v := .int 6) hx hb hg hown hK hP i_X1 rfl 16 rfl 11 (by decide) mt260 (zu_of y62 zu_eq) dX1_find_95 ?_
  refine lv_bipush (v := 6) hx hb dX1_find_98 (by decide) ?_
  refine lv_icmp_eq (tgt := 189) hx hb dX1_find_100 (by decide) (fun _ => ?_) (fun c => absurd (by decide) c)
  refine lv_aload_n hx hb dX1_find_189 rfl (lv_at hl 1 rfl) ?_
  refine z_get (v := .int 5) hx hb hg hown hK hP i_X1 rfl 16 rfl 16 (by decide) mt265 (zu_of y62 (zu_ne (by decide) (zu_ne (by decide) (zu_of y54 (zu_ne (by decide) zu_eq))))) dX1_find_190 ?_
  subst y62
  subst y54
  subst y49
  subst y47
  subst y42
  subst y37
  subst y35
  subst y33
  subst y31
  subst y29
  subst y27
  subst y25
  subst y23
  subst y21
  subst y19
  subst y17
  subst y15
  subst y7
  subst y5
  have hP9 : va_P K.1 classes [(a0, zO 1 18 (va_up (va_up (va_up (va_up (va_up (va_up (va_up (va_up (va_up (va_up (va_up (va_up (va_up (va_up (va_up (va_up (va_up (va_up (va_up (va_up g0 6 (.ref a1)) 7 (.int 1)) 9 (.int x0)) 4 (.int 0)) 5 (.int 0)) 8 (.int 0)) 10 (.int 0)) 13 (.int (-1))) 14 (.int 0)) 16 (.int 6)) 17 (.int 0)) 12 (.int 640)) 11 (.int 0)) 10 (.int 1)) 15 (.long ((1407374883553280 : Int64) ||| (((nI j1).toInt64) &&& (4294967295 : Int64))))) 11 (.int 1)) 16 (.int 5)) 11 (.int 4)) 11 (.int 5)) 11 (.int 6))), (a2, zO 3 7 (va_up (va_up (va_up (va_up (va_up g2 5 (.int 0)) 5 (.int 0)) 3 (.int 1)) 4 (.int 0)) 6 (.int 0))), (a1, zO 4 6 g1), (a3, zI K 8 f3), (a4, zO 4 6 g4), (a5, zI K 8 f5), (a6, zR K 512 (va_up f6 0 (some (u1 0)))), (a7, zO 2 6 (va_up g7 5 (.int 0))), (a8, zI K 10 (va_up (va_up (va_up (va_up (va_up (va_up (va_up (va_up (va_up (va_up (va_up (va_up f8 0 0) 1 0) 2 0) 3 0) 4 0) 5 0) 6 0) 7 0) 8 0) 9 0) 0 1) 6 1)), (a9, zO 7 6 g9), (a10, zI K 645 f10), (a11, zI K 645 f11), (a12, zI K 8 f12), ((u1 0), zO 6 3 (va_up (va_up (va_up (fun k => defaultValue (tyX7 k)) 0 (.ref (u1 1))) 1 (.ref (u1 2))) 2 (.ref (u1 3)))), ((u1 1), zJ K 1400 (fun _ => 0)), ((u1 2), zJ K 1400 (fun _ => 0)), ((u1 3), zJ K 1400 (fun _ => 0))] H := hP.sub [16, 0, 12, 13, 1, 2, 3, 15, 8, 9, 10, 11, 14, 4, 5, 6, 7] rfl
  have hD9 : va_D A [(a0, zO 1 18 (va_up (va_up (va_up (va_up (va_up (va_up (va_up (va_up (va_up (va_up (va_up (va_up (va_up (va_up (va_up (va_up (va_up (va_up (va_up (va_up g0 6 (.ref a1)) 7 (.int 1)) 9 (.int x0)) 4 (.int 0)) 5 (.int 0)) 8 (.int 0)) 10 (.int 0)) 13 (.int (-1))) 14 (.int 0)) 16 (.int 6)) 17 (.int 0)) 12 (.int 640)) 11 (.int 0)) 10 (.int 1)) 15 (.long ((1407374883553280 : Int64) ||| (((nI j1).toInt64) &&& (4294967295 : Int64))))) 11 (.int 1)) 16 (.int 5)) 11 (.int 4)) 11 (.int 5)) 11 (.int 6))), (a2, zO 3 7 (va_up (va_up (va_up (va_up (va_up g2 5 (.int 0)) 5 (.int 0)) 3 (.int 1)) 4 (.int 0)) 6 (.int 0))), (a1, zO 4 6 g1), (a3, zI K 8 f3), (a4, zO 4 6 g4), (a5, zI K 8 f5), (a6, zR K 512 (va_up f6 0 (some (u1 0)))), (a7, zO 2 6 (va_up g7 5 (.int 0))), (a8, zI K 10 (va_up (va_up (va_up (va_up (va_up (va_up (va_up (va_up (va_up (va_up (va_up (va_up f8 0 0) 1 0) 2 0) 3 0) 4 0) 5 0) 6 0) 7 0) 8 0) 9 0) 0 1) 6 1)), (a9, zO 7 6 g9), (a10, zI K 645 f10), (a11, zI K 645 f11), (a12, zI K 8 f12), ((u1 0), zO 6 3 (va_up (va_up (va_up (fun k => defaultValue (tyX7 k)) 0 (.ref (u1 1))) 1 (.ref (u1 2))) 2 (.ref (u1 3)))), ((u1 1), zJ K 1400 (fun _ => 0)), ((u1 2), zJ K 1400 (fun _ => 0)), ((u1 3), zJ K 1400 (fun _ => 0))] := hD.sub [16, 0, 12, 13, 1, 2, 3, 15, 8, 9, 10, 11, 14, 4, 5, 6, 7] (by decide) rfl
  exact z_iret hx hb hr (fun k => ([(u1 0), (u1 1), (u1 2), (u1 3)] : List Nat).getD k 0) rfl hP9 hD9 hS (Nat.le_of_ble_eq_true rfl) (Nat.le_of_ble_eq_true rfl) hlocks dX1_find_193
set_option maxHeartbeats 4000000 in
set_option maxRecDepth 100000 in
theorem cX11_run_11 (l : Launch) (K : zK) (sz : Nat) (a0 : Nat) (a1 : Nat) (a2 : Nat) (a3 : Nat) (a4 : Nat) (a5 : Nat) (a6 : Nat) (a7 : Nat) (a8 : Nat) (a9 : Nat) (a10 : Nat) (a11 : Nat) (a12 : Nat) (a13 : Nat) (a14 : Nat) (a15 : Nat) (a16 : Nat) (g0 : Nat → Value) (g1 : Nat → Value) (g2 : Nat → Value) (f3 : Nat → Int32) (f4 : Nat → Int32) (f5 : Nat → Int32) (f6 : Nat → Int32) (f7 : Nat → Int32) (g8 : Nat → Value) (g9 : Nat → Value) (f10 : Nat → Int32) (g11 : Nat → Value) (f12 : Nat → Int32) (f13 : Nat → Option Nat) (g14 : Nat → Value) (f15 : Nat → Int32) (f16 : Nat → Int32) (j0 : Nat) (hj0 : j0 < 8) (x1 : Int32) (x2 : Int32) (x3 : Int32) (e0 : ¬ x3 < (0 : Int32)) (e1 : x3 < (601 : Int32)) (e2 : g0 3 = (.ref a1)) (e3 : g1 0 = (.ref a2)) (e4 : g2 5 = (.int 645)) (e5 : g2 0 = (.ref a3)) (e6 : g2 1 = (.ref a4)) (e7 : g2 2 = (.ref a5)) (e8 : g2 3 = (.ref a6)) (e9 : g2 4 = (.ref a7)) (e10 : g0 7 = (.ref a8)) (e11 : g8 0 = (.ref a9)) (e12 : g9 6 = (.int 0)) (e13 : g9 4 = (.int 0)) (e14 : g9 0 = (.ref a1)) (e15 : g1 2 = (.ref a10)) (e16 : f10 0 = 0) (e17 : f10 1 = 0) (e18 : f10 2 = 0) (e19 : f10 3 = 0) (e20 : f10 4 = 0) (e21 : f10 5 = 0) (e22 : f10 6 = 0) (e23 : f10 7 = 0) (e24 : g9 1 = (.ref a11)) (e25 : g11 2 = (.ref a12)) (e26 : f12 0 = 0) (e27 : f12 1 = 0) (e28 : f12 2 = 0) (e29 : f12 3 = 0) (e30 : f12 4 = 0) (e31 : f12 5 = 0) (e32 : f12 6 = 0) (e33 : f12 7 = 0) (e34 : g9 3 = (.int 0)) (e35 : g9 2 = (.ref a13)) (e36 : g8 1 = (.ref a14)) (e37 : g8 2 = (.ref a15)) (e38 : ¬ (1 : Int32) = x3) (e39 : ∀ j : Nat, f10 j = 0) (e40 : g1 1 = (.ref a16)) (e41 : ∀ j : Nat, f16 j = 0) : Met l yX11_run (Cond.code yX11_run cX11_run 9 (some .int) :: WG) { frames := 5, cells := 4, slots := 4203, locals := 97 } (zPre K [(a0, zO 9 9 g0), (a1, zO 4 6 g1), (a2, zO 7 6 g2), (a3, zI K 645 f3), (a4, zI K 645 f4), (a5, zI K 645 f5), (a6, zI K 645 f6), (a7, zI K 1935 f7), (a8, zO 1 18 g8), (a9, zO 3 7 g9), (a10, zI K 8 f10), (a11, zO 4 6 g11), (a12, zI K 8 f12), (a13, zR K 512 f13), (a14, zO 2 6 g14), (a15, zI K 10 f15), (a16, zI K 8 f16)] sz [.ref a0, .int (nI j0), .int 0, .int x1, .int x2, .int x3, .int 0]) (va_Qi (fun (r : Int32) (_ : Nat → Nat) => r = 5) (zB K (va_A [(a0, zO 9 9 g0), (a1, zO 4 6 g1), (a2, zO 7 6 g2), (a3, zI K 645 f3), (a4, zI K 645 f4), (a5, zI K 645 f5), (a6, zI K 645 f6), (a7, zI K 1935 f7), (a8, zO 1 18 g8), (a9, zO 3 7 g9), (a10, zI K 8 f10), (a11, zO 4 6 g11), (a12, zI K 8 f12), (a13, zR K 512 f13), (a14, zO 2 6 g14), (a15, zI K 10 f15), (a16, zI K 8 f16)] sz) (fun u : Nat → Nat => [])) (va_A [(a0, zO 9 9 g0), (a1, zO 4 6 g1), (a2, zO 7 6 g2), (a3, zI K 645 f3), (a4, zI K 645 f4), (a5, zI K 645 f5), (a6, zI K 645 f6), (a7, zI K 1935 f7), (a8, zO 1 18 g8), (a9, zO 3 7 g9), (a10, zI K 8 f10), (a11, zO 4 6 g11), (a12, zI K 8 f12), (a13, zR K 512 f13), (a14, zO 2 6 g14), (a15, zI K 10 f15), (a16, zI K 8 f16)] sz)) 4 4203 (va_A [(a0, zO 9 9 g0), (a1, zO 4 6 g1), (a2, zO 7 6 g2), (a3, zI K 645 f3), (a4, zI K 645 f4), (a5, zI K 645 f5), (a6, zI K 645 f6), (a7, zI K 1935 f7), (a8, zO 1 18 g8), (a9, zO 3 7 g9), (a10, zI K 8 f10), (a11, zO 4 6 g11), (a12, zI K 8 f12), (a13, zR K 512 f13), (a14, zO 2 6 g14), (a15, zI K 10 f15), (a16, zI K 8 f16)] sz) := by
  refine z_met (Qc := fun A => (va_Qi (fun (r : Int32) (_ : Nat → Nat) => r = 5) (zB K A (fun u : Nat → Nat => [])) A)) (by decide +kernel) (Nat.le_of_ble_eq_true rfl) ?_
  intro p e s m args below meth c A ls H hx hb hr hg hown hlocks hml hin hK hP hD hA hS hZ hl
  have hown : s.vm.findClass RX11 = some m.cls := hown
  have hl : lv_has ls 9 [(0, .ref a0), (1, .int (nI j0)), (2, .int 0), (3, .int x1), (4, .int x2), (5, .int x3), (6, .int 0)] := hl
  refine lv_aload_n hx hb dX11_run_0 rfl (lv_at hl 0 rfl) ?_
  refine lv_iload hx hb dX11_run_1 (lv_at hl 5 rfl) ?_
  refine lv_sipush (v := 601) hx hb dX11_run_3 (by decide) ?_
  refine z_callv [(a0, zO 9 9 g0)] [(a1, zO 4 6 g1), (a2, zO 7 6 g2), (a3, zI K 645 f3), (a4, zI K 645 f4), (a5, zI K 645 f5), (a6, zI K 645 f6), (a7, zI K 1935 f7), (a8, zO 1 18 g8), (a9, zO 3 7 g9), (a10, zI K 8 f10), (a11, zO 4 6 g11), (a12, zI K 8 f12), (a13, zR K 512 f13), (a14, zO 2 6 g14), (a15, zI K 10 f15), (a16, zI K 8 f16)] [0] [1, 2, 3, 4, 5, 6, 7, 8, 9, 10, 11, 12, 13, 14, 15, 16] hP hD hS hA rfl rfl (by decide) (by decide) (by decide +kernel) 0 0 rfl rfl (fun hPc hDc hF => z_runV (As := [.int x3, .int 601]) (rest := []) ⟨hx, hb, hml, hown, hg⟩ (cX11_checkRange_14 l K H.size a0 g0 x3 e0 e1) kV_RX11_72 hd_X11_checkRange rfl rfl ⟨(Nat.le_of_ble_eq_true rfl), (Nat.le_of_ble_eq_true rfl)⟩ hK hS hZ hPc hDc hF 0 rfl rfl rfl hl.1 rfl (Nat.le_of_ble_eq_true rfl) dX11_run_6 ⟨(Nat.le_of_ble_eq_true rfl), (Nat.le_of_ble_eq_true rfl)⟩) (fun u1 H locs w2 hP hD hS => ?_)
  have hP : va_P K.1 classes [(a1, zO 4 6 g1), (a2, zO 7 6 g2), (a3, zI K 645 f3), (a4, zI K 645 f4), (a5, zI K 645 f5), (a6, zI K 645 f6), (a7, zI K 1935 f7), (a8, zO 1 18 g8), (a9, zO 3 7 g9), (a10, zI K 8 f10), (a11, zO 4 6 g11), (a12, zI K 8 f12), (a13, zR K 512 f13), (a14, zO 2 6 g14), (a15, zI K 10 f15), (a16, zI K 8 f16), (a0, zO 9 9 g0)] H := hP
  have hD : va_D A [(a1, zO 4 6 g1), (a2, zO 7 6 g2), (a3, zI K 645 f3), (a4, zI K 645 f4), (a5, zI K 645 f5), (a6, zI K 645 f6), (a7, zI K 1935 f7), (a8, zO 1 18 g8), (a9, zO 3 7 g9), (a10, zI K 8 f10), (a11, zO 4 6 g11), (a12, zI K 8 f12), (a13, zR K 512 f13), (a14, zO 2 6 g14), (a15, zI K 10 f15), (a16, zI K 8 f16), (a0, zO 9 9 g0)] := hD
  refine lv_aload_n hx hb dX11_run_9 rfl (lv_at hl 0 rfl) ?_
  refine lv_iload_n hx hb dX11_run_10 rfl (lv_at hl 1 rfl) ?_
  refine lv_iload_n hx hb dX11_run_11 rfl (lv_at hl 2 rfl) ?_
  refine lv_iload hx hb dX11_run_12 (lv_at hl 6 rfl) ?_
  refine z_callr [(a0, zO 9 9 g0)] [(a1, zO 4 6 g1), (a2, zO 7 6 g2), (a3, zI K 645 f3), (a4, zI K 645 f4), (a5, zI K 645 f5), (a6, zI K 645 f6), (a7, zI K 1935 f7), (a8, zO 1 18 g8), (a9, zO 3 7 g9), (a10, zI K 8 f10), (a11, zO 4 6 g11), (a12, zI K 8 f12), (a13, zR K 512 f13), (a14, zO 2 6 g14), (a15, zI K 10 f15), (a16, zI K 8 f16)] [16] [0, 1, 2, 3, 4, 5, 6, 7, 8, 9, 10, 11, 12, 13, 14, 15] hP hD hS hA rfl rfl (by decide) (by decide) (by decide +kernel) 0 0 rfl rfl (fun hPc hDc hF => z_runV (As := [.int (nI j0), .int 0, .int 0]) (rest := []) ⟨hx, hb, hml, hown, hg⟩ (cX11_programToRun_4 l K H.size a0 a1 g0 j0 hj0 e2) kV_RX11_130 hd_X11_programToRun rfl rfl ⟨(Nat.le_of_ble_eq_true rfl), (Nat.le_of_ble_eq_true rfl)⟩ hK hS hZ hPc hDc hF 0 rfl rfl rfl hl.1 rfl (Nat.le_of_ble_eq_true rfl) dX11_run_14 ⟨(Nat.le_of_ble_eq_true rfl), (Nat.le_of_ble_eq_true rfl)⟩) (fun u4 H locs w5 hP hD hS => ?_)
  have hP : va_P K.1 classes [(a1, zO 4 6 g1), (a2, zO 7 6 g2), (a3, zI K 645 f3), (a4, zI K 645 f4), (a5, zI K 645 f5), (a6, zI K 645 f6), (a7, zI K 1935 f7), (a8, zO 1 18 g8), (a9, zO 3 7 g9), (a10, zI K 8 f10), (a11, zO 4 6 g11), (a12, zI K 8 f12), (a13, zR K 512 f13), (a14, zO 2 6 g14), (a15, zI K 10 f15), (a16, zI K 8 f16), (a0, zO 9 9 g0)] H := hP
  have hD : va_D A [(a1, zO 4 6 g1), (a2, zO 7 6 g2), (a3, zI K 645 f3), (a4, zI K 645 f4), (a5, zI K 645 f5), (a6, zI K 645 f6), (a7, zI K 1935 f7), (a8, zO 1 18 g8), (a9, zO 3 7 g9), (a10, zI K 8 f10), (a11, zO 4 6 g11), (a12, zI K 8 f12), (a13, zR K 512 f13), (a14, zO 2 6 g14), (a15, zI K 10 f15), (a16, zI K 8 f16), (a0, zO 9 9 g0)] := hD
  refine W.eq (g2 := F0 m 17 ls [.ref a1]) rfl ?_
  refine lv_astore (lv' := [(7, .ref a1), (0, .ref a0), (1, .int (nI j0)), (2, .int 0), (3, .int x1), (4, .int x2), (5, .int x3), (6, .int 0)]) hx hb dX11_run_17 hl (by decide) rfl (fun ls hl => ?_)
  refine lv_aload hx hb dX11_run_19 (lv_at hl 0 rfl) ?_
  refine lv_iload_n hx hb dX11_run_21 rfl (lv_at hl 2 rfl) ?_
  refine lv_iload_n hx hb dX11_run_22 rfl (lv_at hl 3 rfl) ?_
  refine lv_iload_n hx hb dX11_run_23 rfl (lv_at hl 4 rfl) ?_
  refine lv_iload hx hb dX11_run_24 (lv_at hl 5 rfl) ?_
  refine z_calli [(a1, zO 4 6 g1), (a2, zO 7 6 g2), (a3, zI K 645 f3), (a4, zI K 645 f4), (a5, zI K 645 f5), (a6, zI K 645 f6), (a7, zI K 1935 f7)] [(a8, zO 1 18 g8), (a9, zO 3 7 g9), (a10, zI K 8 f10), (a11, zO 4 6 g11), (a12, zI K 8 f12), (a13, zR K 512 f13), (a14, zO 2 6 g14), (a15, zI K 10 f15), (a16, zI K 8 f16), (a0, zO 9 9 g0)] [0, 1, 2, 3, 4, 5, 6] [7, 8, 9, 10, 11, 12, 13, 14, 15, 16] hP hD hS hA rfl rfl (by decide) (by decide) (by decide +kernel) 0 0 rfl rfl (fun hPc hDc hF => z_runV (As := [.int (nI j0), .int 0, .int x1, .int x2]) (rest := []) ⟨hx, hb, hml, hown, hg⟩ (cX5_call_2 l K H.size a1 a2 a3 a4 a5 a6 a7 g1 g2 f3 f4 f5 f6 f7 j0 hj0 x1 x2 e3 e4 e5 e6 e7 e8 e9) kV_RX11_134 hd_X5_call rfl rfl ⟨(Nat.le_of_ble_eq_true rfl), (Nat.le_of_ble_eq_true rfl)⟩ hK hS hZ hPc hDc hF 0 rfl rfl rfl hl.1 rfl (Nat.le_of_ble_eq_true rfl) dX11_run_26 ⟨(Nat.le_of_ble_eq_true rfl), (Nat.le_of_ble_eq_true rfl)⟩) (fun r9 u7 H locs w8 hP hD hS => ?_)
  subst w8
  have hP : va_P K.1 classes [(a8, zO 1 18 g8), (a9, zO 3 7 g9), (a10, zI K 8 f10), (a11, zO 4 6 g11), (a12, zI K 8 f12), (a13, zR K 512 f13), (a14, zO 2 6 g14), (a15, zI K 10 f15), (a16, zI K 8 f16), (a0, zO 9 9 g0), (a1, zO 4 6 g1), (a2, zO 7 6 g2), (a3, zI K 645 (va_up (va_up (va_up (va_up (va_up f3 640 2) 641 0) 642 4) 643 0) 644 4)), (a4, zI K 645 (va_up (va_up (va_up (va_up (va_up f4 640 (nI j0)) 641 x1) 642 0) 643 x2) 644 0)), (a5, zI K 645 (va_up (va_up (va_up (va_up (va_up f5 640 0) 641 0) 642 0) 643 0) 644 0)), (a6, zI K 645 (va_up (va_up (va_up (va_up (va_up f6 640 0) 641 0) 642 0) 643 0) 644 0)), (a7, zI K 1935 (va_up (va_up (va_up (va_up (va_up (va_up (va_up (va_up (va_up (va_up (va_up (va_up (va_up (va_up (va_up (va_up (va_up (va_up (va_up (va_up (va_up f7 1920 (-1)) 1921 (-1)) 1922 (-1)) 1923 (-1)) 1924 (-1)) 1925 (-1)) 1926 (-1)) 1927 (-1)) 1928 (-1)) 1926 640) 1927 641) 1928 (-1)) 1929 (-1)) 1930 (-1)) 1931 (-1)) 1932 (-1)) 1933 (-1)) 1934 (-1)) 1932 642) 1933 643) 1934 (-1)))] H := hP
  have hD : va_D A [(a8, zO 1 18 g8), (a9, zO 3 7 g9), (a10, zI K 8 f10), (a11, zO 4 6 g11), (a12, zI K 8 f12), (a13, zR K 512 f13), (a14, zO 2 6 g14), (a15, zI K 10 f15), (a16, zI K 8 f16), (a0, zO 9 9 g0), (a1, zO 4 6 g1), (a2, zO 7 6 g2), (a3, zI K 645 (va_up (va_up (va_up (va_up (va_up f3 640 2) 641 0) 642 4) 643 0) 644 4)), (a4, zI K 645 (va_up (va_up (va_up (va_up (va_up f4 640 (nI j0)) 641 x1) 642 0) 643 x2) 644 0)), (a5, zI K 645 (va_up (va_up (va_up (va_up (va_up f5 640 0) 641 0) 642 0) 643 0) 644 0)), (a6, zI K 645 (va_up (va_up (va_up (va_up (va_up f6 640 0) 641 0) 642 0) 643 0) 644 0)), (a7, zI K 1935 (va_up (va_up (va_up (va_up (va_up (va_up (va_up (va_up (va_up (va_up (va_up (va_up (va_up (va_up (va_up (va_up (va_up (va_up (va_up (va_up (va_up f7 1920 (-1)) 1921 (-1)) 1922 (-1)) 1923 (-1)) 1924 (-1)) 1925 (-1)) 1926 (-1)) 1927 (-1)) 1928 (-1)) 1926 640) 1927 641) 1928 (-1)) 1929 (-1)) 1930 (-1)) 1931 (-1)) 1932 (-1)) 1933 (-1)) 1934 (-1)) 1932 642) 1933 643) 1934 (-1)))] := hD
  obtain ⟨ff10, y11⟩ : ∃ z, z = ((va_up (va_up (va_up (va_up (va_up f3 640 2) 641 0) 642 4) 643 0) 644 4) : Nat → Int32) := ⟨_, rfl⟩
  rw [← y11] at hP hD
  obtain ⟨ff12, y13⟩ : ∃ z, z = ((va_up (va_up (va_up (va_up (va_up f4 640 (nI j0)) 641 x1) 642 0) 643 x2) 644 0) : Nat → Int32) := ⟨_, rfl⟩
  rw [← y13] at hP hD
  obtain ⟨ff14, y15⟩ : ∃ z, z = ((va_up (va_up (va_up (va_up (va_up f5 640 0) 641 0) 642 0) 643 0) 644 0) : Nat → Int32) := ⟨_, rfl⟩
  rw [← y15] at hP hD
  obtain ⟨ff16, y17⟩ : ∃ z, z = ((va_up (va_up (va_up (va_up (va_up f6 640 0) 641 0) 642 0) 643 0) 644 0) : Nat → Int32) := ⟨_, rfl⟩
  rw [← y17] at hP hD
  obtain ⟨ff18, y19⟩ : ∃ z, z = ((va_up (va_up (va_up (va_up (va_up (va_up (va_up (va_up (va_up (va_up (va_up (va_up (va_up (va_up (va_up (va_up (va_up (va_up (va_up (va_up (va_up f7 1920 (-1)) 1921 (-1)) 1922 (-1)) 1923 (-1)) 1924 (-1)) 1925 (-1)) 1926 (-1)) 1927 (-1)) 1928 (-1)) 1926 640) 1927 641) 1928 (-1)) 1929 (-1)) 1930 (-1)) 1931 (-1)) 1932 (-1)) 1933 (-1)) 1934 (-1)) 1932 642) 1933 643) 1934 (-1)) : Nat → Int32) := ⟨_, rfl⟩
  rw [← y19] at hP hD
  refine lv_istore (lv' := [(8, .int 640), (7, .ref a1), (0, .ref a0), (1, .int (nI j0)), (2, .int 0), (3, .int x1), (4, .int x2), (5, .int x3), (6, .int 0)]) hx hb dX11_run_29 hl (by decide) rfl (fun ls hl => ?_)
  refine lv_aload_n hx hb dX11_run_31 rfl (lv_at hl 2 rfl) ?_
  refine z_get (v := .ref a8) hx hb hg hown hK hP i_X11 rfl 9 rfl 7 (by decide) mt311 e10 dX11_run_32 ?_
  refine lv_aload hx hb dX11_run_35 (lv_at hl 1 rfl) ?_
  refine lv_iload hx hb dX11_run_37 (lv_at hl 0 rfl) ?_
  refine lv_iconst (v := 1) hx hb dX11_run_39 (by decide) ?_
  refine lv_iload hx hb dX11_run_40 (lv_at hl 7 rfl) ?_
  refine z_calli [(a8, zO 1 18 g8), (a9, zO 3 7 g9), (a1, zO 4 6 g1), (a10, zI K 8 f10), (a11, zO 4 6 g11), (a12, zI K 8 f12), (a13, zR K 512 f13), (a14, zO 2 6 g14), (a15, zI K 10 f15), (a2, zO 7 6 g2), (a3, zI K 645 ff10), (a4, zI K 645 ff12), (a16, zI K 8 f16)] [(a0, zO 9 9 g0), (a5, zI K 645 ff14), (a6, zI K 645 ff16), (a7, zI K 1935 ff18)] [0, 1, 10, 2, 3, 4, 5, 6, 7, 11, 12, 13, 8] [9, 14, 15, 16] hP hD hS hA rfl rfl (by decide) (by decide) (by decide +kernel) 4 4203 rfl rfl (fun hPc hDc hF => z_runV (As := [.ref a1, .int 640, .int 1, .int x3]) (rest := []) ⟨hx, hb, hml, hown, hg⟩ (cX1_find_6 l K H.size a8 a1 a9 a10 a11 a12 a13 a14 a15 a2 a3 a4 a16 g8 g9 g1 f10 g11 f12 f13 g14 f15 g2 ff10 ff12 f16 x3 j0 hj0 e11 e12 e13 e14 e15 e16 e17 e18 e19 e20 e21 e22 e23 e24 e25 e26 e27 e28 e29 e30 e31 e32 e33 e34 e35 e36 e37 e38 e3 e4 e5 (zu_of y11 (zu_ne (by decide) (zu_ne (by decide) (zu_ne (by decide) (zu_ne (by decide) zu_eq))))) e6 (zu_of y13 (zu_ne (by decide) (zu_ne (by decide) (zu_ne (by decide) (zu_ne (by decide) zu_eq))))) e39 e40 e41) kV_RX11_138 hd_X1_find rfl rfl ⟨(Nat.le_of_ble_eq_true rfl), (Nat.le_of_ble_eq_true rfl)⟩ hK hS hZ hPc hDc hF 0 rfl rfl rfl hl.1 rfl (Nat.le_of_ble_eq_true rfl) dX11_run_42 ⟨(Nat.le_of_ble_eq_true rfl), (Nat.le_of_ble_eq_true rfl)⟩) (fun r22 u20 H locs w21 hP hD hS => ?_)
  subst w21
  have hP : va_P K.1 classes [(a0, zO 9 9 g0), (a5, zI K 645 ff14), (a6, zI K 645 ff16), (a7, zI K 1935 ff18), (a8, zO 1 18 (va_up (va_up (va_up (va_up (va_up (va_up (va_up (va_up (va_up (va_up (va_up (va_up (va_up (va_up (va_up (va_up (va_up (va_up (va_up (va_up g8 6 (.ref a1)) 7 (.int 1)) 9 (.int x3)) 4 (.int 0)) 5 (.int 0)) 8 (.int 0)) 10 (.int 0)) 13 (.int (-1))) 14 (.int 0)) 16 (.int 6)) 17 (.int 0)) 12 (.int 640)) 11 (.int 0)) 10 (.int 1)) 15 (.long ((1407374883553280 : Int64) ||| (((nI j0).toInt64) &&& (4294967295 : Int64))))) 11 (.int 1)) 16 (.int 5)) 11 (.int 4)) 11 (.int 5)) 11 (.int 6))), (a9, zO 3 7 (va_up (va_up (va_up (va_up (va_up g9 5 (.int 0)) 5 (.int 0)) 3 (.int 1)) 4 (.int 0)) 6 (.int 0))), (a1, zO 4 6 g1), (a10, zI K 8 f10), (a11, zO 4 6 g11), (a12, zI K 8 f12), (a13, zR K 512 (va_up f13 0 (some (u20 0)))), (a14, zO 2 6 (va_up g14 5 (.int 0))), (a15, zI K 10 (va_up (va_up (va_up (va_up (va_up (va_up (va_up (va_up (va_up (va_up (va_up (va_up f15 0 0) 1 0) 2 0) 3 0) 4 0) 5 0) 6 0) 7 0) 8 0) 9 0) 0 1) 6 1)), (a2, zO 7 6 g2), (a3, zI K 645 ff10), (a4, zI K 645 ff12), (a16, zI K 8 f16), ((u20 0), zO 6 3 (va_up (va_up (va_up (fun k => defaultValue (tyX7 k)) 0 (.ref (u20 1))) 1 (.ref (u20 2))) 2 (.ref (u20 3)))), ((u20 1), zJ K 1400 (fun _ => 0)), ((u20 2), zJ K 1400 (fun _ => 0)), ((u20 3), zJ K 1400 (fun _ => 0))] H := hP
  have hD : va_D A [(a0, zO 9 9 g0), (a5, zI K 645 ff14), (a6, zI K 645 ff16), (a7, zI K 1935 ff18), (a8, zO 1 18 (va_up (va_up (va_up (va_up (va_up (va_up (va_up (va_up (va_up (va_up (va_up (va_up (va_up (va_up (va_up (va_up (va_up (va_up (va_up (va_up g8 6 (.ref a1)) 7 (.int 1)) 9 (.int x3)) 4 (.int 0)) 5 (.int 0)) 8 (.int 0)) 10 (.int 0)) 13 (.int (-1))) 14 (.int 0)) 16 (.int 6)) 17 (.int 0)) 12 (.int 640)) 11 (.int 0)) 10 (.int 1)) 15 (.long ((1407374883553280 : Int64) ||| (((nI j0).toInt64) &&& (4294967295 : Int64))))) 11 (.int 1)) 16 (.int 5)) 11 (.int 4)) 11 (.int 5)) 11 (.int 6))), (a9, zO 3 7 (va_up (va_up (va_up (va_up (va_up g9 5 (.int 0)) 5 (.int 0)) 3 (.int 1)) 4 (.int 0)) 6 (.int 0))), (a1, zO 4 6 g1), (a10, zI K 8 f10), (a11, zO 4 6 g11), (a12, zI K 8 f12), (a13, zR K 512 (va_up f13 0 (some (u20 0)))), (a14, zO 2 6 (va_up g14 5 (.int 0))), (a15, zI K 10 (va_up (va_up (va_up (va_up (va_up (va_up (va_up (va_up (va_up (va_up (va_up (va_up f15 0 0) 1 0) 2 0) 3 0) 4 0) 5 0) 6 0) 7 0) 8 0) 9 0) 0 1) 6 1)), (a2, zO 7 6 g2), (a3, zI K 645 ff10), (a4, zI K 645 ff12), (a16, zI K 8 f16), ((u20 0), zO 6 3 (va_up (va_up (va_up (fun k => defaultValue (tyX7 k)) 0 (.ref (u20 1))) 1 (.ref (u20 2))) 2 (.ref (u20 3)))), ((u20 1), zJ K 1400 (fun _ => 0)), ((u20 2), zJ K 1400 (fun _ => 0)), ((u20 3), zJ K 1400 (fun _ => 0))] := hD
  obtain ⟨gg23, y24⟩ : ∃ z, z = ((va_up (va_up (va_up (va_up (va_up (va_up (va_up (va_up (va_up (va_up (va_up (va_up (va_up (va_up (va_up (va_up (va_up (va_up (va_up (va_up g8 6 (.ref a1)) 7 (.int 1)) 9 (.int x3)) 4 (.int 0)) 5 (.int 0)) 8 (.int 0)) 10 (.int 0)) 13 (.int (-1))) 14 (.int 0)) 16 (.int 6)) 17 (.int 0)) 12 (.int 640)) 11 (.int 0)) 10 (.int 1)) 15 (.long ((1407374883553280 : Int64) ||| (((nI j0).toInt64) &&& (4294967295 : Int64))))) 11 (.int 1)) 16 (.int 5)) 11 (.int 4)) 11 (.int 5)) 11 (.int 6)) : Nat → Value) := ⟨_, rfl⟩
  rw [← y24] at hP hD
  obtain ⟨gg25, y26⟩ : ∃ z, z = ((va_up (va_up (va_up (va_up (va_up g9 5 (.int 0)) 5 (.int 0)) 3 (.int 1)) 4 (.int 0)) 6 (.int 0)) : Nat → Value) := ⟨_, rfl⟩
  rw [← y26] at hP hD
  obtain ⟨ff27, y28⟩ : ∃ z, z = ((va_up (va_up (va_up (va_up (va_up (va_up (va_up (va_up (va_up (va_up (va_up (va_up f15 0 0) 1 0) 2 0) 3 0) 4 0) 5 0) 6 0) 7 0) 8 0) 9 0) 0 1) 6 1) : Nat → Int32) := ⟨_, rfl⟩
  rw [← y28] at hP hD
  obtain ⟨gg29, y30⟩ : ∃ z, z = ((va_up (va_up (va_up (fun k => defaultValue (tyX7 k)) 0 (.ref (u20 1))) 1 (.ref (u20 2))) 2 (.ref (u20 3))) : Nat → Value) := ⟨_, rfl⟩
  rw [← y30] at hP hD
  subst y30
  subst y28
  subst y26
  subst y24
  subst y19
  subst y17
  subst y15
  subst y13
  subst y11
  have hP9 : va_P K.1 classes [] H := hP.sub [] rfl
  have hD9 : va_D A [] := hD.sub [] (by decide) rfl
  exact z_iret hx hb hr (fun _ => 0) rfl hP9 hD9 hS (Nat.le_of_ble_eq_true rfl) (Nat.le_of_ble_eq_true rfl) hlocks dX11_run_45
set_option maxHeartbeats 4000000 in
set_option maxRecDepth 100000 in
theorem cL_run_11 (l : Launch) (hl9 : l.stackTraces = false) (K : zK) (sz : Nat) (a0 : Nat) (a1 : Nat) (a2 : Nat) (a3 : Nat) (a4 : Nat) (a5 : Nat) (a6 : Nat) (a7 : Nat) (a8 : Nat) (a9 : Nat) (a10 : Nat) (a11 : Nat) (a12 : Nat) (a13 : Nat) (a14 : Nat) (a15 : Nat) (a16 : Nat) (a17 : Nat) (g0 : Nat → Value) (g2 : Nat → Value) (g3 : Nat → Value) (f4 : Nat → Int32) (f5 : Nat → Int32) (f6 : Nat → Int32) (f7 : Nat → Int32) (f8 : Nat → Int32) (g9 : Nat → Value) (g10 : Nat → Value) (f11 : Nat → Int32) (g12 : Nat → Value) (f13 : Nat → Int32) (f14 : Nat → Option Nat) (g15 : Nat → Value) (f16 : Nat → Int32) (f17 : Nat → Int32) (f1 : Nat → Int64) (j0 : Nat) (hj0 : j0 < 8) (x1 : Int32) (x2 : Int32) (x3 : Int32) (e0 : ¬ x3 < (0 : Int32)) (e1 : x3 < (601 : Int32)) (e2 : g0 3 = (.ref a2)) (e3 : g2 0 = (.ref a3)) (e4 : g3 5 = (.int 645)) (e5 : g3 0 = (.ref a4)) (e6 : g3 1 = (.ref a5)) (e7 : g3 2 = (.ref a6)) (e8 : g3 3 = (.ref a7)) (e9 : g3 4 = (.ref a8)) (e10 : g0 7 = (.ref a9)) (e11 : g9 0 = (.ref a10)) (e12 : g10 6 = (.int 0)) (e13 : g10 4 = (.int 0)) (e14 : g10 0 = (.ref a2)) (e15 : g2 2 = (.ref a11)) (e16 : f11 0 = 0) (e17 : f11 1 = 0) (e18 : f11 2 = 0) (e19 : f11 3 = 0) (e20 : f11 4 = 0) (e21 : f11 5 = 0) (e22 : f11 6 = 0) (e23 : f11 7 = 0) (e24 : g10 1 = (.ref a12)) (e25 : g12 2 = (.ref a13)) (e26 : f13 0 = 0) (e27 : f13 1 = 0) (e28 : f13 2 = 0) (e29 : f13 3 = 0) (e30 : f13 4 = 0) (e31 : f13 5 = 0) (e32 : f13 6 = 0) (e33 : f13 7 = 0) (e34 : g10 3 = (.int 0)) (e35 : g10 2 = (.ref a14)) (e36 : g9 1 = (.ref a15)) (e37 : g9 2 = (.ref a16)) (e38 : ¬ (1 : Int32) = x3) (e39 : ∀ j : Nat, f11 j = 0) (e40 : g2 1 = (.ref a17)) (e41 : ∀ j : Nat, f17 j = 0) : vx_Met l yL_run (Cond.codeWith yL_run cL_run 9 (some .int) [(0, 18, 21, 18), (0, 18, 25, 13)] :: WG) { frames := 6, cells := 4, slots := 4203, locals := 125 } (zPre K [(a0, zO 9 9 g0), (a2, zO 4 6 g2), (a3, zO 7 6 g3), (a4, zI K 645 f4), (a5, zI K 645 f5), (a6, zI K 645 f6), (a7, zI K 645 f7), (a8, zI K 1935 f8), (a9, zO 1 18 g9), (a10, zO 3 7 g10), (a11, zI K 8 f11), (a12, zO 4 6 g12), (a13, zI K 8 f13), (a14, zR K 512 f14), (a15, zO 2 6 g15), (a16, zI K 10 f16), (a17, zI K 8 f17), (a1, zJ K 1 f1)] sz [.ref a0, .int (nI j0), .int 0, .int x1, .int x2, .int x3, .int 0, .ref a1]) (va_Qi (fun (r : Int32) (_ : Nat → Nat) => r = 0) (zB K (va_A [(a0, zO 9 9 g0), (a2, zO 4 6 g2), (a3, zO 7 6 g3), (a4, zI K 645 f4), (a5, zI K 645 f5), (a6, zI K 645 f6), (a7, zI K 645 f7), (a8, zI K 1935 f8), (a9, zO 1 18 g9), (a10, zO 3 7 g10), (a11, zI K 8 f11), (a12, zO 4 6 g12), (a13, zI K 8 f13), (a14, zR K 512 f14), (a15, zO 2 6 g15), (a16, zI K 10 f16), (a17, zI K 8 f17), (a1, zJ K 1 f1)] sz) (fun u : Nat → Nat => [(a1, zJ K 1 (va_up f1 0 5))])) (va_A [(a0, zO 9 9 g0), (a2, zO 4 6 g2), (a3, zO 7 6 g3), (a4, zI K 645 f4), (a5, zI K 645 f5), (a6, zI K 645 f6), (a7, zI K 645 f7), (a8, zI K 1935 f8), (a9, zO 1 18 g9), (a10, zO 3 7 g10), (a11, zI K 8 f11), (a12, zO 4 6 g12), (a13, zI K 8 f13), (a14, zR K 512 f14), (a15, zO 2 6 g15), (a16, zI K 10 f16), (a17, zI K 8 f17), (a1, zJ K 1 f1)] sz)) (vx_X (fun _ : Unit => False) (fun _ _ _ => True) (va_A [(a0, zO 9 9 g0), (a2, zO 4 6 g2), (a3, zO 7 6 g3), (a4, zI K 645 f4), (a5, zI K 645 f5), (a6, zI K 645 f6), (a7, zI K 645 f7), (a8, zI K 1935 f8), (a9, zO 1 18 g9), (a10, zO 3 7 g10), (a11, zI K 8 f11), (a12, zO 4 6 g12), (a13, zI K 8 f13), (a14, zR K 512 f14), (a15, zO 2 6 g15), (a16, zI K 10 f16), (a17, zI K 8 f17), (a1, zJ K 1 f1)] sz)) 4 4203 (va_A [(a0, zO 9 9 g0), (a2, zO 4 6 g2), (a3, zO 7 6 g3), (a4, zI K 645 f4), (a5, zI K 645 f5), (a6, zI K 645 f6), (a7, zI K 645 f7), (a8, zI K 1935 f8), (a9, zO 1 18 g9), (a10, zO 3 7 g10), (a11, zI K 8 f11), (a12, zO 4 6 g12), (a13, zI K 8 f13), (a14, zR K 512 f14), (a15, zO 2 6 g15), (a16, zI K 10 f16), (a17, zI K 8 f17), (a1, zJ K 1 f1)] sz) := by
  refine z_hmet (Qc := fun A => (va_Qi (fun (r : Int32) (_ : Nat → Nat) => r = 0) (zB K A (fun u : Nat → Nat => [(a1, zJ K 1 (va_up f1 0 5))])) A)) (XC := fun A => vx_X (fun _ : Unit => False) (fun _ _ _ => True) A) (by decide +kernel) (Nat.le_of_ble_eq_true rfl) ?_
  intro p e s m args below meth c A ls H hx hb hr hg hown hlocks hml hTab hK hP hD hA hS hZ hl
  have hown : s.vm.findClass RL = some m.cls := hown
  have hl : lv_has ls 9 [(0, .ref a0), (1, .int (nI j0)), (2, .int 0), (3, .int x1), (4, .int x2), (5, .int x3), (6, .int 0), (7, .ref a1)] := hl
  refine lv_aload hx hb dL_run_0 (lv_at hl 7 rfl) ?_
  refine lv_iconst (v := 0) hx hb dL_run_2 (by decide) ?_
  refine lv_aload_n hx hb dL_run_3 rfl (lv_at hl 0 rfl) ?_
  refine lv_iload_n hx hb dL_run_4 rfl (lv_at hl 1 rfl) ?_
  refine lv_iload_n hx hb dL_run_5 rfl (lv_at hl 2 rfl) ?_
  refine lv_iload_n hx hb dL_run_6 rfl (lv_at hl 3 rfl) ?_
  refine lv_iload hx hb dL_run_7 (lv_at hl 4 rfl) ?_
  refine lv_iload hx hb dL_run_9 (lv_at hl 5 rfl) ?_
  refine lv_iload hx hb dL_run_11 (lv_at hl 6 rfl) ?_
  refine z_calli [(a0, zO 9 9 g0), (a2, zO 4 6 g2), (a3, zO 7 6 g3), (a4, zI K 645 f4), (a5, zI K 645 f5), (a6, zI K 645 f6), (a7, zI K 645 f7), (a8, zI K 1935 f8), (a9, zO 1 18 g9), (a10, zO 3 7 g10), (a11, zI K 8 f11), (a12, zO 4 6 g12), (a13, zI K 8 f13), (a14, zR K 512 f14), (a15, zO 2 6 g15), (a16, zI K 10 f16), (a17, zI K 8 f17)] [(a1, zJ K 1 f1)] [0, 1, 2, 3, 4, 5, 6, 7, 8, 9, 10, 11, 12, 13, 14, 15, 16] [17] hP hD hS hA rfl rfl (by decide) (by decide) (by decide +kernel) 4 4203 rfl rfl (fun hPc hDc hF => z_runV (As := [.int (nI j0), .int 0, .int x1, .int x2, .int x3, .int 0]) (rest := [.int 0, .ref a1]) ⟨hx, hb, hml, hown, hg⟩ (cX11_run_11 l K H.size a0 a2 a3 a4 a5 a6 a7 a8 a9 a10 a11 a12 a13 a14 a15 a16 a17 g0 g2 g3 f4 f5 f6 f7 f8 g9 g10 f11 g12 f13 f14 g15 f16 f17 j0 hj0 x1 x2 x3 e0 e1 e2 e3 e4 e5 e6 e7 e8 e9 e10 e11 e12 e13 e14 e15 e16 e17 e18 e19 e20 e21 e22 e23 e24 e25 e26 e27 e28 e29 e30 e31 e32 e33 e34 e35 e36 e37 e38 e39 e40 e41) kV_RL_73 hd_X11_run rfl rfl ⟨(Nat.le_of_ble_eq_true rfl), (Nat.le_of_ble_eq_true rfl)⟩ hK hS hZ hPc hDc hF 0 rfl rfl rfl hl.1 rfl (Nat.le_of_ble_eq_true rfl) dL_run_13 ⟨(Nat.le_of_ble_eq_true rfl), (Nat.le_of_ble_eq_true rfl)⟩) (fun r3 u1 H locs w2 hP hD hS => ?_)
  subst w2
  have hP : va_P K.1 classes [(a1, zJ K 1 f1)] H := hP
  have hD : va_D A [(a1, zJ K 1 f1)] := hD
  refine lv_i2l hx hb dL_run_16 rfl ?_
  refine z_cstl (v := 5) (by decide +kernel) ?_
  refine z_last (j := 0) hx hb hK hP hD hS 0 rfl rfl (Nat.le_of_ble_eq_true rfl) (Nat.le_of_ble_eq_true rfl) dL_run_17 (fun ff4 H locs y5 hP hD hS => ?_)
  have hP : va_P K.1 classes [(a1, zJ K 1 ff4)] H := hP
  have hD : va_D A [(a1, zJ K 1 ff4)] := hD
  refine lv_goto (tgt := 29) hx hb dL_run_18 (by decide) ?_
  refine lv_iconst (v := 0) hx hb dL_run_29 (by decide) ?_
  subst y5
  have hP9 : va_P K.1 classes [(a1, zJ K 1 (va_up f1 0 5))] H := hP.sub [0] rfl
  have hD9 : va_D A [(a1, zJ K 1 (va_up f1 0 5))] := hD.sub [0] (by decide) rfl
  exact z_iret hx hb hr (fun _ => 0) rfl hP9 hD9 hS (Nat.le_of_ble_eq_true rfl) (Nat.le_of_ble_eq_true rfl) hlocks dL_run_30
set_option maxHeartbeats 4000000 in
set_option maxRecDepth 100000 in
theorem cX12_settles_1 (l : Launch) (K : zK) (sz : Nat) (a0 : Nat) (a1 : Nat) (a2 : Nat) (g0 : Nat → Value) (f1 : Nat → Int32) (f2 : Nat → Int32) (j0 : Nat) (hj0 : j0 < 8) (e0 : g0 33 = (.ref a1)) (e1 : ∀ j : Nat, f1 j = 0) (e2 : g0 14 = (.ref a2)) (e3 : ∀ j : Nat, f2 j = 0) : Met l yX12_settles (Cond.code yX12_settles cX12_settles 3 none :: WG) { frames := 0, cells := 0, slots := 0, locals := 0 } (zPre K [(a0, zO 10 83 g0), (a1, zI K 60000 f1), (a2, zI K 16 f2)] sz [.ref a0, .int (nI j0)]) (va_Qv (fun _ : Nat → Nat => True) (zB K (va_A [(a0, zO 10 83 g0), (a1, zI K 60000 f1), (a2, zI K 16 f2)] sz) (fun u : Nat → Nat => [(a0, zO 10 83 g0), (a1, zI K 60000 f1), (a2, zI K 16 f2)])) (va_A [(a0, zO 10 83 g0), (a1, zI K 60000 f1), (a2, zI K 16 f2)] sz)) 0 0 (va_A [(a0, zO 10 83 g0), (a1, zI K 60000 f1), (a2, zI K 16 f2)] sz) := by
  refine z_met (Qc := fun A => (va_Qv (fun _ : Nat → Nat => True) (zB K A (fun u : Nat → Nat => [(a0, zO 10 83 g0), (a1, zI K 60000 f1), (a2, zI K 16 f2)])) A)) (by decide +kernel) (Nat.le_of_ble_eq_true rfl) ?_
  intro p e s m args below meth c A ls H hx hb hr hg hown hlocks hml hin hK hP hD hA hS hZ hl
  have hown : s.vm.findClass RX12 = some m.cls := hown
  have hl : lv_has ls 3 [(0, .ref a0), (1, .int (nI j0))] := hl
  refine lv_iload_n hx hb dX12_settles_0 rfl (lv_at hl 1 rfl) ?_
  refine lv_bipush (v := 16) hx hb dX12_settles_1 (by decide) ?_
  refine lv_icmp_ge (tgt := 54) hx hb dX12_settles_3 (by decide) (fun c => absurd c ((by decide : ∀ j, j < 8 → ¬ ((16 : Int32) ≤ (nI j))) j0 hj0)) (fun _ => ?_)
  refine lv_aload_n hx hb dX12_settles_6 rfl (lv_at hl 0 rfl) ?_
  refine z_get (v := .ref a1) hx hb hg hown hK hP i_X12 rfl 0 rfl 33 (by decide) mt1313 e0 dX12_settles_7 ?_
  refine lv_iload_n hx hb dX12_settles_10 rfl (lv_at hl 1 rfl) ?_
  refine z_iald (v := 0) (j := j0) hx hb hK hP 1 rfl rfl (Nat.lt_of_lt_of_le hj0 (Nat.le_of_ble_eq_true rfl)) (Nat.le_of_ble_eq_true rfl) (e1 j0) dX12_settles_11 ?_
  refine lv_if_ne (tgt := 54) hx hb dX12_settles_12 (by decide) (fun c => absurd (by decide) c) (fun _ => ?_)
  refine lv_aload_n hx hb dX12_settles_15 rfl (lv_at hl 0 rfl) ?_
  refine z_get (v := .ref a2) hx hb hg hown hK hP i_X12 rfl 0 rfl 14 (by decide) mt1294 e2 dX12_settles_16 ?_
  refine lv_iload_n hx hb dX12_settles_19 rfl (lv_at hl 1 rfl) ?_
  refine z_iald (v := 0) (j := j0) hx hb hK hP 2 rfl rfl (Nat.lt_of_lt_of_le hj0 (Nat.le_of_ble_eq_true rfl)) (Nat.le_of_ble_eq_true rfl) (e3 j0) dX12_settles_20 ?_
  refine lv_if_le (tgt := 54) hx hb dX12_settles_21 (by decide) (fun _ => ?_) (fun c => absurd (by decide) c)
  have hP9 : va_P K.1 classes [(a0, zO 10 83 g0), (a1, zI K 60000 f1), (a2, zI K 16 f2)] H := hP.sub [0, 1, 2] rfl
  have hD9 : va_D A [(a0, zO 10 83 g0), (a1, zI K 60000 f1), (a2, zI K 16 f2)] := hD.sub [0, 1, 2] (by decide) rfl
  exact z_vret hx hb hr (fun _ => 0) trivial hP9 hD9 hS (Nat.le_of_ble_eq_true rfl) (Nat.le_of_ble_eq_true rfl) hlocks dX12_settles_54
set_option maxHeartbeats 4000000 in
set_option maxRecDepth 100000 in
theorem cX12_stops_2 (l : Launch) (K : zK) (sz : Nat) (a0 : Nat) (g0 : Nat → Value) (e0 : g0 72 = (.int 0)) : Met l yX12_stops (Cond.code yX12_stops cX12_stops 2 none :: WG) { frames := 0, cells := 0, slots := 0, locals := 0 } (zPre K [(a0, zO 10 83 g0)] sz [.ref a0, .int 5]) (va_Qv (fun _ : Nat → Nat => True) (zB K (va_A [(a0, zO 10 83 g0)] sz) (fun u : Nat → Nat => [(a0, zO 10 83 (va_up g0 61 (.int 5)))])) (va_A [(a0, zO 10 83 g0)] sz)) 0 0 (va_A [(a0, zO 10 83 g0)] sz) := by
  refine z_met (Qc := fun A => (va_Qv (fun _ : Nat → Nat => True) (zB K A (fun u : Nat → Nat => [(a0, zO 10 83 (va_up g0 61 (.int 5)))])) A)) (by decide +kernel) (Nat.le_of_ble_eq_true rfl) ?_
  intro p e s m args below meth c A ls H hx hb hr hg hown hlocks hml hin hK hP hD hA hS hZ hl
  have hown : s.vm.findClass RX12 = some m.cls := hown
  have hl : lv_has ls 2 [(0, .ref a0), (1, .int 5)] := hl
  refine lv_aload_n hx hb dX12_stops_0 rfl (lv_at hl 0 rfl) ?_
  refine lv_iload_n hx hb dX12_stops_1 rfl (lv_at hl 1 rfl) ?_
  refine z_put hx hb hg hown hK hP hD hS i_X12 rfl tyX12_ok nmX12 0 rfl 61 (by decide) mt1341 rfl rfl rfl dX12_stops_2 (fun gg1 H locs y2 hP hD hS => ?_)
  have hP : va_P K.1 classes [(a0, zO 10 83 gg1)] H := hP
  have hD : va_D A [(a0, zO 10 83 gg1)] := hD
  refine lv_aload_n hx hb dX12_stops_5 rfl (lv_at hl 0 rfl) ?_
  refine z_get (v := .int 0) hx hb hg hown hK hP i_X12 rfl 0 rfl 72 (by decide) mt1352 (zu_of y2 (zu_ne (by decide) e0)) dX12_stops_6 ?_
  refine lv_if_le (tgt := 54) hx hb dX12_stops_9 (by decide) (fun _ => ?_) (fun c => absurd (by decide) c)
  subst y2
  have hP9 : va_P K.1 classes [(a0, zO 10 83 (va_up g0 61 (.int 5)))] H := hP.sub [0] rfl
  have hD9 : va_D A [(a0, zO 10 83 (va_up g0 61 (.int 5)))] := hD.sub [0] (by decide) rfl
  exact z_vret hx hb hr (fun _ => 0) trivial hP9 hD9 hS (Nat.le_of_ble_eq_true rfl) (Nat.le_of_ble_eq_true rfl) hlocks dX12_stops_54
set_option maxHeartbeats 4000000 in
set_option maxRecDepth 100000 in
theorem cX12_findsCell_1 (l : Launch) (K : zK) (sz : Nat) (a0 : Nat) (a1 : Nat) (a2 : Nat) (g0 : Nat → Value) (f1 : Nat → Int32) (f2 : Nat → Int32) (j0 : Nat) (hj0 : j0 < 8) (e0 : g0 33 = (.ref a1)) (e1 : ∀ j : Nat, f1 j = 0) (e2 : g0 14 = (.ref a2)) (e3 : ∀ j : Nat, f2 j = 0) (e4 : g0 72 = (.int 0)) : Met l yX12_findsCell (Cond.code yX12_findsCell cX12_findsCell 4 none :: WG) { frames := 1, cells := 0, slots := 0, locals := 22 } (zPre K [(a0, zO 10 83 g0), (a1, zI K 60000 f1), (a2, zI K 16 f2)] sz [.ref a0, .int (nI j0)]) (va_Qv (fun _ : Nat → Nat => True) (zB K (va_A [(a0, zO 10 83 g0), (a1, zI K 60000 f1), (a2, zI K 16 f2)] sz) (fun u : Nat → Nat => [(a0, zO 10 83 (va_up g0 61 (.int 5))), (a1, zI K 60000 f1), (a2, zI K 16 f2)])) (va_A [(a0, zO 10 83 g0), (a1, zI K 60000 f1), (a2, zI K 16 f2)] sz)) 0 0 (va_A [(a0, zO 10 83 g0), (a1, zI K 60000 f1), (a2, zI K 16 f2)] sz) := by
  refine z_met (Qc := fun A => (va_Qv (fun _ : Nat → Nat => True) (zB K A (fun u : Nat → Nat => [(a0, zO 10 83 (va_up g0 61 (.int 5))), (a1, zI K 60000 f1), (a2, zI K 16 f2)])) A)) (by decide +kernel) (Nat.le_of_ble_eq_true rfl) ?_
  intro p e s m args below meth c A ls H hx hb hr hg hown hlocks hml hin hK hP hD hA hS hZ hl
  have hown : s.vm.findClass RX12 = some m.cls := hown
  have hl : lv_has ls 4 [(0, .ref a0), (1, .int (nI j0))] := hl
  refine lv_aload_n hx hb dX12_findsCell_0 rfl (lv_at hl 0 rfl) ?_
  refine lv_iload_n hx hb dX12_findsCell_1 rfl (lv_at hl 1 rfl) ?_
  refine z_callv [(a0, zO 10 83 g0), (a1, zI K 60000 f1), (a2, zI K 16 f2)] [] [0, 1, 2] [] hP hD hS hA rfl rfl (by decide) (by decide) (by decide +kernel) 0 0 rfl rfl (fun hPc hDc hF => z_runV (As := [.int (nI j0)]) (rest := []) ⟨hx, hb, hml, hown, hg⟩ (cX12_settles_1 l K H.size a0 a1 a2 g0 f1 f2 j0 hj0 e0 e1 e2 e3) kV_RX12_428 hd_X12_settles rfl rfl ⟨(Nat.le_of_ble_eq_true rfl), (Nat.le_of_ble_eq_true rfl)⟩ hK hS hZ hPc hDc hF 0 rfl rfl rfl hl.1 rfl (Nat.le_of_ble_eq_true rfl) dX12_findsCell_2 ⟨(Nat.le_of_ble_eq_true rfl), (Nat.le_of_ble_eq_true rfl)⟩) (fun u1 H locs w2 hP hD hS => ?_)
  have hP : va_P K.1 classes [(a0, zO 10 83 g0), (a1, zI K 60000 f1), (a2, zI K 16 f2)] H := hP
  have hD : va_D A [(a0, zO 10 83 g0), (a1, zI K 60000 f1), (a2, zI K 16 f2)] := hD
  refine lv_iload_n hx hb dX12_findsCell_5 rfl (lv_at hl 1 rfl) ?_
  refine lv_bipush (v := 16) hx hb dX12_findsCell_6 (by decide) ?_
  refine lv_icmp_ge (tgt := 15) hx hb dX12_findsCell_8 (by decide) (fun c => absurd c ((by decide : ∀ j, j < 8 → ¬ ((16 : Int32) ≤ (nI j))) j0 hj0)) (fun _ => ?_)
  refine lv_iconst (v := 1) hx hb dX12_findsCell_11 (by decide) ?_
  refine lv_goto (tgt := 16) hx hb dX12_findsCell_12 (by decide) ?_
  refine lv_istore_n (lv' := [(2, .int 1), (0, .ref a0), (1, .int (nI j0))]) hx hb dX12_findsCell_16 rfl hl (by decide) rfl (fun ls hl => ?_)
  refine lv_iload_n hx hb dX12_findsCell_17 rfl (lv_at hl 0 rfl) ?_
  refine lv_if_eq (tgt := 49) hx hb dX12_findsCell_18 (by decide) (fun c => absurd c (by decide)) (fun _ => ?_)
  refine lv_aload_n hx hb dX12_findsCell_21 rfl (lv_at hl 1 rfl) ?_
  refine z_get (v := .ref a2) hx hb hg hown hK hP i_X12 rfl 0 rfl 14 (by decide) mt1294 e2 dX12_findsCell_22 ?_
  refine lv_iload_n hx hb dX12_findsCell_25 rfl (lv_at hl 2 rfl) ?_
  refine z_iald (v := 0) (j := j0) hx hb hK hP 2 rfl rfl (Nat.lt_of_lt_of_le hj0 (Nat.le_of_ble_eq_true rfl)) (Nat.le_of_ble_eq_true rfl) (e3 j0) dX12_findsCell_26 ?_
  refine lv_if_le (tgt := 49) hx hb dX12_findsCell_27 (by decide) (fun _ => ?_) (fun c => absurd (by decide) c)
  refine lv_iconst (v := 0) hx hb dX12_findsCell_49 (by decide) ?_
  refine lv_istore_n (lv' := [(3, .int 0), (2, .int 1), (0, .ref a0), (1, .int (nI j0))]) hx hb dX12_findsCell_50 rfl hl (by decide) rfl (fun ls hl => ?_)
  refine lv_aload_n hx hb dX12_findsCell_51 rfl (lv_at hl 2 rfl) ?_
  refine z_get (v := .ref a1) hx hb hg hown hK hP i_X12 rfl 0 rfl 33 (by decide) mt1313 e0 dX12_findsCell_52 ?_
  refine lv_iload_n hx hb dX12_findsCell_55 rfl (lv_at hl 3 rfl) ?_
  refine z_iald (v := 0) (j := j0) hx hb hK hP 1 rfl rfl (Nat.lt_of_lt_of_le hj0 (Nat.le_of_ble_eq_true rfl)) (Nat.le_of_ble_eq_true rfl) (e1 j0) dX12_findsCell_56 ?_
  refine lv_iconst (v := 2) hx hb dX12_findsCell_57 (by decide) ?_
  refine lv_icmp_ne (tgt := 101) hx hb dX12_findsCell_58 (by decide) (fun _ => ?_) (fun c => absurd c (by decide))
  refine lv_aload_n hx hb dX12_findsCell_101 rfl (lv_at hl 2 rfl) ?_
  refine z_get (v := .ref a1) hx hb hg hown hK hP i_X12 rfl 0 rfl 33 (by decide) mt1313 e0 dX12_findsCell_102 ?_
  refine lv_iload_n hx hb dX12_findsCell_105 rfl (lv_at hl 3 rfl) ?_
  refine z_iald (v := 0) (j := j0) hx hb hK hP 1 rfl rfl (Nat.lt_of_lt_of_le hj0 (Nat.le_of_ble_eq_true rfl)) (Nat.le_of_ble_eq_true rfl) (e1 j0) dX12_findsCell_106 ?_
  refine lv_iconst (v := 1) hx hb dX12_findsCell_107 (by decide) ?_
  refine lv_icmp_ne (tgt := 119) hx hb dX12_findsCell_108 (by decide) (fun _ => ?_) (fun c => absurd c (by decide))
  refine lv_iload_n hx hb dX12_findsCell_119 rfl (lv_at hl 1 rfl) ?_
  refine lv_if_eq (tgt := 140) hx hb dX12_findsCell_120 (by decide) (fun c => absurd c (by decide)) (fun _ => ?_)
  refine lv_aload_n hx hb dX12_findsCell_123 rfl (lv_at hl 2 rfl) ?_
  refine z_get (v := .ref a2) hx hb hg hown hK hP i_X12 rfl 0 rfl 14 (by decide) mt1294 e2 dX12_findsCell_124 ?_
  refine lv_iload_n hx hb dX12_findsCell_127 rfl (lv_at hl 3 rfl) ?_
  refine z_iald (v := 0) (j := j0) hx hb hK hP 2 rfl rfl (Nat.lt_of_lt_of_le hj0 (Nat.le_of_ble_eq_true rfl)) (Nat.le_of_ble_eq_true rfl) (e3 j0) dX12_findsCell_128 ?_
  refine lv_if_ne (tgt := 140) hx hb dX12_findsCell_129 (by decide) (fun c => absurd (by decide) c) (fun _ => ?_)
  refine lv_aload_n hx hb dX12_findsCell_132 rfl (lv_at hl 2 rfl) ?_
  refine lv_iconst (v := 5) hx hb dX12_findsCell_133 (by decide) ?_
  refine z_callv [(a0, zO 10 83 g0)] [(a1, zI K 60000 f1), (a2, zI K 16 f2)] [0] [1, 2] hP hD hS hA rfl rfl (by decide) (by decide) (by decide +kernel) 0 0 rfl rfl (fun hPc hDc hF => z_runV (As := [.int 5]) (rest := []) ⟨hx, hb, hml, hown, hg⟩ (cX12_stops_2 l K H.size a0 g0 e4) kV_RX12_434 hd_X12_stops rfl rfl ⟨(Nat.le_of_ble_eq_true rfl), (Nat.le_of_ble_eq_true rfl)⟩ hK hS hZ hPc hDc hF 0 rfl rfl rfl hl.1 rfl (Nat.le_of_ble_eq_true rfl) dX12_findsCell_134 ⟨(Nat.le_of_ble_eq_true rfl), (Nat.le_of_ble_eq_true rfl)⟩) (fun u4 H locs w5 hP hD hS => ?_)
  have hP : va_P K.1 classes [(a1, zI K 60000 f1), (a2, zI K 16 f2), (a0, zO 10 83 (va_up g0 61 (.int 5)))] H := hP
  have hD : va_D A [(a1, zI K 60000 f1), (a2, zI K 16 f2), (a0, zO 10 83 (va_up g0 61 (.int 5)))] := hD
  refine lv_goto (tgt := 210) hx hb dX12_findsCell_137 (by decide) ?_
  have hP9 : va_P K.1 classes [(a0, zO 10 83 (va_up g0 61 (.int 5))), (a1, zI K 60000 f1), (a2, zI K 16 f2)] H := hP.sub [2, 0, 1] rfl
  have hD9 : va_D A [(a0, zO 10 83 (va_up g0 61 (.int 5))), (a1, zI K 60000 f1), (a2, zI K 16 f2)] := hD.sub [2, 0, 1] (by decide) rfl
  exact z_vret hx hb hr (fun _ => 0) trivial hP9 hD9 hS (Nat.le_of_ble_eq_true rfl) (Nat.le_of_ble_eq_true rfl) hlocks dX12_findsCell_210
set_option maxHeartbeats 4000000 in
set_option maxRecDepth 100000 in
theorem cX12_steps_2 (l : Launch) (K : zK) (sz : Nat) (a0 : Nat) (a1 : Nat) (a2 : Nat) (a3 : Nat) (a4 : Nat) (a5 : Nat) (g0 : Nat → Value) (f1 : Nat → Int32) (f2 : Nat → Int32) (f3 : Nat → Int32) (f4 : Nat → Int32) (f5 : Nat → Int32) (x0 : Int32) (j1 : Nat) (hj1 : j1 < 8) (e0 : g0 58 = (.int 0)) (e1 : g0 59 = (.int 600)) (e2 : g0 57 = (.int 0)) (e3 : g0 60 = (.int x0)) (e4 : ¬ (1 : Int32) = x0) (e5 : g0 80 = (.ref a1)) (e6 : g0 64 = (.int 0)) (e7 : f1 6 = 0) (e8 : g0 8 = (.ref a2)) (e9 : g0 62 = (.int 1280)) (e10 : f2 1280 = 2) (e11 : g0 55 = (.int 0)) (e12 : g0 9 = (.ref a3)) (e13 : f3 1280 = (nI j1)) (e14 : g0 33 = (.ref a4)) (e15 : ∀ j : Nat, f4 j = 0) (e16 : g0 14 = (.ref a5)) (e17 : ∀ j : Nat, f5 j = 0) (e18 : g0 72 = (.int 0)) : Met l yX12_steps (Cond.code yX12_steps cX12_steps 1 none :: WG) { frames := 2, cells := 0, slots := 0, locals := 45 } (zPre K [(a0, zO 10 83 g0), (a1, zI K 10 f1), (a2, zI K 1290 f2), (a3, zI K 1290 f3), (a4, zI K 60000 f4), (a5, zI K 16 f5)] sz [.ref a0]) (va_Qv (fun _ : Nat → Nat => True) (zB K (va_A [(a0, zO 10 83 g0), (a1, zI K 10 f1), (a2, zI K 1290 f2), (a3, zI K 1290 f3), (a4, zI K 60000 f4), (a5, zI K 16 f5)] sz) (fun u : Nat → Nat => [(a0, zO 10 83 (va_up (va_up g0 58 (.int 1)) 61 (.int 5))), (a1, zI K 10 (va_up f1 6 1)), (a2, zI K 1290 f2), (a3, zI K 1290 f3), (a4, zI K 60000 f4), (a5, zI K 16 f5)])) (va_A [(a0, zO 10 83 g0), (a1, zI K 10 f1), (a2, zI K 1290 f2), (a3, zI K 1290 f3), (a4, zI K 60000 f4), (a5, zI K 16 f5)] sz)) 0 0 (va_A [(a0, zO 10 83 g0), (a1, zI K 10 f1), (a2, zI K 1290 f2), (a3, zI K 1290 f3), (a4, zI K 60000 f4), (a5, zI K 16 f5)] sz) := by
  refine z_met (Qc := fun A => (va_Qv (fun _ : Nat → Nat => True) (zB K A (fun u : Nat → Nat => [(a0, zO 10 83 (va_up (va_up g0 58 (.int 1)) 61 (.int 5))), (a1, zI K 10 (va_up f1 6 1)), (a2, zI K 1290 f2), (a3, zI K 1290 f3), (a4, zI K 60000 f4), (a5, zI K 16 f5)])) A)) (by decide +kernel) (Nat.le_of_ble_eq_true rfl) ?_
  intro p e s m args below meth c A ls H hx hb hr hg hown hlocks hml hin hK hP hD hA hS hZ hl
  have hown : s.vm.findClass RX12 = some m.cls := hown
  have hl : lv_has ls 1 [(0, .ref a0)] := hl
  refine lv_aload_n hx hb dX12_steps_0 rfl (lv_at hl 0 rfl) ?_
  refine z_get (v := .int 0) hx hb hg hown hK hP i_X12 rfl 0 rfl 58 (by decide) mt1338 e0 dX12_steps_1 ?_
  refine lv_aload_n hx hb dX12_steps_4 rfl (lv_at hl 0 rfl) ?_
  refine z_get (v := .int 600) hx hb hg hown hK hP i_X12 rfl 0 rfl 59 (by decide) mt1339 e1 dX12_steps_5 ?_
  refine lv_icmp_ne (tgt := 18) hx hb dX12_steps_8 (by decide) (fun _ => ?_) (fun c => absurd c (by decide))
  refine lv_aload_n hx hb dX12_steps_18 rfl (lv_at hl 0 rfl) ?_
  refine z_get (v := .int 0) hx hb hg hown hK hP i_X12 rfl 0 rfl 57 (by decide) mt1337 e2 dX12_steps_19 ?_
  refine lv_if_ne (tgt := 45) hx hb dX12_steps_22 (by decide) (fun c => absurd (by decide) c) (fun _ => ?_)
  refine lv_aload_n hx hb dX12_steps_25 rfl (lv_at hl 0 rfl) ?_
  refine z_get (v := .int 0) hx hb hg hown hK hP i_X12 rfl 0 rfl 58 (by decide) mt1338 e0 dX12_steps_26 ?_
  refine lv_iconst (v := 1) hx hb dX12_steps_29 (by decide) ?_
  refine lv_iadd hx hb dX12_steps_30 ?_
  refine z_cst (v := 1) (by decide +kernel) ?_
  refine lv_aload_n hx hb dX12_steps_31 rfl (lv_at hl 0 rfl) ?_
  refine z_get (v := .int x0) hx hb hg hown hK hP i_X12 rfl 0 rfl 60 (by decide) mt1340 e3 dX12_steps_32 ?_
  refine lv_icmp_ne (tgt := 45) hx hb dX12_steps_35 (by decide) (fun _ => ?_) (fun c => absurd c e4)
  refine lv_aload_n hx hb dX12_steps_45 rfl (lv_at hl 0 rfl) ?_
  refine lv_dup hx hb dX12_steps_46 rfl ?_
  refine z_get (v := .int 0) hx hb hg hown hK hP i_X12 rfl 0 rfl 58 (by decide) mt1338 e0 dX12_steps_47 ?_
  refine lv_iconst (v := 1) hx hb dX12_steps_50 (by decide) ?_
  refine lv_iadd hx hb dX12_steps_51 ?_
  refine z_cst (v := 1) (by decide +kernel) ?_
  refine z_put hx hb hg hown hK hP hD hS i_X12 rfl tyX12_ok nmX12 0 rfl 58 (by decide) mt1338 rfl rfl rfl dX12_steps_52 (fun gg1 H locs y2 hP hD hS => ?_)
  have hP : va_P K.1 classes [(a0, zO 10 83 gg1), (a1, zI K 10 f1), (a2, zI K 1290 f2), (a3, zI K 1290 f3), (a4, zI K 60000 f4), (a5, zI K 16 f5)] H := hP
  have hD : va_D A [(a0, zO 10 83 gg1), (a1, zI K 10 f1), (a2, zI K 1290 f2), (a3, zI K 1290 f3), (a4, zI K 60000 f4), (a5, zI K 16 f5)] := hD
  refine lv_aload_n hx hb dX12_steps_55 rfl (lv_at hl 0 rfl) ?_
  refine z_get (v := .ref a1) hx hb hg hown hK hP i_X12 rfl 0 rfl 80 (by decide) mt1360 (zu_of y2 (zu_ne (by decide) e5)) dX12_steps_56 ?_
  refine lv_bipush (v := 6) hx hb dX12_steps_59 (by decide) ?_
  refine lv_aload_n hx hb dX12_steps_61 rfl (lv_at hl 0 rfl) ?_
  refine z_get (v := .int 0) hx hb hg hown hK hP i_X12 rfl 0 rfl 64 (by decide) mt1344 (zu_of y2 (zu_ne (by decide) e6)) dX12_steps_62 ?_
  refine lv_iadd hx hb dX12_steps_65 ?_
  refine z_cst (v := 6) (by decide +kernel) ?_
  refine lv_dup2_11 hx hb dX12_steps_66 rfl rfl ?_
  refine z_iald (v := 0) (j := 6) hx hb hK hP 1 rfl rfl (Nat.le_of_ble_eq_true rfl) (Nat.le_of_ble_eq_true rfl) e7 dX12_steps_67 ?_
  refine lv_aload_n hx hb dX12_steps_68 rfl (lv_at hl 0 rfl) ?_
  refine z_get (v := .int 0) hx hb hg hown hK hP i_X12 rfl 0 rfl 57 (by decide) mt1337 (zu_of y2 (zu_ne (by decide) e2)) dX12_steps_69 ?_
  refine lv_if_eq (tgt := 79) hx hb dX12_steps_72 (by decide) (fun _ => ?_) (fun c => absurd (by decide) c)
  refine lv_iconst (v := 1) hx hb dX12_steps_79 (by decide) ?_
  refine lv_iadd hx hb dX12_steps_80 ?_
  refine z_cst (v := 1) (by decide +kernel) ?_
  refine z_iast (j := 6) hx hb hK hP hD hS 1 rfl rfl (Nat.le_of_ble_eq_true rfl) (Nat.le_of_ble_eq_true rfl) dX12_steps_81 (fun ff3 H locs y4 hP hD hS => ?_)
  have hP : va_P K.1 classes [(a0, zO 10 83 gg1), (a1, zI K 10 ff3), (a2, zI K 1290 f2), (a3, zI K 1290 f3), (a4, zI K 60000 f4), (a5, zI K 16 f5)] H := hP
  have hD : va_D A [(a0, zO 10 83 gg1), (a1, zI K 10 ff3), (a2, zI K 1290 f2), (a3, zI K 1290 f3), (a4, zI K 60000 f4), (a5, zI K 16 f5)] := hD
  refine lv_aload_n hx hb dX12_steps_82 rfl (lv_at hl 0 rfl) ?_
  refine z_get (v := .ref a2) hx hb hg hown hK hP i_X12 rfl 0 rfl 8 (by decide) mt1288 (zu_of y2 (zu_ne (by decide) e8)) dX12_steps_83 ?_
  refine lv_aload_n hx hb dX12_steps_86 rfl (lv_at hl 0 rfl) ?_
  refine z_get (v := .int 1280) hx hb hg hown hK hP i_X12 rfl 0 rfl 62 (by decide) mt1342 (zu_of y2 (zu_ne (by decide) e9)) dX12_steps_87 ?_
  refine z_iald (v := 2) (j := 1280) hx hb hK hP 2 rfl rfl (Nat.le_of_ble_eq_true rfl) (Nat.le_of_ble_eq_true rfl) e10 dX12_steps_90 ?_
  refine lv_tableIn (off := 171) (tgt := 262) hx hb dX12_steps_91 (by decide) (by decide) (by decide) (by decide) ?_
  refine lv_aload_n hx hb dX12_steps_262 rfl (lv_at hl 0 rfl) ?_
  refine lv_bipush (v := 8) hx hb dX12_steps_263 (by decide) ?_
  refine lv_aload_n hx hb dX12_steps_265 rfl (lv_at hl 0 rfl) ?_
  refine z_get (v := .int 0) hx hb hg hown hK hP i_X12 rfl 0 rfl 55 (by decide) mt1335 (zu_of y2 (zu_ne (by decide) e11)) dX12_steps_266 ?_
  refine lv_imul hx hb dX12_steps_269 ?_
  refine z_cst (v := 0) (by decide +kernel) ?_
  refine lv_aload_n hx hb dX12_steps_270 rfl (lv_at hl 0 rfl) ?_
  refine z_get (v := .ref a3) hx hb hg hown hK hP i_X12 rfl 0 rfl 9 (by decide) mt1289 (zu_of y2 (zu_ne (by decide) e12)) dX12_steps_271 ?_
  refine lv_aload_n hx hb dX12_steps_274 rfl (lv_at hl 0 rfl) ?_
  refine z_get (v := .int 1280) hx hb hg hown hK hP i_X12 rfl 0 rfl 62 (by decide) mt1342 (zu_of y2 (zu_ne (by decide) e9)) dX12_steps_275 ?_
  refine z_iald (v := (nI j1)) (j := 1280) hx hb hK hP 3 rfl rfl (Nat.le_of_ble_eq_true rfl) (Nat.le_of_ble_eq_true rfl) e13 dX12_steps_278 ?_
  refine lv_iadd hx hb dX12_steps_279 ?_
  refine z_cst (v := (nI j1)) ((by decide +kernel : ∀ j, j < 8 → ((0 : Int32) + (nI j)) = (nI j)) j1 hj1) ?_
  refine z_callv [(a0, zO 10 83 gg1), (a4, zI K 60000 f4), (a5, zI K 16 f5)] [(a1, zI K 10 ff3), (a2, zI K 1290 f2), (a3, zI K 1290 f3)] [0, 4, 5] [1, 2, 3] hP hD hS hA rfl rfl (by decide) (by decide) (by decide +kernel) 0 0 rfl rfl (fun hPc hDc hF => z_runV (As := [.int (nI j1)]) (rest := []) ⟨hx, hb, hml, hown, hg⟩ (cX12_findsCell_1 l K H.size a0 a4 a5 gg1 f4 f5 j1 hj1 (zu_of y2 (zu_ne (by decide) e14)) e15 (zu_of y2 (zu_ne (by decide) e16)) e17 (zu_of y2 (zu_ne (by decide) e18))) kV_RX12_452 hd_X12_findsCell rfl rfl ⟨(Nat.le_of_ble_eq_true rfl), (Nat.le_of_ble_eq_true rfl)⟩ hK hS hZ hPc hDc hF 0 rfl rfl rfl hl.1 rfl (Nat.le_of_ble_eq_true rfl) dX12_steps_280 ⟨(Nat.le_of_ble_eq_true rfl), (Nat.le_of_ble_eq_true rfl)⟩) (fun u5 H locs w6 hP hD hS => ?_)
  have hP : va_P K.1 classes [(a1, zI K 10 ff3), (a2, zI K 1290 f2), (a3, zI K 1290 f3), (a0, zO 10 83 (va_up gg1 61 (.int 5))), (a4, zI K 60000 f4), (a5, zI K 16 f5)] H := hP
  have hD : va_D A [(a1, zI K 10 ff3), (a2, zI K 1290 f2), (a3, zI K 1290 f3), (a0, zO 10 83 (va_up gg1 61 (.int 5))), (a4, zI K 60000 f4), (a5, zI K 16 f5)] := hD
  refine lv_goto (tgt := 361) hx hb dX12_steps_283 (by decide) ?_
  subst y4
  subst y2
  have hP9 : va_P K.1 classes [(a0, zO 10 83 (va_up (va_up g0 58 (.int 1)) 61 (.int 5))), (a1, zI K 10 (va_up f1 6 1)), (a2, zI K 1290 f2), (a3, zI K 1290 f3), (a4, zI K 60000 f4), (a5, zI K 16 f5)] H := hP.sub [3, 0, 1, 2, 4, 5] rfl
  have hD9 : va_D A [(a0, zO 10 83 (va_up (va_up g0 58 (.int 1)) 61 (.int 5))), (a1, zI K 10 (va_up f1 6 1)), (a2, zI K 1290 f2), (a3, zI K 1290 f3), (a4, zI K 60000 f4), (a5, zI K 16 f5)] := hD.sub [3, 0, 1, 2, 4, 5] (by decide) rfl
  exact z_vret hx hb hr (fun _ => 0) trivial hP9 hD9 hS (Nat.le_of_ble_eq_true rfl) (Nat.le_of_ble_eq_true rfl) hlocks dX12_steps_361
set_option maxHeartbeats 4000000 in
set_option maxRecDepth 100000 in
theorem cX12_finds_2 (l : Launch) (K : zK) (sz : Nat) (a0 : Nat) (a1 : Nat) (a2 : Nat) (a3 : Nat) (a4 : Nat) (a5 : Nat) (g0 : Nat → Value) (f1 : Nat → Int32) (f2 : Nat → Int32) (f3 : Nat → Int32) (f4 : Nat → Int32) (f5 : Nat → Int32) (x0 : Int32) (j1 : Nat) (hj1 : j1 < 8) (e0 : g0 72 = (.int 0)) (e1 : g0 65 = (.int 0)) (e2 : g0 58 = (.int 0)) (e3 : g0 59 = (.int 600)) (e4 : g0 57 = (.int 0)) (e5 : g0 60 = (.int x0)) (e6 : ¬ (1 : Int32) = x0) (e7 : g0 80 = (.ref a1)) (e8 : g0 64 = (.int 0)) (e9 : f1 6 = 0) (e10 : g0 8 = (.ref a2)) (e11 : g0 62 = (.int 1280)) (e12 : f2 1280 = 2) (e13 : g0 55 = (.int 0)) (e14 : g0 9 = (.ref a3)) (e15 : f3 1280 = (nI j1)) (e16 : g0 33 = (.ref a4)) (e17 : ∀ j : Nat, f4 j = 0) (e18 : g0 14 = (.ref a5)) (e19 : ∀ j : Nat, f5 j = 0) : Met l yX12_finds (Cond.code yX12_finds cX12_finds 1 none :: WG) { frames := 3, cells := 0, slots := 0, locals := 65 } (zPre K [(a0, zO 10 83 g0), (a1, zI K 10 f1), (a2, zI K 1290 f2), (a3, zI K 1290 f3), (a4, zI K 60000 f4), (a5, zI K 16 f5)] sz [.ref a0]) (va_Qv (fun _ : Nat → Nat => True) (zB K (va_A [(a0, zO 10 83 g0), (a1, zI K 10 f1), (a2, zI K 1290 f2), (a3, zI K 1290 f3), (a4, zI K 60000 f4), (a5, zI K 16 f5)] sz) (fun u : Nat → Nat => [(a0, zO 10 83 (va_up (va_up (va_up g0 61 (.int (-1))) 58 (.int 1)) 61 (.int 5))), (a1, zI K 10 (va_up f1 6 1)), (a2, zI K 1290 f2), (a3, zI K 1290 f3), (a4, zI K 60000 f4), (a5, zI K 16 f5)])) (va_A [(a0, zO 10 83 g0), (a1, zI K 10 f1), (a2, zI K 1290 f2), (a3, zI K 1290 f3), (a4, zI K 60000 f4), (a5, zI K 16 f5)] sz)) 0 0 (va_A [(a0, zO 10 83 g0), (a1, zI K 10 f1), (a2, zI K 1290 f2), (a3, zI K 1290 f3), (a4, zI K 60000 f4), (a5, zI K 16 f5)] sz) := by
  refine z_met (Qc := fun A => (va_Qv (fun _ : Nat → Nat => True) (zB K A (fun u : Nat → Nat => [(a0, zO 10 83 (va_up (va_up (va_up g0 61 (.int (-1))) 58 (.int 1)) 61 (.int 5))), (a1, zI K 10 (va_up f1 6 1)), (a2, zI K 1290 f2), (a3, zI K 1290 f3), (a4, zI K 60000 f4), (a5, zI K 16 f5)])) A)) (by decide +kernel) (Nat.le_of_ble_eq_true rfl) ?_
  intro p e s m args below meth c A ls H hx hb hr hg hown hlocks hml hin hK hP hD hA hS hZ hl
  have hown : s.vm.findClass RX12 = some m.cls := hown
  have hl : lv_has ls 1 [(0, .ref a0)] := hl
  refine lv_aload_n hx hb dX12_finds_0 rfl (lv_at hl 0 rfl) ?_
  refine lv_iconst (v := (-1)) hx hb dX12_finds_1 (by decide) ?_
  refine z_put hx hb hg hown hK hP hD hS i_X12 rfl tyX12_ok nmX12 0 rfl 61 (by decide) mt1341 rfl rfl rfl dX12_finds_2 (fun gg1 H locs y2 hP hD hS => ?_)
  have hP : va_P K.1 classes [(a0, zO 10 83 gg1), (a1, zI K 10 f1), (a2, zI K 1290 f2), (a3, zI K 1290 f3), (a4, zI K 60000 f4), (a5, zI K 16 f5)] H := hP
  have hD : va_D A [(a0, zO 10 83 gg1), (a1, zI K 10 f1), (a2, zI K 1290 f2), (a3, zI K 1290 f3), (a4, zI K 60000 f4), (a5, zI K 16 f5)] := hD
  refine lv_aload_n hx hb dX12_finds_5 rfl (lv_at hl 0 rfl) ?_
  refine z_get (v := .int (-1)) hx hb hg hown hK hP i_X12 rfl 0 rfl 61 (by decide) mt1341 (zu_of y2 zu_eq) dX12_finds_6 ?_
  refine lv_iconst (v := (-1)) hx hb dX12_finds_9 (by decide) ?_
  refine lv_icmp_ne (tgt := 48) hx hb dX12_finds_10 (by decide) (fun c => absurd (by decide) c) (fun _ => ?_)
  refine lv_aload_n hx hb dX12_finds_13 rfl (lv_at hl 0 rfl) ?_
  refine z_get (v := .int 0) hx hb hg hown hK hP i_X12 rfl 0 rfl 72 (by decide) mt1352 (zu_of y2 (zu_ne (by decide) e0)) dX12_finds_14 ?_
  refine lv_if_gt (tgt := 27) hx hb dX12_finds_17 (by decide) (fun c => absurd c (by decide)) (fun _ => ?_)
  refine lv_aload_n hx hb dX12_finds_20 rfl (lv_at hl 0 rfl) ?_
  refine z_get (v := .int 0) hx hb hg hown hK hP i_X12 rfl 0 rfl 65 (by decide) mt1345 (zu_of y2 (zu_ne (by decide) e1)) dX12_finds_21 ?_
  refine lv_if_ne (tgt := 48) hx hb dX12_finds_24 (by decide) (fun c => absurd (by decide) c) (fun _ => ?_)
  refine lv_aload_n hx hb dX12_finds_27 rfl (lv_at hl 0 rfl) ?_
  refine z_get (v := .int 0) hx hb hg hown hK hP i_X12 rfl 0 rfl 65 (by decide) mt1345 (zu_of y2 (zu_ne (by decide) e1)) dX12_finds_28 ?_
  refine lv_if_eq (tgt := 41) hx hb dX12_finds_31 (by decide) (fun _ => ?_) (fun c => absurd (by decide) c)
  refine lv_aload_n hx hb dX12_finds_41 rfl (lv_at hl 0 rfl) ?_
  refine z_callv [(a0, zO 10 83 gg1), (a1, zI K 10 f1), (a2, zI K 1290 f2), (a3, zI K 1290 f3), (a4, zI K 60000 f4), (a5, zI K 16 f5)] [] [0, 1, 2, 3, 4, 5] [] hP hD hS hA rfl rfl (by decide) (by decide) (by decide +kernel) 0 0 rfl rfl (fun hPc hDc hF => z_runV (As := []) (rest := []) ⟨hx, hb, hml, hown, hg⟩ (cX12_steps_2 l K H.size a0 a1 a2 a3 a4 a5 gg1 f1 f2 f3 f4 f5 x0 j1 hj1 (zu_of y2 (zu_ne (by decide) e2)) (zu_of y2 (zu_ne (by decide) e3)) (zu_of y2 (zu_ne (by decide) e4)) (zu_of y2 (zu_ne (by decide) e5)) e6 (zu_of y2 (zu_ne (by decide) e7)) (zu_of y2 (zu_ne (by decide) e8)) e9 (zu_of y2 (zu_ne (by decide) e10)) (zu_of y2 (zu_ne (by decide) e11)) e12 (zu_of y2 (zu_ne (by decide) e13)) (zu_of y2 (zu_ne (by decide) e14)) e15 (zu_of y2 (zu_ne (by decide) e16)) e17 (zu_of y2 (zu_ne (by decide) e18)) e19 (zu_of y2 (zu_ne (by decide) e0))) kV_RX12_476 hd_X12_steps rfl rfl ⟨(Nat.le_of_ble_eq_true rfl), (Nat.le_of_ble_eq_true rfl)⟩ hK hS hZ hPc hDc hF 0 rfl rfl rfl hl.1 rfl (Nat.le_of_ble_eq_true rfl) dX12_finds_42 ⟨(Nat.le_of_ble_eq_true rfl), (Nat.le_of_ble_eq_true rfl)⟩) (fun u3 H locs w4 hP hD hS => ?_)
  have hP : va_P K.1 classes [(a0, zO 10 83 (va_up (va_up gg1 58 (.int 1)) 61 (.int 5))), (a1, zI K 10 (va_up f1 6 1)), (a2, zI K 1290 f2), (a3, zI K 1290 f3), (a4, zI K 60000 f4), (a5, zI K 16 f5)] H := hP
  have hD : va_D A [(a0, zO 10 83 (va_up (va_up gg1 58 (.int 1)) 61 (.int 5))), (a1, zI K 10 (va_up f1 6 1)), (a2, zI K 1290 f2), (a3, zI K 1290 f3), (a4, zI K 60000 f4), (a5, zI K 16 f5)] := hD
  obtain ⟨gg6, y7⟩ : ∃ z, z = ((va_up (va_up gg1 58 (.int 1)) 61 (.int 5)) : Nat → Value) := ⟨_, rfl⟩
  rw [← y7] at hP hD
  refine lv_goto (tgt := 5) hx hb dX12_finds_45 (by decide) ?_
  refine lv_aload_n hx hb dX12_finds_5 rfl (lv_at hl 0 rfl) ?_
  refine z_get (v := .int 5) hx hb hg hown hK hP i_X12 rfl 0 rfl 61 (by decide) mt1341 (zu_of y7 zu_eq) dX12_finds_6 ?_
  refine lv_iconst (v := (-1)) hx hb dX12_finds_9 (by decide) ?_
  refine lv_icmp_ne (tgt := 48) hx hb dX12_finds_10 (by decide) (fun _ => ?_) (fun c => absurd c (by decide))
  subst y7
  subst y2
  have hP9 : va_P K.1 classes [(a0, zO 10 83 (va_up (va_up (va_up g0 61 (.int (-1))) 58 (.int 1)) 61 (.int 5))), (a1, zI K 10 (va_up f1 6 1)), (a2, zI K 1290 f2), (a3, zI K 1290 f3), (a4, zI K 60000 f4), (a5, zI K 16 f5)] H := hP.sub [0, 1, 2, 3, 4, 5] rfl
  have hD9 : va_D A [(a0, zO 10 83 (va_up (va_up (va_up g0 61 (.int (-1))) 58 (.int 1)) 61 (.int 5))), (a1, zI K 10 (va_up f1 6 1)), (a2, zI K 1290 f2), (a3, zI K 1290 f3), (a4, zI K 60000 f4), (a5, zI K 16 f5)] := hD.sub [0, 1, 2, 3, 4, 5] (by decide) rfl
  exact z_vret hx hb hr (fun _ => 0) trivial hP9 hD9 hS (Nat.le_of_ble_eq_true rfl) (Nat.le_of_ble_eq_true rfl) hlocks dX12_finds_48
set_option maxHeartbeats 4000000 in
set_option maxRecDepth 100000 in
theorem cX12_begins_4 (l : Launch) (K : zK) (sz : Nat) (a0 : Nat) (a1 : Nat) (a2 : Nat) (a3 : Nat) (a4 : Nat) (a5 : Nat) (a6 : Nat) (a7 : Nat) (a8 : Nat) (a9 : Nat) (a10 : Nat) (a11 : Nat) (a12 : Nat) (a13 : Nat) (a14 : Nat) (g0 : Nat → Value) (f1 : Nat → Int32) (f2 : Nat → Int32) (f3 : Nat → Int32) (f4 : Nat → Int32) (f5 : Nat → Int32) (f6 : Nat → Int32) (f7 : Nat → Int32) (f8 : Nat → Int32) (f9 : Nat → Int32) (f10 : Nat → Int32) (f11 : Nat → Int32) (f12 : Nat → Int32) (f13 : Nat → Int32) (f14 : Nat → Int32) (j0 : Nat) (hj0 : j0 < 8) (x1 : Int32) (x2 : Int32) (x3 : Int32) (e0 : g0 80 = (.ref a1)) (e1 : g0 8 = (.ref a2)) (e2 : g0 9 = (.ref a3)) (e3 : g0 13 = (.ref a4)) (e4 : g0 57 = (.int 0)) (e5 : g0 60 = (.int x3)) (e6 : ¬ (1 : Int32) = x3) (e7 : g0 33 = (.ref a5)) (e8 : ∀ j : Nat, f5 j = 0) (e9 : g0 14 = (.ref a6)) (e10 : ∀ j : Nat, f6 j = 0) (e11 : g0 32 = (.int 16)) (e12 : g0 52 = (.ref a7)) (e13 : g0 40 = (.int 0)) (e14 : g0 46 = (.int 0)) (e15 : g0 53 = (.ref a8)) (e16 : g0 34 = (.ref a9)) (e17 : f9 0 = 0) (e18 : g0 35 = (.ref a10)) (e19 : g0 36 = (.ref a11)) (e20 : g0 37 = (.ref a12)) (e21 : f12 0 = 0) (e22 : g0 38 = (.ref a13)) (e23 : g0 39 = (.ref a14)) (e24 : f14 0 = 0) (e25 : f9 1 = 0) (e26 : f12 1 = 0) (e27 : f14 1 = 0) (e28 : f9 2 = 0) (e29 : f12 2 = 0) (e30 : f14 2 = 0) (e31 : f9 3 = 0) (e32 : f12 3 = 0) (e33 : f14 3 = 0) (e34 : f9 4 = 0) (e35 : f12 4 = 0) (e36 : f14 4 = 0) (e37 : f9 5 = 0) (e38 : f12 5 = 0) (e39 : f14 5 = 0) (e40 : f9 6 = 0) (e41 : f12 6 = 0) (e42 : f14 6 = 0) (e43 : f9 7 = 0) (e44 : f12 7 = 0) (e45 : f14 7 = 0) (e46 : f9 8 = 0) (e47 : f12 8 = 0) (e48 : f14 8 = 0) (e49 : f9 9 = 0) (e50 : f12 9 = 0) (e51 : f14 9 = 0) (e52 : f9 10 = 0) (e53 : f12 10 = 0) (e54 : f14 10 = 0) (e55 : f9 11 = 0) (e56 : f12 11 = 0) (e57 : f14 11 = 0) (e58 : f9 12 = 0) (e59 : f12 12 = 0) (e60 : f14 12 = 0) (e61 : f9 13 = 0) (e62 : f12 13 = 0) (e63 : f14 13 = 0) (e64 : f9 14 = 0) (e65 : f12 14 = 0) (e66 : f14 14 = 0) (e67 : f9 15 = 0) (e68 : f12 15 = 0) (e69 : f14 15 = 0) : Met l yX12_begins (Cond.code yX12_begins cX12_begins 7 (some .int) :: WG) { frames := 4, cells := 0, slots := 0, locals := 85 } (zPre K [(a0, zO 10 83 g0), (a1, zI K 10 f1), (a2, zI K 1290 f2), (a3, zI K 1290 f3), (a4, zI K 1290 f4), (a5, zI K 60000 f5), (a6, zI K 16 f6), (a7, zI K 210000 f7), (a8, zI K 210000 f8), (a9, zI K 60000 f9), (a10, zI K 60000 f10), (a11, zI K 60000 f11), (a12, zI K 60000 f12), (a13, zI K 60000 f13), (a14, zI K 60000 f14)] sz [.ref a0, .int (nI j0), .int 0, .int x1, .int x2, .int 0]) (va_Qi (fun (r : Int32) (_ : Nat → Nat) => r = 5) (zB K (va_A [(a0, zO 10 83 g0), (a1, zI K 10 f1), (a2, zI K 1290 f2), (a3, zI K 1290 f3), (a4, zI K 1290 f4), (a5, zI K 60000 f5), (a6, zI K 16 f6), (a7, zI K 210000 f7), (a8, zI K 210000 f8), (a9, zI K 60000 f9), (a10, zI K 60000 f10), (a11, zI K 60000 f11), (a12, zI K 60000 f12), (a13, zI K 60000 f13), (a14, zI K 60000 f14)] sz) (fun u : Nat → Nat => [(a0, zO 10 83 (va_up (va_up (va_up (va_up (va_up (va_up (va_up (va_up (va_up (va_up (va_up (va_up (va_up (va_up (va_up (va_up (va_up (va_up (va_up (va_up (va_up (va_up (va_up (va_up (va_up (va_up (va_up (va_up (va_up (va_up (va_up (va_up (va_up (va_up (va_up (va_up (va_up (va_up (va_up (va_up (va_up (va_up (va_up (va_up (va_up (va_up (va_up (va_up (va_up g0 79 (.int 0)) 55 (.int 0)) 58 (.int 0)) 59 (.int 600)) 72 (.int 0)) 77 (.int 0)) 62 (.int 1280)) 63 (.int (-1))) 64 (.int 0)) 65 (.int 0)) 61 (.int (-1))) 58 (.int 1)) 61 (.int 5)) 54 (.int 0)) 54 (.int 1)) 54 (.int 2)) 54 (.int 3)) 54 (.int 4)) 54 (.int 5)) 54 (.int 6)) 54 (.int 7)) 54 (.int 8)) 54 (.int 9)) 54 (.int 10)) 54 (.int 11)) 54 (.int 12)) 54 (.int 13)) 54 (.int 14)) 54 (.int 15)) 54 (.int 16)) 54 (.int 15)) 54 (.int 14)) 54 (.int 13)) 54 (.int 12)) 54 (.int 11)) 54 (.int 10)) 54 (.int 9)) 54 (.int 8)) 54 (.int 7)) 54 (.int 6)) 54 (.int 5)) 54 (.int 4)) 54 (.int 3)) 54 (.int 2)) 54 (.int 1)) 54 (.int 0)) 32 (.int 16)) 40 (.int 0)) 46 (.int 0))), (a1, zI K 10 (va_up (va_up (va_up (va_up (va_up (va_up (va_up (va_up (va_up (va_up (va_up (va_up f1 0 0) 1 0) 2 0) 3 0) 4 0) 5 0) 6 0) 7 0) 8 0) 9 0) 6 1) 0 1)), (a2, zI K 1290 (va_up f2 1280 2)), (a3, zI K 1290 (va_up f3 1280 (nI j0))), (a4, zI K 1290 (va_up f4 1280 1281)), (a5, zI K 60000 (va_up (va_up (va_up (va_up (va_up (va_up (va_up (va_up (va_up (va_up (va_up (va_up (va_up (va_up (va_up (va_up f5 0 0) 1 0) 2 0) 3 0) 4 0) 5 0) 6 0) 7 0) 8 0) 9 0) 10 0) 11 0) 12 0) 13 0) 14 0) 15 0)), (a6, zI K 16 f6), (a7, zI K 210000 (va_up (va_up (va_up (va_up (va_up (va_up (va_up (va_up (va_up (va_up (va_up (va_up (va_up (va_up (va_up (va_up (va_up (va_up (va_up (va_up (va_up (va_up (va_up (va_up (va_up (va_up (va_up (va_up (va_up (va_up (va_up (va_up (va_up (va_up (va_up (va_up (va_up (va_up (va_up (va_up (va_up (va_up (va_up (va_up (va_up (va_up (va_up (va_up f7 0 (-1)) 1 (-1)) 2 (-1)) 3 (-1)) 4 (-1)) 5 (-1)) 6 (-1)) 7 (-1)) 8 (-1)) 9 (-1)) 10 (-1)) 11 (-1)) 12 (-1)) 13 (-1)) 14 (-1)) 15 (-1)) 0 0) 1 0) 2 0) 3 0) 4 0) 5 0) 6 0) 7 0) 8 0) 9 0) 10 0) 11 0) 12 0) 13 0) 14 0) 15 0) 0 0) 1 1) 2 2) 3 3) 4 4) 5 5) 6 6) 7 7) 8 8) 9 9) 10 10) 11 11) 12 12) 13 13) 14 14) 15 15)), (a8, zI K 210000 (va_up (va_up (va_up (va_up (va_up (va_up (va_up (va_up (va_up (va_up (va_up (va_up (va_up (va_up (va_up (va_up f8 0 0) 1 1) 2 2) 3 3) 4 4) 5 5) 6 6) 7 7) 8 8) 9 9) 10 10) 11 11) 12 12) 13 13) 14 14) 15 15)), (a9, zI K 60000 (va_up (va_up (va_up (va_up (va_up (va_up (va_up (va_up (va_up (va_up (va_up (va_up (va_up (va_up (va_up (va_up f9 0 0) 1 0) 2 0) 3 0) 4 0) 5 0) 6 0) 7 0) 8 0) 9 0) 10 0) 11 0) 12 0) 13 0) 14 0) 15 0)), (a10, zI K 60000 (va_up (va_up (va_up (va_up (va_up (va_up (va_up (va_up (va_up (va_up (va_up (va_up (va_up (va_up (va_up (va_up f10 0 0) 1 0) 2 0) 3 0) 4 0) 5 0) 6 0) 7 0) 8 0) 9 0) 10 0) 11 0) 12 0) 13 0) 14 0) 15 0)), (a11, zI K 60000 (va_up (va_up (va_up (va_up (va_up (va_up (va_up (va_up (va_up (va_up (va_up (va_up (va_up (va_up (va_up (va_up f11 0 0) 1 0) 2 0) 3 0) 4 0) 5 0) 6 0) 7 0) 8 0) 9 0) 10 0) 11 0) 12 0) 13 0) 14 0) 15 0)), (a12, zI K 60000 (va_up (va_up (va_up (va_up (va_up (va_up (va_up (va_up (va_up (va_up (va_up (va_up (va_up (va_up (va_up (va_up f12 0 0) 1 0) 2 0) 3 0) 4 0) 5 0) 6 0) 7 0) 8 0) 9 0) 10 0) 11 0) 12 0) 13 0) 14 0) 15 0)), (a13, zI K 60000 (va_up (va_up (va_up (va_up (va_up (va_up (va_up (va_up (va_up (va_up (va_up (va_up (va_up (va_up (va_up (va_up f13 0 (-1)) 1 (-1)) 2 (-1)) 3 (-1)) 4 (-1)) 5 (-1)) 6 (-1)) 7 (-1)) 8 (-1)) 9 (-1)) 10 (-1)) 11 (-1)) 12 (-1)) 13 (-1)) 14 (-1)) 15 (-1))), (a14, zI K 60000 (va_up (va_up (va_up (va_up (va_up (va_up (va_up (va_up (va_up (va_up (va_up (va_up (va_up (va_up (va_up (va_up f14 0 0) 1 0) 2 0) 3 0) 4 0) 5 0) 6 0) 7 0) 8 0) 9 0) 10 0) 11 0) 12 0) 13 0) 14 0) 15 0))])) (va_A [(a0, zO 10 83 g0), (a1, zI K 10 f1), (a2, zI K 1290 f2), (a3, zI K 1290 f3), (a4, zI K 1290 f4), (a5, zI K 60000 f5), (a6, zI K 16 f6), (a7, zI K 210000 f7), (a8, zI K 210000 f8), (a9, zI K 60000 f9), (a10, zI K 60000 f10), (a11, zI K 60000 f11), (a12, zI K 60000 f12), (a13, zI K 60000 f13), (a14, zI K 60000 f14)] sz)) 0 0 (va_A [(a0, zO 10 83 g0), (a1, zI K 10 f1), (a2, zI K 1290 f2), (a3, zI K 1290 f3), (a4, zI K 1290 f4), (a5, zI K 60000 f5), (a6, zI K 16 f6), (a7, zI K 210000 f7), (a8, zI K 210000 f8), (a9, zI K 60000 f9), (a10, zI K 60000 f10), (a11, zI K 60000 f11), (a12, zI K 60000 f12), (a13, zI K 60000 f13), (a14, zI K 60000 f14)] sz) := by
  refine z_met (Qc := fun A => (va_Qi (fun (r : Int32) (_ : Nat → Nat) => r = 5) (zB K A (fun u : Nat → Nat => [(a0, zO 10 83 (va_up (va_up (va_up (va_up (va_up (va_up (va_up (va_up (va_up (va_up (va_up (va_up (va_up (va_up (va_up (va_up (va_up (va_up (va_up (va_up (va_up (va_up (va_up (va_up (va_up (va_up (va_up (va_up (va_up (va_up (va_up (va_up (va_up (va_up (va_up (va_up (va_up (va_up (va_up (va_up (va_up (va_up (va_up (va_up (va_up (va_up (va_up (va_up (va_up g0 79 (.int 0)) 55 (.int 0)) 58 (.int 0)) 59 (.int 600)) 72 (.int 0)) 77 (.int 0)) 62 (.int 1280)) 63 (.int (-1))) 64 (.int 0)) 65 (.int 0)) 61 (.int (-1))) 58 (.int 1)) 61 (.int 5)) 54 (.int 0)) 54 (.int 1)) 54 (.int 2)) 54 (.int 3)) 54 (.int 4)) 54 (.int 5)) 54 (.int 6)) 54 (.int 7)) 54 (.int 8)) 54 (.int 9)) 54 (.int 10)) 54 (.int 11)) 54 (.int 12)) 54 (.int 13)) 54 (.int 14)) 54 (.int 15)) 54 (.int 16)) 54 (.int 15)) 54 (.int 14)) 54 (.int 13)) 54 (.int 12)) 54 (.int 11)) 54 (.int 10)) 54 (.int 9)) 54 (.int 8)) 54 (.int 7)) 54 (.int 6)) 54 (.int 5)) 54 (.int 4)) 54 (.int 3)) 54 (.int 2)) 54 (.int 1)) 54 (.int 0)) 32 (.int 16)) 40 (.int 0)) 46 (.int 0))), (a1, zI K 10 (va_up (va_up (va_up (va_up (va_up (va_up (va_up (va_up (va_up (va_up (va_up (va_up f1 0 0) 1 0) 2 0) 3 0) 4 0) 5 0) 6 0) 7 0) 8 0) 9 0) 6 1) 0 1)), (a2, zI K 1290 (va_up f2 1280 2)), (a3, zI K 1290 (va_up f3 1280 (nI j0))), (a4, zI K 1290 (va_up f4 1280 1281)), (a5, zI K 60000 (va_up (va_up (va_up (va_up (va_up (va_up (va_up (va_up (va_up (va_up (va_up (va_up (va_up (va_up (va_up (va_up f5 0 0) 1 0) 2 0) 3 0) 4 0) 5 0) 6 0) 7 0) 8 0) 9 0) 10 0) 11 0) 12 0) 13 0) 14 0) 15 0)), (a6, zI K 16 f6), (a7, zI K 210000 (va_up (va_up (va_up (va_up (va_up (va_up (va_up (va_up (va_up (va_up (va_up (va_up (va_up (va_up (va_up (va_up (va_up (va_up (va_up (va_up (va_up (va_up (va_up (va_up (va_up (va_up (va_up (va_up (va_up (va_up (va_up (va_up (va_up (va_up (va_up (va_up (va_up (va_up (va_up (va_up (va_up (va_up (va_up (va_up (va_up (va_up (va_up (va_up f7 0 (-1)) 1 (-1)) 2 (-1)) 3 (-1)) 4 (-1)) 5 (-1)) 6 (-1)) 7 (-1)) 8 (-1)) 9 (-1)) 10 (-1)) 11 (-1)) 12 (-1)) 13 (-1)) 14 (-1)) 15 (-1)) 0 0) 1 0) 2 0) 3 0) 4 0) 5 0) 6 0) 7 0) 8 0) 9 0) 10 0) 11 0) 12 0) 13 0) 14 0) 15 0) 0 0) 1 1) 2 2) 3 3) 4 4) 5 5) 6 6) 7 7) 8 8) 9 9) 10 10) 11 11) 12 12) 13 13) 14 14) 15 15)), (a8, zI K 210000 (va_up (va_up (va_up (va_up (va_up (va_up (va_up (va_up (va_up (va_up (va_up (va_up (va_up (va_up (va_up (va_up f8 0 0) 1 1) 2 2) 3 3) 4 4) 5 5) 6 6) 7 7) 8 8) 9 9) 10 10) 11 11) 12 12) 13 13) 14 14) 15 15)), (a9, zI K 60000 (va_up (va_up (va_up (va_up (va_up (va_up (va_up (va_up (va_up (va_up (va_up (va_up (va_up (va_up (va_up (va_up f9 0 0) 1 0) 2 0) 3 0) 4 0) 5 0) 6 0) 7 0) 8 0) 9 0) 10 0) 11 0) 12 0) 13 0) 14 0) 15 0)), (a10, zI K 60000 (va_up (va_up (va_up (va_up (va_up (va_up (va_up (va_up (va_up (va_up (va_up (va_up (va_up (va_up (va_up (va_up f10 0 0) 1 0) 2 0) 3 0) 4 0) 5 0) 6 0) 7 0) 8 0) 9 0) 10 0) 11 0) 12 0) 13 0) 14 0) 15 0)), (a11, zI K 60000 (va_up (va_up (va_up (va_up (va_up (va_up (va_up (va_up (va_up (va_up (va_up (va_up (va_up (va_up (va_up (va_up f11 0 0) 1 0) 2 0) 3 0) 4 0) 5 0) 6 0) 7 0) 8 0) 9 0) 10 0) 11 0) 12 0) 13 0) 14 0) 15 0)), (a12, zI K 60000 (va_up (va_up (va_up (va_up (va_up (va_up (va_up (va_up (va_up (va_up (va_up (va_up (va_up (va_up (va_up (va_up f12 0 0) 1 0) 2 0) 3 0) 4 0) 5 0) 6 0) 7 0) 8 0) 9 0) 10 0) 11 0) 12 0) 13 0) 14 0) 15 0)), (a13, zI K 60000 (va_up (va_up (va_up (va_up (va_up (va_up (va_up (va_up (va_up (va_up (va_up (va_up (va_up (va_up (va_up (va_up f13 0 (-1)) 1 (-1)) 2 (-1)) 3 (-1)) 4 (-1)) 5 (-1)) 6 (-1)) 7 (-1)) 8 (-1)) 9 (-1)) 10 (-1)) 11 (-1)) 12 (-1)) 13 (-1)) 14 (-1)) 15 (-1))), (a14, zI K 60000 (va_up (va_up (va_up (va_up (va_up (va_up (va_up (va_up (va_up (va_up (va_up (va_up (va_up (va_up (va_up (va_up f14 0 0) 1 0) 2 0) 3 0) 4 0) 5 0) 6 0) 7 0) 8 0) 9 0) 10 0) 11 0) 12 0) 13 0) 14 0) 15 0))])) A)) (by decide +kernel) (Nat.le_of_ble_eq_true rfl) ?_
  intro p e s m args below meth c A ls H hx hb hr hg hown hlocks hml hin hK hP hD hA hS hZ hl
  have hown : s.vm.findClass RX12 = some m.cls := hown
  have hl : lv_has ls 7 [(0, .ref a0), (1, .int (nI j0)), (2, .int 0), (3, .int x1), (4, .int x2), (5, .int 0)] := hl
  refine lv_iconst (v := 0) hx hb dX12_begins_0 (by decide) ?_
  refine lv_istore (lv' := [(6, .int 0), (0, .ref a0), (1, .int (nI j0)), (2, .int 0), (3, .int x1), (4, .int x2), (5, .int 0)]) hx hb dX12_begins_1 hl (by decide) rfl (fun ls hl => ?_)
  refine lv_iload hx hb dX12_begins_3 (lv_at hl 0 rfl) ?_
  refine lv_bipush (v := 10) hx hb dX12_begins_5 (by decide) ?_
  refine lv_icmp_ge (tgt := 24) hx hb dX12_begins_7 (by decide) (fun c => absurd c (by decide)) (fun _ => ?_)
  refine lv_aload_n hx hb dX12_begins_10 rfl (lv_at hl 1 rfl) ?_
  refine z_get (v := .ref a1) hx hb hg hown hK hP i_X12 rfl 0 rfl 80 (by decide) mt1360 e0 dX12_begins_11 ?_
  refine lv_iload hx hb dX12_begins_14 (lv_at hl 0 rfl) ?_
  refine lv_iconst (v := 0) hx hb dX12_begins_16 (by decide) ?_
  refine z_iast (j := 0) hx hb hK hP hD hS 1 rfl rfl (Nat.le_of_ble_eq_true rfl) (Nat.le_of_ble_eq_true rfl) dX12_begins_17 (fun ff1 H locs y2 hP hD hS => ?_)
  have hP : va_P K.1 classes [(a0, zO 10 83 g0), (a1, zI K 10 ff1), (a2, zI K 1290 f2), (a3, zI K 1290 f3), (a4, zI K 1290 f4), (a5, zI K 60000 f5), (a6, zI K 16 f6), (a7, zI K 210000 f7), (a8, zI K 210000 f8), (a9, zI K 60000 f9), (a10, zI K 60000 f10), (a11, zI K 60000 f11), (a12, zI K 60000 f12), (a13, zI K 60000 f13), (a14, zI K 60000 f14)] H := hP
  have hD : va_D A [(a0, zO 10 83 g0), (a1, zI K 10 ff1), (a2, zI K 1290 f2), (a3, zI K 1290 f3), (a4, zI K 1290 f4), (a5, zI K 60000 f5), (a6, zI K 16 f6), (a7, zI K 210000 f7), (a8, zI K 210000 f8), (a9, zI K 60000 f9), (a10, zI K 60000 f10), (a11, zI K 60000 f11), (a12, zI K 60000 f12), (a13, zI K 60000 f13), (a14, zI K 60000 f14)] := hD
  refine lv_iinc (v := 1) (lv' := [(6, .int 1), (0, .ref a0), (1, .int (nI j0)), (2, .int 0), (3, .int x1), (4, .int x2), (5, .int 0)]) hx hb dX12_begins_18 hl (k := 0) rfl (by decide +kernel) (by decide) rfl (fun ls hl => ?_)
  refine lv_goto (tgt := 3) hx hb dX12_begins_21 (by decide) ?_
  refine lv_iload hx hb dX12_begins_3 (lv_at hl 0 rfl) ?_
  refine lv_bipush (v := 10) hx hb dX12_begins_5 (by decide) ?_
  refine lv_icmp_ge (tgt := 24) hx hb dX12_begins_7 (by decide) (fun c => absurd c (by decide)) (fun _ => ?_)
  refine lv_aload_n hx hb dX12_begins_10 rfl (lv_at hl 1 rfl) ?_
  refine z_get (v := .ref a1) hx hb hg hown hK hP i_X12 rfl 0 rfl 80 (by decide) mt1360 e0 dX12_begins_11 ?_
  refine lv_iload hx hb dX12_begins_14 (lv_at hl 0 rfl) ?_
  refine lv_iconst (v := 0) hx hb dX12_begins_16 (by decide) ?_
  refine z_iast (j := 1) hx hb hK hP hD hS 1 rfl rfl (Nat.le_of_ble_eq_true rfl) (Nat.le_of_ble_eq_true rfl) dX12_begins_17 (fun ff3 H locs y4 hP hD hS => ?_)
  have hP : va_P K.1 classes [(a0, zO 10 83 g0), (a1, zI K 10 ff3), (a2, zI K 1290 f2), (a3, zI K 1290 f3), (a4, zI K 1290 f4), (a5, zI K 60000 f5), (a6, zI K 16 f6), (a7, zI K 210000 f7), (a8, zI K 210000 f8), (a9, zI K 60000 f9), (a10, zI K 60000 f10), (a11, zI K 60000 f11), (a12, zI K 60000 f12), (a13, zI K 60000 f13), (a14, zI K 60000 f14)] H := hP
  have hD : va_D A [(a0, zO 10 83 g0), (a1, zI K 10 ff3), (a2, zI K 1290 f2), (a3, zI K 1290 f3), (a4, zI K 1290 f4), (a5, zI K 60000 f5), (a6, zI K 16 f6), (a7, zI K 210000 f7), (a8, zI K 210000 f8), (a9, zI K 60000 f9), (a10, zI K 60000 f10), (a11, zI K 60000 f11), (a12, zI K 60000 f12), (a13, zI K 60000 f13), (a14, zI K 60000 f14)] := hD
  refine lv_iinc (v := 2) (lv' := [(6, .int 2), (0, .ref a0), (1, .int (nI j0)), (2, .int 0), (3, .int x1), (4, .int x2), (5, .int 0)]) hx hb dX12_begins_18 hl (k := 0) rfl (by decide +kernel) (by decide) rfl (fun ls hl => ?_)
  refine lv_goto (tgt := 3) hx hb dX12_begins_21 (by decide) ?_
  refine lv_iload hx hb dX12_begins_3 (lv_at hl 0 rfl) ?_
  refine lv_bipush (v := 10) hx hb dX12_begins_5 (by decide) ?_
  refine lv_icmp_ge (tgt := 24) hx hb dX12_begins_7 (by decide) (fun c => absurd c (by decide)) (fun _ => ?_)
  refine lv_aload_n hx hb dX12_begins_10 rfl (lv_at hl 1 rfl) ?_
  refine z_get (v := .ref a1) hx hb hg hown hK hP i_X12 rfl 0 rfl 80 (by decide) mt1360 e0 dX12_begins_11 ?_
  refine lv_iload hx hb dX12_begins_14 (lv_at hl 0 rfl) ?_
  refine lv_iconst (v := 0) hx hb dX12_begins_16 (by decide) ?_
  refine z_iast (j := 2) hx hb hK hP hD hS 1 rfl rfl (Nat.le_of_ble_eq_true rfl) (Nat.le_of_ble_eq_true rfl) dX12_begins_17 (fun ff5 H locs y6 hP hD hS => ?_)
  have hP : va_P K.1 classes [(a0, zO 10 83 g0), (a1, zI K 10 ff5), (a2, zI K 1290 f2), (a3, zI K 1290 f3), (a4, zI K 1290 f4), (a5, zI K 60000 f5), (a6, zI K 16 f6), (a7, zI K 210000 f7), (a8, zI K 210000 f8), (a9, zI K 60000 f9), (a10, zI K 60000 f10), (a11, zI K 60000 f11), (a12, zI K 60000 f12), (a13, zI K 60000 f13), (a14, zI K 60000 f14)] H := hP
  have hD : va_D A [(a0, zO 10 83 g0), (a1, zI K 10 ff5), (a2, zI K 1290 f2), (a3, zI K 1290 f3), (a4, zI K 1290 f4), (a5, zI K 60000 f5), (a6, zI K 16 f6), (a7, zI K 210000 f7), (a8, zI K 210000 f8), (a9, zI K 60000 f9), (a10, zI K 60000 f10), (a11, zI K 60000 f11), (a12, zI K 60000 f12), (a13, zI K 60000 f13), (a14, zI K 60000 f14)] := hD
  refine lv_iinc (v := 3) (lv' := [(6, .int 3), (0, .ref a0), (1, .int (nI j0)), (2, .int 0), (3, .int x1), (4, .int x2), (5, .int 0)]) hx hb dX12_begins_18 hl (k := 0) rfl (by decide +kernel) (by decide) rfl (fun ls hl => ?_)
  refine lv_goto (tgt := 3) hx hb dX12_begins_21 (by decide) ?_
  refine lv_iload hx hb dX12_begins_3 (lv_at hl 0 rfl) ?_
  refine lv_bipush (v := 10) hx hb dX12_begins_5 (by decide) ?_
  refine lv_icmp_ge (tgt := 24) hx hb dX12_begins_7 (by decide) (fun c => absurd c (by decide)) (fun _ => ?_)
  refine lv_aload_n hx hb dX12_begins_10 rfl (lv_at hl 1 rfl) ?_
  refine z_get (v := .ref a1) hx hb hg hown hK hP i_X12 rfl 0 rfl 80 (by decide) mt1360 e0 dX12_begins_11 ?_
  refine lv_iload hx hb dX12_begins_14 (lv_at hl 0 rfl) ?_
  refine lv_iconst (v := 0) hx hb dX12_begins_16 (by decide) ?_
  refine z_iast (j := 3) hx hb hK hP hD hS 1 rfl rfl (Nat.le_of_ble_eq_true rfl) (Nat.le_of_ble_eq_true rfl) dX12_begins_17 (fun ff7 H locs y8 hP hD hS => ?_)
  have hP : va_P K.1 classes [(a0, zO 10 83 g0), (a1, zI K 10 ff7), (a2, zI K 1290 f2), (a3, zI K 1290 f3), (a4, zI K 1290 f4), (a5, zI K 60000 f5), (a6, zI K 16 f6), (a7, zI K 210000 f7), (a8, zI K 210000 f8), (a9, zI K 60000 f9), (a10, zI K 60000 f10), (a11, zI K 60000 f11), (a12, zI K 60000 f12), (a13, zI K 60000 f13), (a14, zI K 60000 f14)] H := hP
  have hD : va_D A [(a0, zO 10 83 g0), (a1, zI K 10 ff7), (a2, zI K 1290 f2), (a3, zI K 1290 f3), (a4, zI K 1290 f4), (a5, zI K 60000 f5), (a6, zI K 16 f6), (a7, zI K 210000 f7), (a8, zI K 210000 f8), (a9, zI K 60000 f9), (a10, zI K 60000 f10), (a11, zI K 60000 f11), (a12, zI K 60000 f12), (a13, zI K 60000 f13), (a14, zI K 60000 f14)] := hD
  refine lv_iinc (v := 4) (lv' := [(6, .int 4), (0, .ref a0), (1, .int (nI j0)), (2, .int 0), (3, .int x1), (4, .int x2), (5, .int 0)]) hx hb dX12_begins_18 hl (k := 0) rfl (by decide +kernel) (by decide) rfl (fun ls hl => ?_)
  refine lv_goto (tgt := 3) hx hb dX12_begins_21 (by decide) ?_
  refine lv_iload hx hb dX12_begins_3 (lv_at hl 0 rfl) ?_
  refine lv_bipush (v := 10) hx hb dX12_begins_5 (by decide) ?_
  refine lv_icmp_ge (tgt := 24) hx hb dX12_begins_7 (by decide) (fun c => absurd c (by decide)) (fun _ => ?_)
  refine lv_aload_n hx hb dX12_begins_10 rfl (lv_at hl 1 rfl) ?_
  refine z_get (v := .ref a1) hx hb hg hown hK hP i_X12 rfl 0 rfl 80 (by decide) mt1360 e0 dX12_begins_11 ?_
  refine lv_iload hx hb dX12_begins_14 (lv_at hl 0 rfl) ?_
  refine lv_iconst (v := 0) hx hb dX12_begins_16 (by decide) ?_
  refine z_iast (j := 4) hx hb hK hP hD hS 1 rfl rfl (Nat.le_of_ble_eq_true rfl) (Nat.le_of_ble_eq_true rfl) dX12_begins_17 (fun ff9 H locs y10 hP hD hS => ?_)
  have hP : va_P K.1 classes [(a0, zO 10 83 g0), (a1, zI K 10 ff9), (a2, zI K 1290 f2), (a3, zI K 1290 f3), (a4, zI K 1290 f4), (a5, zI K 60000 f5), (a6, zI K 16 f6), (a7, zI K 210000 f7), (a8, zI K 210000 f8), (a9, zI K 60000 f9), (a10, zI K 60000 f10), (a11, zI K 60000 f11), (a12, zI K 60000 f12), (a13, zI K 60000 f13), (a14, zI K 60000 f14)] H := hP
  have hD : va_D A [(a0, zO 10 83 g0), (a1, zI K 10 ff9), (a2, zI K 1290 f2), (a3, zI K 1290 f3), (a4, zI K 1290 f4), (a5, zI K 60000 f5), (a6, zI K 16 f6), (a7, zI K 210000 f7), (a8, zI K 210000 f8), (a9, zI K 60000 f9), (a10, zI K 60000 f10), (a11, zI K 60000 f11), (a12, zI K 60000 f12), (a13, zI K 60000 f13), (a14, zI K 60000 f14)] := hD
  refine lv_iinc (v := 5) (lv' := [(6, .int 5), (0, .ref a0), (1, .int (nI j0)), (2, .int 0), (3, .int x1), (4, .int x2), (5, .int 0)]) hx hb dX12_begins_18 hl (k := 0) rfl (by decide +kernel) (by decide) rfl (fun ls hl => ?_)
  refine lv_goto (tgt := 3) hx hb dX12_begins_21 (by decide) ?_
  refine lv_iload hx hb dX12_begins_3 (lv_at hl 0 rfl) ?_
  refine lv_bipush (v := 10) hx hb dX12_begins_5 (by decide) ?_
  refine lv_icmp_ge (tgt := 24) hx hb dX12_begins_7 (by decide) (fun c => absurd c (by decide)) (fun _ => ?_)
  refine lv_aload_n hx hb dX12_begins_10 rfl (lv_at hl 1 rfl) ?_
  refine z_get (v := .ref a1) hx hb hg hown hK hP i_X12 rfl 0 rfl 80 (by decide) mt1360 e0 dX12_begins_11 ?_
  refine lv_iload hx hb dX12_begins_14 (lv_at hl 0 rfl) ?_
  refine lv_iconst (v := 0) hx hb dX12_begins_16 (by decide) ?_
  refine z_iast (j := 5) hx hb hK hP hD hS 1 rfl rfl (Nat.le_of_ble_eq_true rfl) (Nat.le_of_ble_eq_true rfl) dX12_begins_17 (fun ff11 H locs y12 hP hD hS => ?_)
  have hP : va_P K.1 classes [(a0, zO 10 83 g0), (a1, zI K 10 ff11), (a2, zI K 1290 f2), (a3, zI K 1290 f3), (a4, zI K 1290 f4), (a5, zI K 60000 f5), (a6, zI K 16 f6), (a7, zI K 210000 f7), (a8, zI K 210000 f8), (a9, zI K 60000 f9), (a10, zI K 60000 f10), (a11, zI K 60000 f11), (a12, zI K 60000 f12), (a13, zI K 60000 f13), (a14, zI K 60000 f14)] H := hP
  have hD : va_D A [(a0, zO 10 83 g0), (a1, zI K 10 ff11), (a2, zI K 1290 f2), (a3, zI K 1290 f3), (a4, zI K 1290 f4), (a5, zI K 60000 f5), (a6, zI K 16 f6), (a7, zI K 210000 f7), (a8, zI K 210000 f8), (a9, zI K 60000 f9), (a10, zI K 60000 f10), (a11, zI K 60000 f11), (a12, zI K 60000 f12), (a13, zI K 60000 f13), (a14, zI K 60000 f14)] := hD
  refine lv_iinc (v := 6) (lv' := [(6, .int 6), (0, .ref a0), (1, .int (nI j0)), (2, .int 0), (3, .int x1), (4, .int x2), (5, .int 0)]) hx hb dX12_begins_18 hl (k := 0) rfl (by decide +kernel) (by decide) rfl (fun ls hl => ?_)
  refine lv_goto (tgt := 3) hx hb dX12_begins_21 (by decide) ?_
  refine lv_iload hx hb dX12_begins_3 (lv_at hl 0 rfl) ?_
  refine lv_bipush (v := 10) hx hb dX12_begins_5 (by decide) ?_
  refine lv_icmp_ge (tgt := 24) hx hb dX12_begins_7 (by decide) (fun c => absurd c (by decide)) (fun _ => ?_)
  refine lv_aload_n hx hb dX12_begins_10 rfl (lv_at hl 1 rfl) ?_
  refine z_get (v := .ref a1) hx hb hg hown hK hP i_X12 rfl 0 rfl 80 (by decide) mt1360 e0 dX12_begins_11 ?_
  refine lv_iload hx hb dX12_begins_14 (lv_at hl 0 rfl) ?_
  refine lv_iconst (v := 0) hx hb dX12_begins_16 (by decide) ?_
  refine z_iast (j := 6) hx hb hK hP hD hS 1 rfl rfl (Nat.le_of_ble_eq_true rfl) (Nat.le_of_ble_eq_true rfl) dX12_begins_17 (fun ff13 H locs y14 hP hD hS => ?_)
  have hP : va_P K.1 classes [(a0, zO 10 83 g0), (a1, zI K 10 ff13), (a2, zI K 1290 f2), (a3, zI K 1290 f3), (a4, zI K 1290 f4), (a5, zI K 60000 f5), (a6, zI K 16 f6), (a7, zI K 210000 f7), (a8, zI K 210000 f8), (a9, zI K 60000 f9), (a10, zI K 60000 f10), (a11, zI K 60000 f11), (a12, zI K 60000 f12), (a13, zI K 60000 f13), (a14, zI K 60000 f14)] H := hP
  have hD : va_D A [(a0, zO 10 83 g0), (a1, zI K 10 ff13), (a2, zI K 1290 f2), (a3, zI K 1290 f3), (a4, zI K 1290 f4), (a5, zI K 60000 f5), (a6, zI K 16 f6), (a7, zI K 210000 f7), (a8, zI K 210000 f8), (a9, zI K 60000 f9), (a10, zI K 60000 f10), (a11, zI K 60000 f11), (a12, zI K 60000 f12), (a13, zI K 60000 f13), (a14, zI K 60000 f14)] := hD
  refine lv_iinc (v := 7) (lv' := [(6, .int 7), (0, .ref a0), (1, .int (nI j0)), (2, .int 0), (3, .int x1), (4, .int x2), (5, .int 0)]) hx hb dX12_begins_18 hl (k := 0) rfl (by decide +kernel) (by decide) rfl (fun ls hl => ?_)
  refine lv_goto (tgt := 3) hx hb dX12_begins_21 (by decide) ?_
  refine lv_iload hx hb dX12_begins_3 (lv_at hl 0 rfl) ?_
  refine lv_bipush (v := 10) hx hb dX12_begins_5 (by decide) ?_
  refine lv_icmp_ge (tgt := 24) hx hb dX12_begins_7 (by decide) (fun c => absurd c (by decide)) (fun _ => ?_)
  refine lv_aload_n hx hb dX12_begins_10 rfl (lv_at hl 1 rfl) ?_
  refine z_get (v := .ref a1) hx hb hg hown hK hP i_X12 rfl 0 rfl 80 (by decide) mt1360 e0 dX12_begins_11 ?_
  refine lv_iload hx hb dX12_begins_14 (lv_at hl 0 rfl) ?_
  refine lv_iconst (v := 0) hx hb dX12_begins_16 (by decide) ?_
  refine z_iast (j := 7) hx hb hK hP hD hS 1 rfl rfl (Nat.le_of_ble_eq_true rfl) (Nat.le_of_ble_eq_true rfl) dX12_begins_17 (fun ff15 H locs y16 hP hD hS => ?_)
  have hP : va_P K.1 classes [(a0, zO 10 83 g0), (a1, zI K 10 ff15), (a2, zI K 1290 f2), (a3, zI K 1290 f3), (a4, zI K 1290 f4), (a5, zI K 60000 f5), (a6, zI K 16 f6), (a7, zI K 210000 f7), (a8, zI K 210000 f8), (a9, zI K 60000 f9), (a10, zI K 60000 f10), (a11, zI K 60000 f11), (a12, zI K 60000 f12), (a13, zI K 60000 f13), (a14, zI K 60000 f14)] H := hP
  have hD : va_D A [(a0, zO 10 83 g0), (a1, zI K 10 ff15), (a2, zI K 1290 f2), (a3, zI K 1290 f3), (a4, zI K 1290 f4), (a5, zI K 60000 f5), (a6, zI K 16 f6), (a7, zI K 210000 f7), (a8, zI K 210000 f8), (a9, zI K 60000 f9), (a10, zI K 60000 f10), (a11, zI K 60000 f11), (a12, zI K 60000 f12), (a13, zI K 60000 f13), (a14, zI K 60000 f14)] := hD
  refine lv_iinc (v := 8) (lv' := [(6, .int 8), (0, .ref a0), (1, .int (nI j0)), (2, .int 0), (3, .int x1), (4, .int x2), (5, .int 0)]) hx hb dX12_begins_18 hl (k := 0) rfl (by decide +kernel) (by decide) rfl (fun ls hl => ?_)
  refine lv_goto (tgt := 3) hx hb dX12_begins_21 (by decide) ?_
  refine lv_iload hx hb dX12_begins_3 (lv_at hl 0 rfl) ?_
  refine lv_bipush (v := 10) hx hb dX12_begins_5 (by decide) ?_
  refine lv_icmp_ge (tgt := 24) hx hb dX12_begins_7 (by decide) (fun c => absurd c (by decide)) (fun _ => ?_)
  refine lv_aload_n hx hb dX12_begins_10 rfl (lv_at hl 1 rfl) ?_
  refine z_get (v := .ref a1) hx hb hg hown hK hP i_X12 rfl 0 rfl 80 (by decide) mt1360 e0 dX12_begins_11 ?_
  refine lv_iload hx hb dX12_begins_14 (lv_at hl 0 rfl) ?_
  refine lv_iconst (v := 0) hx hb dX12_begins_16 (by decide) ?_
  refine z_iast (j := 8) hx hb hK hP hD hS 1 rfl rfl (Nat.le_of_ble_eq_true rfl) (Nat.le_of_ble_eq_true rfl) dX12_begins_17 (fun ff17 H locs y18 hP hD hS => ?_)
  have hP : va_P K.1 classes [(a0, zO 10 83 g0), (a1, zI K 10 ff17), (a2, zI K 1290 f2), (a3, zI K 1290 f3), (a4, zI K 1290 f4), (a5, zI K 60000 f5), (a6, zI K 16 f6), (a7, zI K 210000 f7), (a8, zI K 210000 f8), (a9, zI K 60000 f9), (a10, zI K 60000 f10), (a11, zI K 60000 f11), (a12, zI K 60000 f12), (a13, zI K 60000 f13), (a14, zI K 60000 f14)] H := hP
  have hD : va_D A [(a0, zO 10 83 g0), (a1, zI K 10 ff17), (a2, zI K 1290 f2), (a3, zI K 1290 f3), (a4, zI K 1290 f4), (a5, zI K 60000 f5), (a6, zI K 16 f6), (a7, zI K 210000 f7), (a8, zI K 210000 f8), (a9, zI K 60000 f9), (a10, zI K 60000 f10), (a11, zI K 60000 f11), (a12, zI K 60000 f12), (a13, zI K 60000 f13), (a14, zI K 60000 f14)] := hD
  refine lv_iinc (v := 9) (lv' := [(6, .int 9), (0, .ref a0), (1, .int (nI j0)), (2, .int 0), (3, .int x1), (4, .int x2), (5, .int 0)]) hx hb dX12_begins_18 hl (k := 0) rfl (by decide +kernel) (by decide) rfl (fun ls hl => ?_)
  refine lv_goto (tgt := 3) hx hb dX12_begins_21 (by decide) ?_
  refine lv_iload hx hb dX12_begins_3 (lv_at hl 0 rfl) ?_
  refine lv_bipush (v := 10) hx hb dX12_begins_5 (by decide) ?_
  refine lv_icmp_ge (tgt := 24) hx hb dX12_begins_7 (by decide) (fun c => absurd c (by decide)) (fun _ => ?_)
  refine lv_aload_n hx hb dX12_begins_10 rfl (lv_at hl 1 rfl) ?_
  refine z_get (v := .ref a1) hx hb hg hown hK hP i_X12 rfl 0 rfl 80 (by decide) mt1360 e0 dX12_begins_11 ?_
  refine lv_iload hx hb dX12_begins_14 (lv_at hl 0 rfl) ?_
  refine lv_iconst (v := 0) hx hb dX12_begins_16 (by decide) ?_
  refine z_iast (j := 9) hx hb hK hP hD hS 1 rfl rfl (Nat.le_of_ble_eq_true rfl) (Nat.le_of_ble_eq_true rfl) dX12_begins_17 (fun ff19 H locs y20 hP hD hS => ?_)
  have hP : va_P K.1 classes [(a0, zO 10 83 g0), (a1, zI K 10 ff19), (a2, zI K 1290 f2), (a3, zI K 1290 f3), (a4, zI K 1290 f4), (a5, zI K 60000 f5), (a6, zI K 16 f6), (a7, zI K 210000 f7), (a8, zI K 210000 f8), (a9, zI K 60000 f9), (a10, zI K 60000 f10), (a11, zI K 60000 f11), (a12, zI K 60000 f12), (a13, zI K 60000 f13), (a14, zI K 60000 f14)] H := hP
  have hD : va_D A [(a0, zO 10 83 g0), (a1, zI K 10 ff19), (a2, zI K 1290 f2), (a3, zI K 1290 f3), (a4, zI K 1290 f4), (a5, zI K 60000 f5), (a6, zI K 16 f6), (a7, zI K 210000 f7), (a8, zI K 210000 f8), (a9, zI K 60000 f9), (a10, zI K 60000 f10), (a11, zI K 60000 f11), (a12, zI K 60000 f12), (a13, zI K 60000 f13), (a14, zI K 60000 f14)] := hD
  refine lv_iinc (v := 10) (lv' := [(6, .int 10), (0, .ref a0), (1, .int (nI j0)), (2, .int 0), (3, .int x1), (4, .int x2), (5, .int 0)]) hx hb dX12_begins_18 hl (k := 0) rfl (by decide +kernel) (by decide) rfl (fun ls hl => ?_)
  refine lv_goto (tgt := 3) hx hb dX12_begins_21 (by decide) ?_
  refine lv_iload hx hb dX12_begins_3 (lv_at hl 0 rfl) ?_
  refine lv_bipush (v := 10) hx hb dX12_begins_5 (by decide) ?_
  refine lv_icmp_ge (tgt := 24) hx hb dX12_begins_7 (by decide) (fun _ => ?_) (fun c => absurd (by decide) c)
  refine lv_aload_n hx hb dX12_begins_24 rfl (lv_at hl 1 rfl) ?_
  refine lv_iconst (v := 0) hx hb dX12_begins_25 (by decide) ?_
  refine z_put hx hb hg hown hK hP hD hS i_X12 rfl tyX12_ok nmX12 0 rfl 79 (by decide) mt1359 rfl rfl rfl dX12_begins_26 (fun gg21 H locs y22 hP hD hS => ?_)
  have hP : va_P K.1 classes [(a0, zO 10 83 gg21), (a1, zI K 10 ff19), (a2, zI K 1290 f2), (a3, zI K 1290 f3), (a4, zI K 1290 f4), (a5, zI K 60000 f5), (a6, zI K 16 f6), (a7, zI K 210000 f7), (a8, zI K 210000 f8), (a9, zI K 60000 f9), (a10, zI K 60000 f10), (a11, zI K 60000 f11), (a12, zI K 60000 f12), (a13, zI K 60000 f13), (a14, zI K 60000 f14)] H := hP
  have hD : va_D A [(a0, zO 10 83 gg21), (a1, zI K 10 ff19), (a2, zI K 1290 f2), (a3, zI K 1290 f3), (a4, zI K 1290 f4), (a5, zI K 60000 f5), (a6, zI K 16 f6), (a7, zI K 210000 f7), (a8, zI K 210000 f8), (a9, zI K 60000 f9), (a10, zI K 60000 f10), (a11, zI K 60000 f11), (a12, zI K 60000 f12), (a13, zI K 60000 f13), (a14, zI K 60000 f14)] := hD
  refine lv_aload_n hx hb dX12_begins_29 rfl (lv_at hl 1 rfl) ?_
  refine lv_iload hx hb dX12_begins_30 (lv_at hl 6 rfl) ?_
  refine lv_if_eq (tgt := 39) hx hb dX12_begins_32 (by decide) (fun _ => ?_) (fun c => absurd (by decide) c)
  refine lv_iconst (v := 0) hx hb dX12_begins_39 (by decide) ?_
  refine z_put hx hb hg hown hK hP hD hS i_X12 rfl tyX12_ok nmX12 0 rfl 55 (by decide) mt1335 rfl rfl rfl dX12_begins_40 (fun gg23 H locs y24 hP hD hS => ?_)
  have hP : va_P K.1 classes [(a0, zO 10 83 gg23), (a1, zI K 10 ff19), (a2, zI K 1290 f2), (a3, zI K 1290 f3), (a4, zI K 1290 f4), (a5, zI K 60000 f5), (a6, zI K 16 f6), (a7, zI K 210000 f7), (a8, zI K 210000 f8), (a9, zI K 60000 f9), (a10, zI K 60000 f10), (a11, zI K 60000 f11), (a12, zI K 60000 f12), (a13, zI K 60000 f13), (a14, zI K 60000 f14)] H := hP
  have hD : va_D A [(a0, zO 10 83 gg23), (a1, zI K 10 ff19), (a2, zI K 1290 f2), (a3, zI K 1290 f3), (a4, zI K 1290 f4), (a5, zI K 60000 f5), (a6, zI K 16 f6), (a7, zI K 210000 f7), (a8, zI K 210000 f8), (a9, zI K 60000 f9), (a10, zI K 60000 f10), (a11, zI K 60000 f11), (a12, zI K 60000 f12), (a13, zI K 60000 f13), (a14, zI K 60000 f14)] := hD
  refine lv_aload_n hx hb dX12_begins_43 rfl (lv_at hl 1 rfl) ?_
  refine lv_iload_n hx hb dX12_begins_44 rfl (lv_at hl 2 rfl) ?_
  refine lv_iload_n hx hb dX12_begins_45 rfl (lv_at hl 3 rfl) ?_
  refine lv_iload_n hx hb dX12_begins_46 rfl (lv_at hl 4 rfl) ?_
  refine lv_iload hx hb dX12_begins_47 (lv_at hl 5 rfl) ?_
  refine z_callv [(a0, zO 10 83 gg23), (a2, zI K 1290 f2), (a3, zI K 1290 f3), (a4, zI K 1290 f4)] [(a1, zI K 10 ff19), (a5, zI K 60000 f5), (a6, zI K 16 f6), (a7, zI K 210000 f7), (a8, zI K 210000 f8), (a9, zI K 60000 f9), (a10, zI K 60000 f10), (a11, zI K 60000 f11), (a12, zI K 60000 f12), (a13, zI K 60000 f13), (a14, zI K 60000 f14)] [0, 2, 3, 4] [1, 5, 6, 7, 8, 9, 10, 11, 12, 13, 14] hP hD hS hA rfl rfl (by decide) (by decide) (by decide +kernel) 0 0 rfl rfl (fun hPc hDc hF => z_runV (As := [.int (nI j0), .int 0, .int x1, .int x2]) (rest := []) ⟨hx, hb, hml, hown, hg⟩ (cX12_laysRun_1 l K H.size a0 a2 a3 a4 gg23 f2 f3 f4 j0 hj0 x1 x2 (zu_of y24 (zu_ne (by decide) (zu_of y22 (zu_ne (by decide) e1)))) (zu_of y24 (zu_ne (by decide) (zu_of y22 (zu_ne (by decide) e2)))) (zu_of y24 (zu_ne (by decide) (zu_of y22 (zu_ne (by decide) e3))))) kV_RX12_482 hd_X12_laysRun rfl rfl ⟨(Nat.le_of_ble_eq_true rfl), (Nat.le_of_ble_eq_true rfl)⟩ hK hS hZ hPc hDc hF 0 rfl rfl rfl hl.1 rfl (Nat.le_of_ble_eq_true rfl) dX12_begins_49 ⟨(Nat.le_of_ble_eq_true rfl), (Nat.le_of_ble_eq_true rfl)⟩) (fun u25 H locs w26 hP hD hS => ?_)
  have hP : va_P K.1 classes [(a1, zI K 10 ff19), (a5, zI K 60000 f5), (a6, zI K 16 f6), (a7, zI K 210000 f7), (a8, zI K 210000 f8), (a9, zI K 60000 f9), (a10, zI K 60000 f10), (a11, zI K 60000 f11), (a12, zI K 60000 f12), (a13, zI K 60000 f13), (a14, zI K 60000 f14), (a0, zO 10 83 gg23), (a2, zI K 1290 (va_up f2 1280 2)), (a3, zI K 1290 (va_up f3 1280 (nI j0))), (a4, zI K 1290 (va_up f4 1280 1281))] H := hP
  have hD : va_D A [(a1, zI K 10 ff19), (a5, zI K 60000 f5), (a6, zI K 16 f6), (a7, zI K 210000 f7), (a8, zI K 210000 f8), (a9, zI K 60000 f9), (a10, zI K 60000 f10), (a11, zI K 60000 f11), (a12, zI K 60000 f12), (a13, zI K 60000 f13), (a14, zI K 60000 f14), (a0, zO 10 83 gg23), (a2, zI K 1290 (va_up f2 1280 2)), (a3, zI K 1290 (va_up f3 1280 (nI j0))), (a4, zI K 1290 (va_up f4 1280 1281))] := hD
  refine lv_aload_n hx hb dX12_begins_52 rfl (lv_at hl 1 rfl) ?_
  refine lv_iconst (v := 0) hx hb dX12_begins_53 (by decide) ?_
  refine z_put hx hb hg hown hK hP hD hS i_X12 rfl tyX12_ok nmX12 11 rfl 58 (by decide) mt1338 rfl rfl rfl dX12_begins_54 (fun gg28 H locs y29 hP hD hS => ?_)
  have hP : va_P K.1 classes [(a1, zI K 10 ff19), (a5, zI K 60000 f5), (a6, zI K 16 f6), (a7, zI K 210000 f7), (a8, zI K 210000 f8), (a9, zI K 60000 f9), (a10, zI K 60000 f10), (a11, zI K 60000 f11), (a12, zI K 60000 f12), (a13, zI K 60000 f13), (a14, zI K 60000 f14), (a0, zO 10 83 gg28), (a2, zI K 1290 (va_up f2 1280 2)), (a3, zI K 1290 (va_up f3 1280 (nI j0))), (a4, zI K 1290 (va_up f4 1280 1281))] H := hP
  have hD : va_D A [(a1, zI K 10 ff19), (a5, zI K 60000 f5), (a6, zI K 16 f6), (a7, zI K 210000 f7), (a8, zI K 210000 f8), (a9, zI K 60000 f9), (a10, zI K 60000 f10), (a11, zI K 60000 f11), (a12, zI K 60000 f12), (a13, zI K 60000 f13), (a14, zI K 60000 f14), (a0, zO 10 83 gg28), (a2, zI K 1290 (va_up f2 1280 2)), (a3, zI K 1290 (va_up f3 1280 (nI j0))), (a4, zI K 1290 (va_up f4 1280 1281))] := hD
  refine lv_aload_n hx hb dX12_begins_57 rfl (lv_at hl 1 rfl) ?_
  refine lv_sipush (v := 600) hx hb dX12_begins_58 (by decide) ?_
  refine z_put hx hb hg hown hK hP hD hS i_X12 rfl tyX12_ok nmX12 11 rfl 59 (by decide) mt1339 rfl rfl rfl dX12_begins_61 (fun gg30 H locs y31 hP hD hS => ?_)
  have hP : va_P K.1 classes [(a1, zI K 10 ff19), (a5, zI K 60000 f5), (a6, zI K 16 f6), (a7, zI K 210000 f7), (a8, zI K 210000 f8), (a9, zI K 60000 f9), (a10, zI K 60000 f10), (a11, zI K 60000 f11), (a12, zI K 60000 f12), (a13, zI K 60000 f13), (a14, zI K 60000 f14), (a0, zO 10 83 gg30), (a2, zI K 1290 (va_up f2 1280 2)), (a3, zI K 1290 (va_up f3 1280 (nI j0))), (a4, zI K 1290 (va_up f4 1280 1281))] H := hP
  have hD : va_D A [(a1, zI K 10 ff19), (a5, zI K 60000 f5), (a6, zI K 16 f6), (a7, zI K 210000 f7), (a8, zI K 210000 f8), (a9, zI K 60000 f9), (a10, zI K 60000 f10), (a11, zI K 60000 f11), (a12, zI K 60000 f12), (a13, zI K 60000 f13), (a14, zI K 60000 f14), (a0, zO 10 83 gg30), (a2, zI K 1290 (va_up f2 1280 2)), (a3, zI K 1290 (va_up f3 1280 (nI j0))), (a4, zI K 1290 (va_up f4 1280 1281))] := hD
  refine lv_aload_n hx hb dX12_begins_64 rfl (lv_at hl 1 rfl) ?_
  refine lv_iconst (v := 0) hx hb dX12_begins_65 (by decide) ?_
  refine z_put hx hb hg hown hK hP hD hS i_X12 rfl tyX12_ok nmX12 11 rfl 72 (by decide) mt1352 rfl rfl rfl dX12_begins_66 (fun gg32 H locs y33 hP hD hS => ?_)
  have hP : va_P K.1 classes [(a1, zI K 10 ff19), (a5, zI K 60000 f5), (a6, zI K 16 f6), (a7, zI K 210000 f7), (a8, zI K 210000 f8), (a9, zI K 60000 f9), (a10, zI K 60000 f10), (a11, zI K 60000 f11), (a12, zI K 60000 f12), (a13, zI K 60000 f13), (a14, zI K 60000 f14), (a0, zO 10 83 gg32), (a2, zI K 1290 (va_up f2 1280 2)), (a3, zI K 1290 (va_up f3 1280 (nI j0))), (a4, zI K 1290 (va_up f4 1280 1281))] H := hP
  have hD : va_D A [(a1, zI K 10 ff19), (a5, zI K 60000 f5), (a6, zI K 16 f6), (a7, zI K 210000 f7), (a8, zI K 210000 f8), (a9, zI K 60000 f9), (a10, zI K 60000 f10), (a11, zI K 60000 f11), (a12, zI K 60000 f12), (a13, zI K 60000 f13), (a14, zI K 60000 f14), (a0, zO 10 83 gg32), (a2, zI K 1290 (va_up f2 1280 2)), (a3, zI K 1290 (va_up f3 1280 (nI j0))), (a4, zI K 1290 (va_up f4 1280 1281))] := hD
  refine lv_aload_n hx hb dX12_begins_69 rfl (lv_at hl 1 rfl) ?_
  refine lv_iconst (v := 0) hx hb dX12_begins_70 (by decide) ?_
  refine z_put hx hb hg hown hK hP hD hS i_X12 rfl tyX12_ok nmX12 11 rfl 77 (by decide) mt1357 rfl rfl rfl dX12_begins_71 (fun gg34 H locs y35 hP hD hS => ?_)
  have hP : va_P K.1 classes [(a1, zI K 10 ff19), (a5, zI K 60000 f5), (a6, zI K 16 f6), (a7, zI K 210000 f7), (a8, zI K 210000 f8), (a9, zI K 60000 f9), (a10, zI K 60000 f10), (a11, zI K 60000 f11), (a12, zI K 60000 f12), (a13, zI K 60000 f13), (a14, zI K 60000 f14), (a0, zO 10 83 gg34), (a2, zI K 1290 (va_up f2 1280 2)), (a3, zI K 1290 (va_up f3 1280 (nI j0))), (a4, zI K 1290 (va_up f4 1280 1281))] H := hP
  have hD : va_D A [(a1, zI K 10 ff19), (a5, zI K 60000 f5), (a6, zI K 16 f6), (a7, zI K 210000 f7), (a8, zI K 210000 f8), (a9, zI K 60000 f9), (a10, zI K 60000 f10), (a11, zI K 60000 f11), (a12, zI K 60000 f12), (a13, zI K 60000 f13), (a14, zI K 60000 f14), (a0, zO 10 83 gg34), (a2, zI K 1290 (va_up f2 1280 2)), (a3, zI K 1290 (va_up f3 1280 (nI j0))), (a4, zI K 1290 (va_up f4 1280 1281))] := hD
  refine lv_aload_n hx hb dX12_begins_74 rfl (lv_at hl 1 rfl) ?_
  refine lv_sipush (v := 1280) hx hb dX12_begins_75 (by decide) ?_
  refine lv_iconst (v := (-1)) hx hb dX12_begins_78 (by decide) ?_
  refine lv_iconst (v := 0) hx hb dX12_begins_79 (by decide) ?_
  refine z_callv [(a0, zO 10 83 gg34)] [(a1, zI K 10 ff19), (a5, zI K 60000 f5), (a6, zI K 16 f6), (a7, zI K 210000 f7), (a8, zI K 210000 f8), (a9, zI K 60000 f9), (a10, zI K 60000 f10), (a11, zI K 60000 f11), (a12, zI K 60000 f12), (a13, zI K 60000 f13), (a14, zI K 60000 f14), (a2, zI K 1290 (va_up f2 1280 2)), (a3, zI K 1290 (va_up f3 1280 (nI j0))), (a4, zI K 1290 (va_up f4 1280 1281))] [11] [0, 1, 2, 3, 4, 5, 6, 7, 8, 9, 10, 12, 13, 14] hP hD hS hA rfl rfl (by decide) (by decide) (by decide +kernel) 0 0 rfl rfl (fun hPc hDc hF => z_runV (As := [.int 1280, .int (-1), .int 0]) (rest := []) ⟨hx, hb, hml, hown, hg⟩ (cX12_goesOn_1 l K H.size a0 gg34) kV_RX12_404 hd_X12_goesOn rfl rfl ⟨(Nat.le_of_ble_eq_true rfl), (Nat.le_of_ble_eq_true rfl)⟩ hK hS hZ hPc hDc hF 0 rfl rfl rfl hl.1 rfl (Nat.le_of_ble_eq_true rfl) dX12_begins_80 ⟨(Nat.le_of_ble_eq_true rfl), (Nat.le_of_ble_eq_true rfl)⟩) (fun u36 H locs w37 hP hD hS => ?_)
  have hP : va_P K.1 classes [(a1, zI K 10 ff19), (a5, zI K 60000 f5), (a6, zI K 16 f6), (a7, zI K 210000 f7), (a8, zI K 210000 f8), (a9, zI K 60000 f9), (a10, zI K 60000 f10), (a11, zI K 60000 f11), (a12, zI K 60000 f12), (a13, zI K 60000 f13), (a14, zI K 60000 f14), (a2, zI K 1290 (va_up f2 1280 2)), (a3, zI K 1290 (va_up f3 1280 (nI j0))), (a4, zI K 1290 (va_up f4 1280 1281)), (a0, zO 10 83 (va_up (va_up (va_up (va_up gg34 62 (.int 1280)) 63 (.int (-1))) 64 (.int 0)) 65 (.int 0)))] H := hP
  have hD : va_D A [(a1, zI K 10 ff19), (a5, zI K 60000 f5), (a6, zI K 16 f6), (a7, zI K 210000 f7), (a8, zI K 210000 f8), (a9, zI K 60000 f9), (a10, zI K 60000 f10), (a11, zI K 60000 f11), (a12, zI K 60000 f12), (a13, zI K 60000 f13), (a14, zI K 60000 f14), (a2, zI K 1290 (va_up f2 1280 2)), (a3, zI K 1290 (va_up f3 1280 (nI j0))), (a4, zI K 1290 (va_up f4 1280 1281)), (a0, zO 10 83 (va_up (va_up (va_up (va_up gg34 62 (.int 1280)) 63 (.int (-1))) 64 (.int 0)) 65 (.int 0)))] := hD
  obtain ⟨gg39, y40⟩ : ∃ z, z = ((va_up (va_up (va_up (va_up gg34 62 (.int 1280)) 63 (.int (-1))) 64 (.int 0)) 65 (.int 0)) : Nat → Value) := ⟨_, rfl⟩
  rw [← y40] at hP hD
  refine lv_aload_n hx hb dX12_begins_83 rfl (lv_at hl 1 rfl) ?_
  refine z_callv [(a0, zO 10 83 gg39), (a1, zI K 10 ff19), (a2, zI K 1290 (va_up f2 1280 2)), (a3, zI K 1290 (va_up f3 1280 (nI j0))), (a5, zI K 60000 f5), (a6, zI K 16 f6)] [(a7, zI K 210000 f7), (a8, zI K 210000 f8), (a9, zI K 60000 f9), (a10, zI K 60000 f10), (a11, zI K 60000 f11), (a12, zI K 60000 f12), (a13, zI K 60000 f13), (a14, zI K 60000 f14), (a4, zI K 1290 (va_up f4 1280 1281))] [14, 0, 11, 12, 1, 2] [3, 4, 5, 6, 7, 8, 9, 10, 13] hP hD hS hA rfl rfl (by decide) (by decide) (by decide +kernel) 0 0 rfl rfl (fun hPc hDc hF => z_runV (As := []) (rest := []) ⟨hx, hb, hml, hown, hg⟩ (cX12_finds_2 l K H.size a0 a1 a2 a3 a5 a6 gg39 ff19 (va_up f2 1280 2) (va_up f3 1280 (nI j0)) f5 f6 x3 j0 hj0 (zu_of y40 (zu_ne (by decide) (zu_ne (by decide) (zu_ne (by decide) (zu_ne (by decide) (zu_of y35 (zu_ne (by decide) (zu_of y33 zu_eq)))))))) (zu_of y40 zu_eq) (zu_of y40 (zu_ne (by decide) (zu_ne (by decide) (zu_ne (by decide) (zu_ne (by decide) (zu_of y35 (zu_ne (by decide) (zu_of y33 (zu_ne (by decide) (zu_of y31 (zu_ne (by decide) (zu_of y29 zu_eq)))))))))))) (zu_of y40 (zu_ne (by decide) (zu_ne (by decide) (zu_ne (by decide) (zu_ne (by decide) (zu_of y35 (zu_ne (by decide) (zu_of y33 (zu_ne (by decide) (zu_of y31 zu_eq)))))))))) (zu_of y40 (zu_ne (by decide) (zu_ne (by decide) (zu_ne (by decide) (zu_ne (by decide) (zu_of y35 (zu_ne (by decide) (zu_of y33 (zu_ne (by decide) (zu_of y31 (zu_ne (by decide) (zu_of y29 (zu_ne (by decide) (zu_of y24 (zu_ne (by decide) (zu_of y22 (zu_ne (by decide) e4))))))))))))))))) (zu_of y40 (zu_ne (by decide) (zu_ne (by decide) (zu_ne (by decide) (zu_ne (by decide) (zu_of y35 (zu_ne (by decide) (zu_of y33 (zu_ne (by decide) (zu_of y31 (zu_ne (by decide) (zu_of y29 (zu_ne (by decide) (zu_of y24 (zu_ne (by decide) (zu_of y22 (zu_ne (by decide) e5))))))))))))))))) e6 (zu_of y40 (zu_ne (by decide) (zu_ne (by decide) (zu_ne (by decide) (zu_ne (by decide) (zu_of y35 (zu_ne (by decide) (zu_of y33 (zu_ne (by decide) (zu_of y31 (zu_ne (by decide) (zu_of y29 (zu_ne (by decide) (zu_of y24 (zu_ne (by decide) (zu_of y22 (zu_ne (by decide) e0))))))))))))))))) (zu_of y40 (zu_ne (by decide) zu_eq)) (zu_of y20 (zu_ne (by decide) (zu_of y18 (zu_ne (by decide) (zu_of y16 (zu_ne (by decide) (zu_of y14 zu_eq))))))) (zu_of y40 (zu_ne (by decide) (zu_ne (by decide) (zu_ne (by decide) (zu_ne (by decide) (zu_of y35 (zu_ne (by decide) (zu_of y33 (zu_ne (by decide) (zu_of y31 (zu_ne (by decide) (zu_of y29 (zu_ne (by decide) (zu_of y24 (zu_ne (by decide) (zu_of y22 (zu_ne (by decide) e1))))))))))))))))) (zu_of y40 (zu_ne (by decide) (zu_ne (by decide) (zu_ne (by decide) zu_eq)))) zu_eq (zu_of y40 (zu_ne (by decide) (zu_ne (by decide) (zu_ne (by decide) (zu_ne (by decide) (zu_of y35 (zu_ne (by decide) (zu_of y33 (zu_ne (by decide) (zu_of y31 (zu_ne (by decide) (zu_of y29 (zu_ne (by decide) (zu_of y24 zu_eq)))))))))))))) (zu_of y40 (zu_ne (by decide) (zu_ne (by decide) (zu_ne (by decide) (zu_ne (by decide) (zu_of y35 (zu_ne (by decide) (zu_of y33 (zu_ne (by decide) (zu_of y31 (zu_ne (by decide) (zu_of y29 (zu_ne (by decide) (zu_of y24 (zu_ne (by decide) (zu_of y22 (zu_ne (by decide) e2))))))))))))))))) zu_eq (zu_of y40 (zu_ne (by decide) (zu_ne (by decide) (zu_ne (by decide) (zu_ne (by decide) (zu_of y35 (zu_ne (by decide) (zu_of y33 (zu_ne (by decide) (zu_of y31 (zu_ne (by decide) (zu_of y29 (zu_ne (by decide) (zu_of y24 (zu_ne (by decide) (zu_of y22 (zu_ne (by decide) e7))))))))))))))))) e8 (zu_of y40 (zu_ne (by decide) (zu_ne (by decide) (zu_ne (by decide) (zu_ne (by decide) (zu_of y35 (zu_ne (by decide) (zu_of y33 (zu_ne (by decide) (zu_of y31 (zu_ne (by decide) (zu_of y29 (zu_ne (by decide) (zu_of y24 (zu_ne (by decide) (zu_of y22 (zu_ne (by decide) e9))))))))))))))))) e10) kV_RX12_479 hd_X12_finds rfl rfl ⟨(Nat.le_of_ble_eq_true rfl), (Nat.le_of_ble_eq_true rfl)⟩ hK hS hZ hPc hDc hF 0 rfl rfl rfl hl.1 rfl (Nat.le_of_ble_eq_true rfl) dX12_begins_84 ⟨(Nat.le_of_ble_eq_true rfl), (Nat.le_of_ble_eq_true rfl)⟩) (fun u41 H locs w42 hP hD hS => ?_)
  have hP : va_P K.1 classes [(a7, zI K 210000 f7), (a8, zI K 210000 f8), (a9, zI K 60000 f9), (a10, zI K 60000 f10), (a11, zI K 60000 f11), (a12, zI K 60000 f12), (a13, zI K 60000 f13), (a14, zI K 60000 f14), (a4, zI K 1290 (va_up f4 1280 1281)), (a0, zO 10 83 (va_up (va_up (va_up gg39 61 (.int (-1))) 58 (.int 1)) 61 (.int 5))), (a1, zI K 10 (va_up ff19 6 1)), (a2, zI K 1290 (va_up f2 1280 2)), (a3, zI K 1290 (va_up f3 1280 (nI j0))), (a5, zI K 60000 f5), (a6, zI K 16 f6)] H := hP
  have hD : va_D A [(a7, zI K 210000 f7), (a8, zI K 210000 f8), (a9, zI K 60000 f9), (a10, zI K 60000 f10), (a11, zI K 60000 f11), (a12, zI K 60000 f12), (a13, zI K 60000 f13), (a14, zI K 60000 f14), (a4, zI K 1290 (va_up f4 1280 1281)), (a0, zO 10 83 (va_up (va_up (va_up gg39 61 (.int (-1))) 58 (.int 1)) 61 (.int 5))), (a1, zI K 10 (va_up ff19 6 1)), (a2, zI K 1290 (va_up f2 1280 2)), (a3, zI K 1290 (va_up f3 1280 (nI j0))), (a5, zI K 60000 f5), (a6, zI K 16 f6)] := hD
  obtain ⟨gg44, y45⟩ : ∃ z, z = ((va_up (va_up (va_up gg39 61 (.int (-1))) 58 (.int 1)) 61 (.int 5)) : Nat → Value) := ⟨_, rfl⟩
  rw [← y45] at hP hD
  refine lv_aload_n hx hb dX12_begins_87 rfl (lv_at hl 1 rfl) ?_
  refine z_get (v := .ref a1) hx hb hg hown hK hP i_X12 rfl 9 rfl 80 (by decide) mt1360 (zu_of y45 (zu_ne (by decide) (zu_ne (by decide) (zu_ne (by decide) (zu_of y40 (zu_ne (by decide) (zu_ne (by decide) (zu_ne (by decide) (zu_ne (by decide) (zu_of y35 (zu_ne (by decide) (zu_of y33 (zu_ne (by decide) (zu_of y31 (zu_ne (by decide) (zu_of y29 (zu_ne (by decide) (zu_of y24 (zu_ne (by decide) (zu_of y22 (zu_ne (by decide) e0))))))))))))))))))))) dX12_begins_88 ?_
  refine lv_iconst (v := 0) hx hb dX12_begins_91 (by decide) ?_
  refine lv_aload_n hx hb dX12_begins_92 rfl (lv_at hl 1 rfl) ?_
  refine z_get (v := .int 1) hx hb hg hown hK hP i_X12 rfl 9 rfl 58 (by decide) mt1338 (zu_of y45 (zu_ne (by decide) zu_eq)) dX12_begins_93 ?_
  refine z_iast (j := 0) hx hb hK hP hD hS 10 rfl rfl (Nat.le_of_ble_eq_true rfl) (Nat.le_of_ble_eq_true rfl) dX12_begins_96 (fun ff46 H locs y47 hP hD hS => ?_)
  have hP : va_P K.1 classes [(a7, zI K 210000 f7), (a8, zI K 210000 f8), (a9, zI K 60000 f9), (a10, zI K 60000 f10), (a11, zI K 60000 f11), (a12, zI K 60000 f12), (a13, zI K 60000 f13), (a14, zI K 60000 f14), (a4, zI K 1290 (va_up f4 1280 1281)), (a0, zO 10 83 gg44), (a1, zI K 10 ff46), (a2, zI K 1290 (va_up f2 1280 2)), (a3, zI K 1290 (va_up f3 1280 (nI j0))), (a5, zI K 60000 f5), (a6, zI K 16 f6)] H := hP
  have hD : va_D A [(a7, zI K 210000 f7), (a8, zI K 210000 f8), (a9, zI K 60000 f9), (a10, zI K 60000 f10), (a11, zI K 60000 f11), (a12, zI K 60000 f12), (a13, zI K 60000 f13), (a14, zI K 60000 f14), (a4, zI K 1290 (va_up f4 1280 1281)), (a0, zO 10 83 gg44), (a1, zI K 10 ff46), (a2, zI K 1290 (va_up f2 1280 2)), (a3, zI K 1290 (va_up f3 1280 (nI j0))), (a5, zI K 60000 f5), (a6, zI K 16 f6)] := hD
  refine lv_aload_n hx hb dX12_begins_97 rfl (lv_at hl 1 rfl) ?_
  refine z_get (v := .int 5) hx hb hg hown hK hP i_X12 rfl 9 rfl 61 (by decide) mt1341 (zu_of y45 zu_eq) dX12_begins_98 ?_
  refine lv_iconst (v := (-1)) hx hb dX12_begins_101 (by decide) ?_
  refine lv_icmp_ne (tgt := 112) hx hb dX12_begins_102 (by decide) (fun _ => ?_) (fun c => absurd c (by decide))
  refine lv_aload_n hx hb dX12_begins_112 rfl (lv_at hl 1 rfl) ?_
  refine z_get (v := .int 5) hx hb hg hown hK hP i_X12 rfl 9 rfl 61 (by decide) mt1341 (zu_of y45 zu_eq) dX12_begins_113 ?_
  refine lv_istore (lv' := [(6, .int 5), (0, .ref a0), (1, .int (nI j0)), (2, .int 0), (3, .int x1), (4, .int x2), (5, .int 0)]) hx hb dX12_begins_116 hl (by decide) rfl (fun ls hl => ?_)
  refine lv_aload_n hx hb dX12_begins_118 rfl (lv_at hl 1 rfl) ?_
  refine z_get (v := .int 5) hx hb hg hown hK hP i_X12 rfl 9 rfl 61 (by decide) mt1341 (zu_of y45 zu_eq) dX12_begins_119 ?_
  refine lv_iconst (v := (-1)) hx hb dX12_begins_122 (by decide) ?_
  refine lv_icmp_ne (tgt := 182) hx hb dX12_begins_123 (by decide) (fun _ => ?_) (fun c => absurd c (by decide))
  refine lv_aload_n hx hb dX12_begins_182 rfl (lv_at hl 1 rfl) ?_
  refine z_callv [(a0, zO 10 83 gg44), (a7, zI K 210000 f7), (a8, zI K 210000 f8), (a5, zI K 60000 f5), (a9, zI K 60000 f9), (a10, zI K 60000 f10), (a11, zI K 60000 f11), (a12, zI K 60000 f12), (a13, zI K 60000 f13), (a14, zI K 60000 f14)] [(a4, zI K 1290 (va_up f4 1280 1281)), (a1, zI K 10 ff46), (a2, zI K 1290 (va_up f2 1280 2)), (a3, zI K 1290 (va_up f3 1280 (nI j0))), (a6, zI K 16 f6)] [9, 0, 1, 13, 2, 3, 4, 5, 6, 7] [8, 10, 11, 12, 14] hP hD hS hA rfl rfl (by decide) (by decide) (by decide +kernel) 0 0 rfl rfl (fun hPc hDc hF => z_runV (As := []) (rest := []) ⟨hx, hb, hml, hown, hg⟩ (cX12_sweeps_1 l K H.size a0 a7 a8 a5 a9 a10 a11 a12 a13 a14 gg44 f7 f8 f5 f9 f10 f11 f12 f13 f14 (zu_of y45 (zu_ne (by decide) (zu_ne (by decide) (zu_ne (by decide) (zu_of y40 (zu_ne (by decide) (zu_ne (by decide) (zu_ne (by decide) (zu_ne (by decide) (zu_of y35 (zu_ne (by decide) (zu_of y33 (zu_ne (by decide) (zu_of y31 (zu_ne (by decide) (zu_of y29 (zu_ne (by decide) (zu_of y24 (zu_ne (by decide) (zu_of y22 (zu_ne (by decide) e11))))))))))))))))))))) (zu_of y45 (zu_ne (by decide) (zu_ne (by decide) (zu_ne (by decide) (zu_of y40 (zu_ne (by decide) (zu_ne (by decide) (zu_ne (by decide) (zu_ne (by decide) (zu_of y35 (zu_ne (by decide) (zu_of y33 (zu_ne (by decide) (zu_of y31 (zu_ne (by decide) (zu_of y29 (zu_ne (by decide) (zu_of y24 (zu_ne (by decide) (zu_of y22 (zu_ne (by decide) e12))))))))))))))))))))) (zu_of y45 (zu_ne (by decide) (zu_ne (by decide) (zu_ne (by decide) (zu_of y40 (zu_ne (by decide) (zu_ne (by decide) (zu_ne (by decide) (zu_ne (by decide) (zu_of y35 (zu_ne (by decide) (zu_of y33 (zu_ne (by decide) (zu_of y31 (zu_ne (by decide) (zu_of y29 (zu_ne (by decide) (zu_of y24 (zu_ne (by decide) (zu_of y22 (zu_ne (by decide) e13))))))))))))))))))))) (zu_of y45 (zu_ne (by decide) (zu_ne (by decide) (zu_ne (by decide) (zu_of y40 (zu_ne (by decide) (zu_ne (by decide) (zu_ne (by decide) (zu_ne (by decide) (zu_of y35 (zu_ne (by decide) (zu_of y33 (zu_ne (by decide) (zu_of y31 (zu_ne (by decide) (zu_of y29 (zu_ne (by decide) (zu_of y24 (zu_ne (by decide) (zu_of y22 (zu_ne (by decide) e14))))))))))))))))))))) (zu_of y45 (zu_ne (by decide) (zu_ne (by decide) (zu_ne (by decide) (zu_of y40 (zu_ne (by decide) (zu_ne (by decide) (zu_ne (by decide) (zu_ne (by decide) (zu_of y35 (zu_ne (by decide) (zu_of y33 (zu_ne (by decide) (zu_of y31 (zu_ne (by decide) (zu_of y29 (zu_ne (by decide) (zu_of y24 (zu_ne (by decide) (zu_of y22 (zu_ne (by decide) e15))))))))))))))))))))) (zu_of y45 (zu_ne (by decide) (zu_ne (by decide) (zu_ne (by decide) (zu_of y40 (zu_ne (by decide) (zu_ne (by decide) (zu_ne (by decide) (zu_ne (by decide) (zu_of y35 (zu_ne (by decide) (zu_of y33 (zu_ne (by decide) (zu_of y31 (zu_ne (by decide) (zu_of y29 (zu_ne (by decide) (zu_of y24 (zu_ne (by decide) (zu_of y22 (zu_ne (by decide) e7))))))))))))))))))))) (e8 15) (e8 14) (e8 13) (e8 12) (e8 11) (e8 10) (e8 9) (e8 8) (e8 7) (e8 6) (e8 5) (e8 4) (e8 3) (e8 2) (e8 1) (e8 0) (zu_of y45 (zu_ne (by decide) (zu_ne (by decide) (zu_ne (by decide) (zu_of y40 (zu_ne (by decide) (zu_ne (by decide) (zu_ne (by decide) (zu_ne (by decide) (zu_of y35 (zu_ne (by decide) (zu_of y33 (zu_ne (by decide) (zu_of y31 (zu_ne (by decide) (zu_of y29 (zu_ne (by decide) (zu_of y24 (zu_ne (by decide) (zu_of y22 (zu_ne (by decide) e16))))))))))))))))))))) e17 (zu_of y45 (zu_ne (by decide) (zu_ne (by decide) (zu_ne (by decide) (zu_of y40 (zu_ne (by decide) (zu_ne (by decide) (zu_ne (by decide) (zu_ne (by decide) (zu_of y35 (zu_ne (by decide) (zu_of y33 (zu_ne (by decide) (zu_of y31 (zu_ne (by decide) (zu_of y29 (zu_ne (by decide) (zu_of y24 (zu_ne (by decide) (zu_of y22 (zu_ne (by decide) e18))))))))))))))))))))) (zu_of y45 (zu_ne (by decide) (zu_ne (by decide) (zu_ne (by decide) (zu_of y40 (zu_ne (by decide) (zu_ne (by decide) (zu_ne (by decide) (zu_ne (by decide) (zu_of y35 (zu_ne (by decide) (zu_of y33 (zu_ne (by decide) (zu_of y31 (zu_ne (by decide) (zu_of y29 (zu_ne (by decide) (zu_of y24 (zu_ne (by decide) (zu_of y22 (zu_ne (by decide) e19))))))))))))))))))))) (zu_of y45 (zu_ne (by decide) (zu_ne (by decide) (zu_ne (by decide) (zu_of y40 (zu_ne (by decide) (zu_ne (by decide) (zu_ne (by decide) (zu_ne (by decide) (zu_of y35 (zu_ne (by decide) (zu_of y33 (zu_ne (by decide) (zu_of y31 (zu_ne (by decide) (zu_of y29 (zu_ne (by decide) (zu_of y24 (zu_ne (by decide) (zu_of y22 (zu_ne (by decide) e20))))))))))))))))))))) e21 (zu_of y45 (zu_ne (by decide) (zu_ne (by decide) (zu_ne (by decide) (zu_of y40 (zu_ne (by decide) (zu_ne (by decide) (zu_ne (by decide) (zu_ne (by decide) (zu_of y35 (zu_ne (by decide) (zu_of y33 (zu_ne (by decide) (zu_of y31 (zu_ne (by decide) (zu_of y29 (zu_ne (by decide) (zu_of y24 (zu_ne (by decide) (zu_of y22 (zu_ne (by decide) e22))))))))))))))))))))) (zu_of y45 (zu_ne (by decide) (zu_ne (by decide) (zu_ne (by decide) (zu_of y40 (zu_ne (by decide) (zu_ne (by decide) (zu_ne (by decide) (zu_ne (by decide) (zu_of y35 (zu_ne (by decide) (zu_of y33 (zu_ne (by decide) (zu_of y31 (zu_ne (by decide) (zu_of y29 (zu_ne (by decide) (zu_of y24 (zu_ne (by decide) (zu_of y22 (zu_ne (by decide) e23))))))))))))))))))))) e24 e25 e26 e27 e28 e29 e30 e31 e32 e33 e34 e35 e36 e37 e38 e39 e40 e41 e42 e43 e44 e45 e46 e47 e48 e49 e50 e51 e52 e53 e54 e55 e56 e57 e58 e59 e60 e61 e62 e63 e64 e65 e66 e67 e68 e69) kV_RX12_489 hd_X12_sweeps rfl rfl ⟨(Nat.le_of_ble_eq_true rfl), (Nat.le_of_ble_eq_true rfl)⟩ hK hS hZ hPc hDc hF 0 rfl rfl rfl hl.1 rfl (Nat.le_of_ble_eq_true rfl) dX12_begins_183 ⟨(Nat.le_of_ble_eq_true rfl), (Nat.le_of_ble_eq_true rfl)⟩) (fun u48 H locs w49 hP hD hS => ?_)
  have hP : va_P K.1 classes [(a4, zI K 1290 (va_up f4 1280 1281)), (a1, zI K 10 ff46), (a2, zI K 1290 (va_up f2 1280 2)), (a3, zI K 1290 (va_up f3 1280 (nI j0))), (a6, zI K 16 f6), (a0, zO 10 83 (va_up (va_up (va_up (va_up (va_up (va_up (va_up (va_up (va_up (va_up (va_up (va_up (va_up (va_up (va_up (va_up (va_up (va_up (va_up (va_up (va_up (va_up (va_up (va_up (va_up (va_up (va_up (va_up (va_up (va_up (va_up (va_up (va_up (va_up (va_up (va_up gg44 54 (.int 0)) 54 (.int 1)) 54 (.int 2)) 54 (.int 3)) 54 (.int 4)) 54 (.int 5)) 54 (.int 6)) 54 (.int 7)) 54 (.int 8)) 54 (.int 9)) 54 (.int 10)) 54 (.int 11)) 54 (.int 12)) 54 (.int 13)) 54 (.int 14)) 54 (.int 15)) 54 (.int 16)) 54 (.int 15)) 54 (.int 14)) 54 (.int 13)) 54 (.int 12)) 54 (.int 11)) 54 (.int 10)) 54 (.int 9)) 54 (.int 8)) 54 (.int 7)) 54 (.int 6)) 54 (.int 5)) 54 (.int 4)) 54 (.int 3)) 54 (.int 2)) 54 (.int 1)) 54 (.int 0)) 32 (.int 16)) 40 (.int 0)) 46 (.int 0))), (a7, zI K 210000 (va_up (va_up (va_up (va_up (va_up (va_up (va_up (va_up (va_up (va_up (va_up (va_up (va_up (va_up (va_up (va_up (va_up (va_up (va_up (va_up (va_up (va_up (va_up (va_up (va_up (va_up (va_up (va_up (va_up (va_up (va_up (va_up (va_up (va_up (va_up (va_up (va_up (va_up (va_up (va_up (va_up (va_up (va_up (va_up (va_up (va_up (va_up (va_up f7 0 (-1)) 1 (-1)) 2 (-1)) 3 (-1)) 4 (-1)) 5 (-1)) 6 (-1)) 7 (-1)) 8 (-1)) 9 (-1)) 10 (-1)) 11 (-1)) 12 (-1)) 13 (-1)) 14 (-1)) 15 (-1)) 0 0) 1 0) 2 0) 3 0) 4 0) 5 0) 6 0) 7 0) 8 0) 9 0) 10 0) 11 0) 12 0) 13 0) 14 0) 15 0) 0 0) 1 1) 2 2) 3 3) 4 4) 5 5) 6 6) 7 7) 8 8) 9 9) 10 10) 11 11) 12 12) 13 13) 14 14) 15 15)), (a8, zI K 210000 (va_up (va_up (va_up (va_up (va_up (va_up (va_up (va_up (va_up (va_up (va_up (va_up (va_up (va_up (va_up (va_up f8 0 0) 1 1) 2 2) 3 3) 4 4) 5 5) 6 6) 7 7) 8 8) 9 9) 10 10) 11 11) 12 12) 13 13) 14 14) 15 15)), (a5, zI K 60000 (va_up (va_up (va_up (va_up (va_up (va_up (va_up (va_up (va_up (va_up (va_up (va_up (va_up (va_up (va_up (va_up f5 0 0) 1 0) 2 0) 3 0) 4 0) 5 0) 6 0) 7 0) 8 0) 9 0) 10 0) 11 0) 12 0) 13 0) 14 0) 15 0)), (a9, zI K 60000 (va_up (va_up (va_up (va_up (va_up (va_up (va_up (va_up (va_up (va_up (va_up (va_up (va_up (va_up (va_up (va_up f9 0 0) 1 0) 2 0) 3 0) 4 0) 5 0) 6 0) 7 0) 8 0) 9 0) 10 0) 11 0) 12 0) 13 0) 14 0) 15 0)), (a10, zI K 60000 (va_up (va_up (va_up (va_up (va_up (va_up (va_up (va_up (va_up (va_up (va_up (va_up (va_up (va_up (va_up (va_up f10 0 0) 1 0) 2 0) 3 0) 4 0) 5 0) 6 0) 7 0) 8 0) 9 0) 10 0) 11 0) 12 0) 13 0) 14 0) 15 0)), (a11, zI K 60000 (va_up (va_up (va_up (va_up (va_up (va_up (va_up (va_up (va_up (va_up (va_up (va_up (va_up (va_up (va_up (va_up f11 0 0) 1 0) 2 0) 3 0) 4 0) 5 0) 6 0) 7 0) 8 0) 9 0) 10 0) 11 0) 12 0) 13 0) 14 0) 15 0)), (a12, zI K 60000 (va_up (va_up (va_up (va_up (va_up (va_up (va_up (va_up (va_up (va_up (va_up (va_up (va_up (va_up (va_up (va_up f12 0 0) 1 0) 2 0) 3 0) 4 0) 5 0) 6 0) 7 0) 8 0) 9 0) 10 0) 11 0) 12 0) 13 0) 14 0) 15 0)), (a13, zI K 60000 (va_up (va_up (va_up (va_up (va_up (va_up (va_up (va_up (va_up (va_up (va_up (va_up (va_up (va_up (va_up (va_up f13 0 (-1)) 1 (-1)) 2 (-1)) 3 (-1)) 4 (-1)) 5 (-1)) 6 (-1)) 7 (-1)) 8 (-1)) 9 (-1)) 10 (-1)) 11 (-1)) 12 (-1)) 13 (-1)) 14 (-1)) 15 (-1))), (a14, zI K 60000 (va_up (va_up (va_up (va_up (va_up (va_up (va_up (va_up (va_up (va_up (va_up (va_up (va_up (va_up (va_up (va_up f14 0 0) 1 0) 2 0) 3 0) 4 0) 5 0) 6 0) 7 0) 8 0) 9 0) 10 0) 11 0) 12 0) 13 0) 14 0) 15 0))] H := hP
  have hD : va_D A [(a4, zI K 1290 (va_up f4 1280 1281)), (a1, zI K 10 ff46), (a2, zI K 1290 (va_up f2 1280 2)), (a3, zI K 1290 (va_up f3 1280 (nI j0))), (a6, zI K 16 f6), (a0, zO 10 83 (va_up (va_up (va_up (va_up (va_up (va_up (va_up (va_up (va_up (va_up (va_up (va_up (va_up (va_up (va_up (va_up (va_up (va_up (va_up (va_up (va_up (va_up (va_up (va_up (va_up (va_up (va_up (va_up (va_up (va_up (va_up (va_up (va_up (va_up (va_up (va_up gg44 54 (.int 0)) 54 (.int 1)) 54 (.int 2)) 54 (.int 3)) 54 (.int 4)) 54 (.int 5)) 54 (.int 6)) 54 (.int 7)) 54 (.int 8)) 54 (.int 9)) 54 (.int 10)) 54 (.int 11)) 54 (.int 12)) 54 (.int 13)) 54 (.int 14)) 54 (.int 15)) 54 (.int 16)) 54 (.int 15)) 54 (.int 14)) 54 (.int 13)) 54 (.int 12)) 54 (.int 11)) 54 (.int 10)) 54 (.int 9)) 54 (.int 8)) 54 (.int 7)) 54 (.int 6)) 54 (.int 5)) 54 (.int 4)) 54 (.int 3)) 54 (.int 2)) 54 (.int 1)) 54 (.int 0)) 32 (.int 16)) 40 (.int 0)) 46 (.int 0))), (a7, zI K 210000 (va_up (va_up (va_up (va_up (va_up (va_up (va_up (va_up (va_up (va_up (va_up (va_up (va_up (va_up (va_up (va_up (va_up (va_up (va_up (va_up (va_up (va_up (va_up (va_up (va_up (va_up (va_up (va_up (va_up (va_up (va_up (va_up (va_up (va_up (va_up (va_up (va_up (va_up (va_up (va_up (va_up (va_up (va_up (va_up (va_up (va_up (va_up (va_up f7 0 (-1)) 1 (-1)) 2 (-1)) 3 (-1)) 4 (-1)) 5 (-1)) 6 (-1)) 7 (-1)) 8 (-1)) 9 (-1)) 10 (-1)) 11 (-1)) 12 (-1)) 13 (-1)) 14 (-1)) 15 (-1)) 0 0) 1 0) 2 0) 3 0) 4 0) 5 0) 6 0) 7 0) 8 0) 9 0) 10 0) 11 0) 12 0) 13 0) 14 0) 15 0) 0 0) 1 1) 2 2) 3 3) 4 4) 5 5) 6 6) 7 7) 8 8) 9 9) 10 10) 11 11) 12 12) 13 13) 14 14) 15 15)), (a8, zI K 210000 (va_up (va_up (va_up (va_up (va_up (va_up (va_up (va_up (va_up (va_up (va_up (va_up (va_up (va_up (va_up (va_up f8 0 0) 1 1) 2 2) 3 3) 4 4) 5 5) 6 6) 7 7) 8 8) 9 9) 10 10) 11 11) 12 12) 13 13) 14 14) 15 15)), (a5, zI K 60000 (va_up (va_up (va_up (va_up (va_up (va_up (va_up (va_up (va_up (va_up (va_up (va_up (va_up (va_up (va_up (va_up f5 0 0) 1 0) 2 0) 3 0) 4 0) 5 0) 6 0) 7 0) 8 0) 9 0) 10 0) 11 0) 12 0) 13 0) 14 0) 15 0)), (a9, zI K 60000 (va_up (va_up (va_up (va_up (va_up (va_up (va_up (va_up (va_up (va_up (va_up (va_up (va_up (va_up (va_up (va_up f9 0 0) 1 0) 2 0) 3 0) 4 0) 5 0) 6 0) 7 0) 8 0) 9 0) 10 0) 11 0) 12 0) 13 0) 14 0) 15 0)), (a10, zI K 60000 (va_up (va_up (va_up (va_up (va_up (va_up (va_up (va_up (va_up (va_up (va_up (va_up (va_up (va_up (va_up (va_up f10 0 0) 1 0) 2 0) 3 0) 4 0) 5 0) 6 0) 7 0) 8 0) 9 0) 10 0) 11 0) 12 0) 13 0) 14 0) 15 0)), (a11, zI K 60000 (va_up (va_up (va_up (va_up (va_up (va_up (va_up (va_up (va_up (va_up (va_up (va_up (va_up (va_up (va_up (va_up f11 0 0) 1 0) 2 0) 3 0) 4 0) 5 0) 6 0) 7 0) 8 0) 9 0) 10 0) 11 0) 12 0) 13 0) 14 0) 15 0)), (a12, zI K 60000 (va_up (va_up (va_up (va_up (va_up (va_up (va_up (va_up (va_up (va_up (va_up (va_up (va_up (va_up (va_up (va_up f12 0 0) 1 0) 2 0) 3 0) 4 0) 5 0) 6 0) 7 0) 8 0) 9 0) 10 0) 11 0) 12 0) 13 0) 14 0) 15 0)), (a13, zI K 60000 (va_up (va_up (va_up (va_up (va_up (va_up (va_up (va_up (va_up (va_up (va_up (va_up (va_up (va_up (va_up (va_up f13 0 (-1)) 1 (-1)) 2 (-1)) 3 (-1)) 4 (-1)) 5 (-1)) 6 (-1)) 7 (-1)) 8 (-1)) 9 (-1)) 10 (-1)) 11 (-1)) 12 (-1)) 13 (-1)) 14 (-1)) 15 (-1))), (a14, zI K 60000 (va_up (va_up (va_up (va_up (va_up (va_up (va_up (va_up (va_up (va_up (va_up (va_up (va_up (va_up (va_up (va_up f14 0 0) 1 0) 2 0) 3 0) 4 0) 5 0) 6 0) 7 0) 8 0) 9 0) 10 0) 11 0) 12 0) 13 0) 14 0) 15 0))] := hD
  obtain ⟨gg51, y52⟩ : ∃ z, z = ((va_up (va_up (va_up (va_up (va_up (va_up (va_up (va_up (va_up (va_up (va_up (va_up (va_up (va_up (va_up (va_up (va_up (va_up (va_up (va_up (va_up (va_up (va_up (va_up (va_up (va_up (va_up (va_up (va_up (va_up (va_up (va_up (va_up (va_up (va_up (va_up gg44 54 (.int 0)) 54 (.int 1)) 54 (.int 2)) 54 (.int 3)) 54 (.int 4)) 54 (.int 5)) 54 (.int 6)) 54 (.int 7)) 54 (.int 8)) 54 (.int 9)) 54 (.int 10)) 54 (.int 11)) 54 (.int 12)) 54 (.int 13)) 54 (.int 14)) 54 (.int 15)) 54 (.int 16)) 54 (.int 15)) 54 (.int 14)) 54 (.int 13)) 54 (.int 12)) 54 (.int 11)) 54 (.int 10)) 54 (.int 9)) 54 (.int 8)) 54 (.int 7)) 54 (.int 6)) 54 (.int 5)) 54 (.int 4)) 54 (.int 3)) 54 (.int 2)) 54 (.int 1)) 54 (.int 0)) 32 (.int 16)) 40 (.int 0)) 46 (.int 0)) : Nat → Value) := ⟨_, rfl⟩
  rw [← y52] at hP hD
  obtain ⟨ff53, y54⟩ : ∃ z, z = ((va_up (va_up (va_up (va_up (va_up (va_up (va_up (va_up (va_up (va_up (va_up (va_up (va_up (va_up (va_up (va_up (va_up (va_up (va_up (va_up (va_up (va_up (va_up (va_up (va_up (va_up (va_up (va_up (va_up (va_up (va_up (va_up (va_up (va_up (va_up (va_up (va_up (va_up (va_up (va_up (va_up (va_up (va_up (va_up (va_up (va_up (va_up (va_up f7 0 (-1)) 1 (-1)) 2 (-1)) 3 (-1)) 4 (-1)) 5 (-1)) 6 (-1)) 7 (-1)) 8 (-1)) 9 (-1)) 10 (-1)) 11 (-1)) 12 (-1)) 13 (-1)) 14 (-1)) 15 (-1)) 0 0) 1 0) 2 0) 3 0) 4 0) 5 0) 6 0) 7 0) 8 0) 9 0) 10 0) 11 0) 12 0) 13 0) 14 0) 15 0) 0 0) 1 1) 2 2) 3 3) 4 4) 5 5) 6 6) 7 7) 8 8) 9 9) 10 10) 11 11) 12 12) 13 13) 14 14) 15 15) : Nat → Int32) := ⟨_, rfl⟩
  rw [← y54] at hP hD
  obtain ⟨ff55, y56⟩ : ∃ z, z = ((va_up (va_up (va_up (va_up (va_up (va_up (va_up (va_up (va_up (va_up (va_up (va_up (va_up (va_up (va_up (va_up f8 0 0) 1 1) 2 2) 3 3) 4 4) 5 5) 6 6) 7 7) 8 8) 9 9) 10 10) 11 11) 12 12) 13 13) 14 14) 15 15) : Nat → Int32) := ⟨_, rfl⟩
  rw [← y56] at hP hD
  obtain ⟨ff57, y58⟩ : ∃ z, z = ((va_up (va_up (va_up (va_up (va_up (va_up (va_up (va_up (va_up (va_up (va_up (va_up (va_up (va_up (va_up (va_up f5 0 0) 1 0) 2 0) 3 0) 4 0) 5 0) 6 0) 7 0) 8 0) 9 0) 10 0) 11 0) 12 0) 13 0) 14 0) 15 0) : Nat → Int32) := ⟨_, rfl⟩
  rw [← y58] at hP hD
  obtain ⟨ff59, y60⟩ : ∃ z, z = ((va_up (va_up (va_up (va_up (va_up (va_up (va_up (va_up (va_up (va_up (va_up (va_up (va_up (va_up (va_up (va_up f9 0 0) 1 0) 2 0) 3 0) 4 0) 5 0) 6 0) 7 0) 8 0) 9 0) 10 0) 11 0) 12 0) 13 0) 14 0) 15 0) : Nat → Int32) := ⟨_, rfl⟩
  rw [← y60] at hP hD
  obtain ⟨ff61, y62⟩ : ∃ z, z = ((va_up (va_up (va_up (va_up (va_up (va_up (va_up (va_up (va_up (va_up (va_up (va_up (va_up (va_up (va_up (va_up f10 0 0) 1 0) 2 0) 3 0) 4 0) 5 0) 6 0) 7 0) 8 0) 9 0) 10 0) 11 0) 12 0) 13 0) 14 0) 15 0) : Nat → Int32) := ⟨_, rfl⟩
  rw [← y62] at hP hD
  obtain ⟨ff63, y64⟩ : ∃ z, z = ((va_up (va_up (va_up (va_up (va_up (va_up (va_up (va_up (va_up (va_up (va_up (va_up (va_up (va_up (va_up (va_up f11 0 0) 1 0) 2 0) 3 0) 4 0) 5 0) 6 0) 7 0) 8 0) 9 0) 10 0) 11 0) 12 0) 13 0) 14 0) 15 0) : Nat → Int32) := ⟨_, rfl⟩
  rw [← y64] at hP hD
  obtain ⟨ff65, y66⟩ : ∃ z, z = ((va_up (va_up (va_up (va_up (va_up (va_up (va_up (va_up (va_up (va_up (va_up (va_up (va_up (va_up (va_up (va_up f12 0 0) 1 0) 2 0) 3 0) 4 0) 5 0) 6 0) 7 0) 8 0) 9 0) 10 0) 11 0) 12 0) 13 0) 14 0) 15 0) : Nat → Int32) := ⟨_, rfl⟩
  rw [← y66] at hP hD
  obtain ⟨ff67, y68⟩ : ∃ z, z = ((va_up (va_up (va_up (va_up (va_up (va_up (va_up (va_up (va_up (va_up (va_up (va_up (va_up (va_up (va_up (va_up f13 0 (-1)) 1 (-1)) 2 (-1)) 3 (-1)) 4 (-1)) 5 (-1)) 6 (-1)) 7 (-1)) 8 (-1)) 9 (-1)) 10 (-1)) 11 (-1)) 12 (-1)) 13 (-1)) 14 (-1)) 15 (-1)) : Nat → Int32) := ⟨_, rfl⟩
  rw [← y68] at hP hD
  obtain ⟨ff69, y70⟩ : ∃ z, z = ((va_up (va_up (va_up (va_up (va_up (va_up (va_up (va_up (va_up (va_up (va_up (va_up (va_up (va_up (va_up (va_up f14 0 0) 1 0) 2 0) 3 0) 4 0) 5 0) 6 0) 7 0) 8 0) 9 0) 10 0) 11 0) 12 0) 13 0) 14 0) 15 0) : Nat → Int32) := ⟨_, rfl⟩
  rw [← y70] at hP hD
  refine lv_iload hx hb dX12_begins_186 (lv_at hl 0 rfl) ?_
  subst y70
  subst y68
  subst y66
  subst y64
  subst y62
  subst y60
  subst y58
  subst y56
  subst y54
  subst y52
  subst y47
  subst y45
  subst y40
  subst y35
  subst y33
  subst y31
  subst y29
  subst y24
  subst y22
  subst y20
  subst y18
  subst y16
  subst y14
  subst y12
  subst y10
  subst y8
  subst y6
  subst y4
  subst y2
  have hP9 : va_P K.1 classes [(a0, zO 10 83 (va_up (va_up (va_up (va_up (va_up (va_up (va_up (va_up (va_up (va_up (va_up (va_up (va_up (va_up (va_up (va_up (va_up (va_up (va_up (va_up (va_up (va_up (va_up (va_up (va_up (va_up (va_up (va_up (va_up (va_up (va_up (va_up (va_up (va_up (va_up (va_up (va_up (va_up (va_up (va_up (va_up (va_up (va_up (va_up (va_up (va_up (va_up (va_up (va_up g0 79 (.int 0)) 55 (.int 0)) 58 (.int 0)) 59 (.int 600)) 72 (.int 0)) 77 (.int 0)) 62 (.int 1280)) 63 (.int (-1))) 64 (.int 0)) 65 (.int 0)) 61 (.int (-1))) 58 (.int 1)) 61 (.int 5)) 54 (.int 0)) 54 (.int 1)) 54 (.int 2)) 54 (.int 3)) 54 (.int 4)) 54 (.int 5)) 54 (.int 6)) 54 (.int 7)) 54 (.int 8)) 54 (.int 9)) 54 (.int 10)) 54 (.int 11)) 54 (.int 12)) 54 (.int 13)) 54 (.int 14)) 54 (.int 15)) 54 (.int 16)) 54 (.int 15)) 54 (.int 14)) 54 (.int 13)) 54 (.int 12)) 54 (.int 11)) 54 (.int 10)) 54 (.int 9)) 54 (.int 8)) 54 (.int 7)) 54 (.int 6)) 54 (.int 5)) 54 (.int 4)) 54 (.int 3)) 54 (.int 2)) 54 (.int 1)) 54 (.int 0)) 32 (.int 16)) 40 (.int 0)) 46 (.int 0))), (a1, zI K 10 (va_up (va_up (va_up (va_up (va_up (va_up (va_up (va_up (va_up (va_up (va_up (va_up f1 0 0) 1 0) 2 0) 3 0) 4 0) 5 0) 6 0) 7 0) 8 0) 9 0) 6 1) 0 1)), (a2, zI K 1290 (va_up f2 1280 2)), (a3, zI K 1290 (va_up f3 1280 (nI j0))), (a4, zI K 1290 (va_up f4 1280 1281)), (a5, zI K 60000 (va_up (va_up (va_up (va_up (va_up (va_up (va_up (va_up (va_up (va_up (va_up (va_up (va_up (va_up (va_up (va_up f5 0 0) 1 0) 2 0) 3 0) 4 0) 5 0) 6 0) 7 0) 8 0) 9 0) 10 0) 11 0) 12 0) 13 0) 14 0) 15 0)), (a6, zI K 16 f6), (a7, zI K 210000 (va_up (va_up (va_up (va_up (va_up (va_up (va_up (va_up (va_up (va_up (va_up (va_up (va_up (va_up (va_up (va_up (va_up (va_up (va_up (va_up (va_up (va_up (va_up (va_up (va_up (va_up (va_up (va_up (va_up (va_up (va_up (va_up (va_up (va_up (va_up (va_up (va_up (va_up (va_up (va_up (va_up (va_up (va_up (va_up (va_up (va_up (va_up (va_up f7 0 (-1)) 1 (-1)) 2 (-1)) 3 (-1)) 4 (-1)) 5 (-1)) 6 (-1)) 7 (-1)) 8 (-1)) 9 (-1)) 10 (-1)) 11 (-1)) 12 (-1)) 13 (-1)) 14 (-1)) 15 (-1)) 0 0) 1 0) 2 0) 3 0) 4 0) 5 0) 6 0) 7 0) 8 0) 9 0) 10 0) 11 0) 12 0) 13 0) 14 0) 15 0) 0 0) 1 1) 2 2) 3 3) 4 4) 5 5) 6 6) 7 7) 8 8) 9 9) 10 10) 11 11) 12 12) 13 13) 14 14) 15 15)), (a8, zI K 210000 (va_up (va_up (va_up (va_up (va_up (va_up (va_up (va_up (va_up (va_up (va_up (va_up (va_up (va_up (va_up (va_up f8 0 0) 1 1) 2 2) 3 3) 4 4) 5 5) 6 6) 7 7) 8 8) 9 9) 10 10) 11 11) 12 12) 13 13) 14 14) 15 15)), (a9, zI K 60000 (va_up (va_up (va_up (va_up (va_up (va_up (va_up (va_up (va_up (va_up (va_up (va_up (va_up (va_up (va_up (va_up f9 0 0) 1 0) 2 0) 3 0) 4 0) 5 0) 6 0) 7 0) 8 0) 9 0) 10 0) 11 0) 12 0) 13 0) 14 0) 15 0)), (a10, zI K 60000 (va_up (va_up (va_up (va_up (va_up (va_up (va_up (va_up (va_up (va_up (va_up (va_up (va_up (va_up (va_up (va_up f10 0 0) 1 0) 2 0) 3 0) 4 0) 5 0) 6 0) 7 0) 8 0) 9 0) 10 0) 11 0) 12 0) 13 0) 14 0) 15 0)), (a11, zI K 60000 (va_up (va_up (va_up (va_up (va_up (va_up (va_up (va_up (va_up (va_up (va_up (va_up (va_up (va_up (va_up (va_up f11 0 0) 1 0) 2 0) 3 0) 4 0) 5 0) 6 0) 7 0) 8 0) 9 0) 10 0) 11 0) 12 0) 13 0) 14 0) 15 0)), (a12, zI K 60000 (va_up (va_up (va_up (va_up (va_up (va_up (va_up (va_up (va_up (va_up (va_up (va_up (va_up (va_up (va_up (va_up f12 0 0) 1 0) 2 0) 3 0) 4 0) 5 0) 6 0) 7 0) 8 0) 9 0) 10 0) 11 0) 12 0) 13 0) 14 0) 15 0)), (a13, zI K 60000 (va_up (va_up (va_up (va_up (va_up (va_up (va_up (va_up (va_up (va_up (va_up (va_up (va_up (va_up (va_up (va_up f13 0 (-1)) 1 (-1)) 2 (-1)) 3 (-1)) 4 (-1)) 5 (-1)) 6 (-1)) 7 (-1)) 8 (-1)) 9 (-1)) 10 (-1)) 11 (-1)) 12 (-1)) 13 (-1)) 14 (-1)) 15 (-1))), (a14, zI K 60000 (va_up (va_up (va_up (va_up (va_up (va_up (va_up (va_up (va_up (va_up (va_up (va_up (va_up (va_up (va_up (va_up f14 0 0) 1 0) 2 0) 3 0) 4 0) 5 0) 6 0) 7 0) 8 0) 9 0) 10 0) 11 0) 12 0) 13 0) 14 0) 15 0))] H := hP.sub [5, 1, 2, 3, 0, 8, 4, 6, 7, 9, 10, 11, 12, 13, 14] rfl
  have hD9 : va_D A [(a0, zO 10 83 (va_up (va_up (va_up (va_up (va_up (va_up (va_up (va_up (va_up (va_up (va_up (va_up (va_up (va_up (va_up (va_up (va_up (va_up (va_up (va_up (va_up (va_up (va_up (va_up (va_up (va_up (va_up (va_up (va_up (va_up (va_up (va_up (va_up (va_up (va_up (va_up (va_up (va_up (va_up (va_up (va_up (va_up (va_up (va_up (va_up (va_up (va_up (va_up (va_up g0 79 (.int 0)) 55 (.int 0)) 58 (.int 0)) 59 (.int 600)) 72 (.int 0)) 77 (.int 0)) 62 (.int 1280)) 63 (.int (-1))) 64 (.int 0)) 65 (.int 0)) 61 (.int (-1))) 58 (.int 1)) 61 (.int 5)) 54 (.int 0)) 54 (.int 1)) 54 (.int 2)) 54 (.int 3)) 54 (.int 4)) 54 (.int 5)) 54 (.int 6)) 54 (.int 7)) 54 (.int 8)) 54 (.int 9)) 54 (.int 10)) 54 (.int 11)) 54 (.int 12)) 54 (.int 13)) 54 (.int 14)) 54 (.int 15)) 54 (.int 16)) 54 (.int 15)) 54 (.int 14)) 54 (.int 13)) 54 (.int 12)) 54 (.int 11)) 54 (.int 10)) 54 (.int 9)) 54 (.int 8)) 54 (.int 7)) 54 (.int 6)) 54 (.int 5)) 54 (.int 4)) 54 (.int 3)) 54 (.int 2)) 54 (.int 1)) 54 (.int 0)) 32 (.int 16)) 40 (.int 0)) 46 (.int 0))), (a1, zI K 10 (va_up (va_up (va_up (va_up (va_up (va_up (va_up (va_up (va_up (va_up (va_up (va_up f1 0 0) 1 0) 2 0) 3 0) 4 0) 5 0) 6 0) 7 0) 8 0) 9 0) 6 1) 0 1)), (a2, zI K 1290 (va_up f2 1280 2)), (a3, zI K 1290 (va_up f3 1280 (nI j0))), (a4, zI K 1290 (va_up f4 1280 1281)), (a5, zI K 60000 (va_up (va_up (va_up (va_up (va_up (va_up (va_up (va_up (va_up (va_up (va_up (va_up (va_up (va_up (va_up (va_up f5 0 0) 1 0) 2 0) 3 0) 4 0) 5 0) 6 0) 7 0) 8 0) 9 0) 10 0) 11 0) 12 0) 13 0) 14 0) 15 0)), (a6, zI K 16 f6), (a7, zI K 210000 (va_up (va_up (va_up (va_up (va_up (va_up (va_up (va_up (va_up (va_up (va_up (va_up (va_up (va_up (va_up (va_up (va_up (va_up (va_up (va_up (va_up (va_up (va_up (va_up (va_up (va_up (va_up (va_up (va_up (va_up (va_up (va_up (va_up (va_up (va_up (va_up (va_up (va_up (va_up (va_up (va_up (va_up (va_up (va_up (va_up (va_up (va_up (va_up f7 0 (-1)) 1 (-1)) 2 (-1)) 3 (-1)) 4 (-1)) 5 (-1)) 6 (-1)) 7 (-1)) 8 (-1)) 9 (-1)) 10 (-1)) 11 (-1)) 12 (-1)) 13 (-1)) 14 (-1)) 15 (-1)) 0 0) 1 0) 2 0) 3 0) 4 0) 5 0) 6 0) 7 0) 8 0) 9 0) 10 0) 11 0) 12 0) 13 0) 14 0) 15 0) 0 0) 1 1) 2 2) 3 3) 4 4) 5 5) 6 6) 7 7) 8 8) 9 9) 10 10) 11 11) 12 12) 13 13) 14 14) 15 15)), (a8, zI K 210000 (va_up (va_up (va_up (va_up (va_up (va_up (va_up (va_up (va_up (va_up (va_up (va_up (va_up (va_up (va_up (va_up f8 0 0) 1 1) 2 2) 3 3) 4 4) 5 5) 6 6) 7 7) 8 8) 9 9) 10 10) 11 11) 12 12) 13 13) 14 14) 15 15)), (a9, zI K 60000 (va_up (va_up (va_up (va_up (va_up (va_up (va_up (va_up (va_up (va_up (va_up (va_up (va_up (va_up (va_up (va_up f9 0 0) 1 0) 2 0) 3 0) 4 0) 5 0) 6 0) 7 0) 8 0) 9 0) 10 0) 11 0) 12 0) 13 0) 14 0) 15 0)), (a10, zI K 60000 (va_up (va_up (va_up (va_up (va_up (va_up (va_up (va_up (va_up (va_up (va_up (va_up (va_up (va_up (va_up (va_up f10 0 0) 1 0) 2 0) 3 0) 4 0) 5 0) 6 0) 7 0) 8 0) 9 0) 10 0) 11 0) 12 0) 13 0) 14 0) 15 0)), (a11, zI K 60000 (va_up (va_up (va_up (va_up (va_up (va_up (va_up (va_up (va_up (va_up (va_up (va_up (va_up (va_up (va_up (va_up f11 0 0) 1 0) 2 0) 3 0) 4 0) 5 0) 6 0) 7 0) 8 0) 9 0) 10 0) 11 0) 12 0) 13 0) 14 0) 15 0)), (a12, zI K 60000 (va_up (va_up (va_up (va_up (va_up (va_up (va_up (va_up (va_up (va_up (va_up (va_up (va_up (va_up (va_up (va_up f12 0 0) 1 0) 2 0) 3 0) 4 0) 5 0) 6 0) 7 0) 8 0) 9 0) 10 0) 11 0) 12 0) 13 0) 14 0) 15 0)), (a13, zI K 60000 (va_up (va_up (va_up (va_up (va_up (va_up (va_up (va_up (va_up (va_up (va_up (va_up (va_up (va_up (va_up (va_up f13 0 (-1)) 1 (-1)) 2 (-1)) 3 (-1)) 4 (-1)) 5 (-1)) 6 (-1)) 7 (-1)) 8 (-1)) 9 (-1)) 10 (-1)) 11 (-1)) 12 (-1)) 13 (-1)) 14 (-1)) 15 (-1))), (a14, zI K 60000 (va_up (va_up (va_up (va_up (va_up (va_up (va_up (va_up (va_up (va_up (va_up (va_up (va_up (va_up (va_up (va_up f14 0 0) 1 0) 2 0) 3 0) 4 0) 5 0) 6 0) 7 0) 8 0) 9 0) 10 0) 11 0) 12 0) 13 0) 14 0) 15 0))] := hD.sub [5, 1, 2, 3, 0, 8, 4, 6, 7, 9, 10, 11, 12, 13, 14] (by decide) rfl
  exact z_iret hx hb hr (fun _ => 0) rfl hP9 hD9 hS (Nat.le_of_ble_eq_true rfl) (Nat.le_of_ble_eq_true rfl) hlocks dX12_begins_188
set_option maxHeartbeats 4000000 in
set_option maxRecDepth 100000 in
theorem cX12_run_11 (l : Launch) (K : zK) (sz : Nat) (a0 : Nat) (a1 : Nat) (a2 : Nat) (a3 : Nat) (a4 : Nat) (a5 : Nat) (a6 : Nat) (a7 : Nat) (a8 : Nat) (a9 : Nat) (a10 : Nat) (a11 : Nat) (a12 : Nat) (a13 : Nat) (a14 : Nat) (g0 : Nat → Value) (f1 : Nat → Int32) (f2 : Nat → Int32) (f3 : Nat → Int32) (f4 : Nat → Int32) (f5 : Nat → Int32) (f6 : Nat → Int32) (f7 : Nat → Int32) (f8 : Nat → Int32) (f9 : Nat → Int32) (f10 : Nat → Int32) (f11 : Nat → Int32) (f12 : Nat → Int32) (f13 : Nat → Int32) (f14 : Nat → Int32) (j0 : Nat) (hj0 : j0 < 8) (x1 : Int32) (x2 : Int32) (x3 : Int32) (e0 : ¬ x3 < (0 : Int32)) (e1 : ¬ (600 : Int32) < x3) (e2 : g0 80 = (.ref a1)) (e3 : g0 8 = (.ref a2)) (e4 : g0 9 = (.ref a3)) (e5 : g0 13 = (.ref a4)) (e6 : g0 57 = (.int 0)) (e7 : ¬ (1 : Int32) = x3) (e8 : g0 33 = (.ref a5)) (e9 : ∀ j : Nat, f5 j = 0) (e10 : g0 14 = (.ref a6)) (e11 : ∀ j : Nat, f6 j = 0) (e12 : g0 32 = (.int 16)) (e13 : g0 52 = (.ref a7)) (e14 : g0 40 = (.int 0)) (e15 : g0 46 = (.int 0)) (e16 : g0 53 = (.ref a8)) (e17 : g0 34 = (.ref a9)) (e18 : f9 0 = 0) (e19 : g0 35 = (.ref a10)) (e20 : g0 36 = (.ref a11)) (e21 : g0 37 = (.ref a12)) (e22 : f12 0 = 0) (e23 : g0 38 = (.ref a13)) (e24 : g0 39 = (.ref a14)) (e25 : f14 0 = 0) (e26 : f9 1 = 0) (e27 : f12 1 = 0) (e28 : f14 1 = 0) (e29 : f9 2 = 0) (e30 : f12 2 = 0) (e31 : f14 2 = 0) (e32 : f9 3 = 0) (e33 : f12 3 = 0) (e34 : f14 3 = 0) (e35 : f9 4 = 0) (e36 : f12 4 = 0) (e37 : f14 4 = 0) (e38 : f9 5 = 0) (e39 : f12 5 = 0) (e40 : f14 5 = 0) (e41 : f9 6 = 0) (e42 : f12 6 = 0) (e43 : f14 6 = 0) (e44 : f9 7 = 0) (e45 : f12 7 = 0) (e46 : f14 7 = 0) (e47 : f9 8 = 0) (e48 : f12 8 = 0) (e49 : f14 8 = 0) (e50 : f9 9 = 0) (e51 : f12 9 = 0) (e52 : f14 9 = 0) (e53 : f9 10 = 0) (e54 : f12 10 = 0) (e55 : f14 10 = 0) (e56 : f9 11 = 0) (e57 : f12 11 = 0) (e58 : f14 11 = 0) (e59 : f9 12 = 0) (e60 : f12 12 = 0) (e61 : f14 12 = 0) (e62 : f9 13 = 0) (e63 : f12 13 = 0) (e64 : f14 13 = 0) (e65 : f9 14 = 0) (e66 : f12 14 = 0) (e67 : f14 14 = 0) (e68 : f9 15 = 0) (e69 : f12 15 = 0) (e70 : f14 15 = 0) : Met l yX12_run (Cond.code yX12_run cX12_run 7 (some .int) :: WG) { frames := 5, cells := 0, slots := 0, locals := 111 } (zPre K [(a0, zO 10 83 g0), (a1, zI K 10 f1), (a2, zI K 1290 f2), (a3, zI K 1290 f3), (a4, zI K 1290 f4), (a5, zI K 60000 f5), (a6, zI K 16 f6), (a7, zI K 210000 f7), (a8, zI K 210000 f8), (a9, zI K 60000 f9), (a10, zI K 60000 f10), (a11, zI K 60000 f11), (a12, zI K 60000 f12), (a13, zI K 60000 f13), (a14, zI K 60000 f14)] sz [.ref a0, .int (nI j0), .int 0, .int x1, .int x2, .int x3, .int 0]) (va_Qi (fun (r : Int32) (_ : Nat → Nat) => r = 5) (zB K (va_A [(a0, zO 10 83 g0), (a1, zI K 10 f1), (a2, zI K 1290 f2), (a3, zI K 1290 f3), (a4, zI K 1290 f4), (a5, zI K 60000 f5), (a6, zI K 16 f6), (a7, zI K 210000 f7), (a8, zI K 210000 f8), (a9, zI K 60000 f9), (a10, zI K 60000 f10), (a11, zI K 60000 f11), (a12, zI K 60000 f12), (a13, zI K 60000 f13), (a14, zI K 60000 f14)] sz) (fun u : Nat → Nat => [(a0, zO 10 83 (va_up (va_up (va_up (va_up (va_up (va_up (va_up (va_up (va_up (va_up (va_up (va_up (va_up (va_up (va_up (va_up (va_up (va_up (va_up (va_up (va_up (va_up (va_up (va_up (va_up (va_up (va_up (va_up (va_up (va_up (va_up (va_up (va_up (va_up (va_up (va_up (va_up (va_up (va_up (va_up (va_up (va_up (va_up (va_up (va_up (va_up (va_up (va_up (va_up (va_up (va_up (va_up g0 81 (.int 0)) 56 (.int 0)) 60 (.int x3)) 79 (.int 0)) 55 (.int 0)) 58 (.int 0)) 59 (.int 600)) 72 (.int 0)) 77 (.int 0)) 62 (.int 1280)) 63 (.int (-1))) 64 (.int 0)) 65 (.int 0)) 61 (.int (-1))) 58 (.int 1)) 61 (.int 5)) 54 (.int 0)) 54 (.int 1)) 54 (.int 2)) 54 (.int 3)) 54 (.int 4)) 54 (.int 5)) 54 (.int 6)) 54 (.int 7)) 54 (.int 8)) 54 (.int 9)) 54 (.int 10)) 54 (.int 11)) 54 (.int 12)) 54 (.int 13)) 54 (.int 14)) 54 (.int 15)) 54 (.int 16)) 54 (.int 15)) 54 (.int 14)) 54 (.int 13)) 54 (.int 12)) 54 (.int 11)) 54 (.int 10)) 54 (.int 9)) 54 (.int 8)) 54 (.int 7)) 54 (.int 6)) 54 (.int 5)) 54 (.int 4)) 54 (.int 3)) 54 (.int 2)) 54 (.int 1)) 54 (.int 0)) 32 (.int 16)) 40 (.int 0)) 46 (.int 0)))])) (va_A [(a0, zO 10 83 g0), (a1, zI K 10 f1), (a2, zI K 1290 f2), (a3, zI K 1290 f3), (a4, zI K 1290 f4), (a5, zI K 60000 f5), (a6, zI K 16 f6), (a7, zI K 210000 f7), (a8, zI K 210000 f8), (a9, zI K 60000 f9), (a10, zI K 60000 f10), (a11, zI K 60000 f11), (a12, zI K 60000 f12), (a13, zI K 60000 f13), (a14, zI K 60000 f14)] sz)) 0 0 (va_A [(a0, zO 10 83 g0), (a1, zI K 10 f1), (a2, zI K 1290 f2), (a3, zI K 1290 f3), (a4, zI K 1290 f4), (a5, zI K 60000 f5), (a6, zI K 16 f6), (a7, zI K 210000 f7), (a8, zI K 210000 f8), (a9, zI K 60000 f9), (a10, zI K 60000 f10), (a11, zI K 60000 f11), (a12, zI K 60000 f12), (a13, zI K 60000 f13), (a14, zI K 60000 f14)] sz) := by
  refine z_met (Qc := fun A => (va_Qi (fun (r : Int32) (_ : Nat → Nat) => r = 5) (zB K A (fun u : Nat → Nat => [(a0, zO 10 83 (va_up (va_up (va_up (va_up (va_up (va_up (va_up (va_up (va_up (va_up (va_up (va_up (va_up (va_up (va_up (va_up (va_up (va_up (va_up (va_up (va_up (va_up (va_up (va_up (va_up (va_up (va_up (va_up (va_up (va_up (va_up (va_up (va_up (va_up (va_up (va_up (va_up (va_up (va_up (va_up (va_up (va_up (va_up (va_up (va_up (va_up (va_up (va_up (va_up (va_up (va_up (va_up g0 81 (.int 0)) 56 (.int 0)) 60 (.int x3)) 79 (.int 0)) 55 (.int 0)) 58 (.int 0)) 59 (.int 600)) 72 (.int 0)) 77 (.int 0)) 62 (.int 1280)) 63 (.int (-1))) 64 (.int 0)) 65 (.int 0)) 61 (.int (-1))) 58 (.int 1)) 61 (.int 5)) 54 (.int 0)) 54 (.int 1)) 54 (.int 2)) 54 (.int 3)) 54 (.int 4)) 54 (.int 5)) 54 (.int 6)) 54 (.int 7)) 54 (.int 8)) 54 (.int 9)) 54 (.int 10)) 54 (.int 11)) 54 (.int 12)) 54 (.int 13)) 54 (.int 14)) 54 (.int 15)) 54 (.int 16)) 54 (.int 15)) 54 (.int 14)) 54 (.int 13)) 54 (.int 12)) 54 (.int 11)) 54 (.int 10)) 54 (.int 9)) 54 (.int 8)) 54 (.int 7)) 54 (.int 6)) 54 (.int 5)) 54 (.int 4)) 54 (.int 3)) 54 (.int 2)) 54 (.int 1)) 54 (.int 0)) 32 (.int 16)) 40 (.int 0)) 46 (.int 0)))])) A)) (by decide +kernel) (Nat.le_of_ble_eq_true rfl) ?_
  intro p e s m args below meth c A ls H hx hb hr hg hown hlocks hml hin hK hP hD hA hS hZ hl
  have hown : s.vm.findClass RX12 = some m.cls := hown
  have hl : lv_has ls 7 [(0, .ref a0), (1, .int (nI j0)), (2, .int 0), (3, .int x1), (4, .int x2), (5, .int x3), (6, .int 0)] := hl
  refine lv_aload_n hx hb dX12_run_0 rfl (lv_at hl 0 rfl) ?_
  refine lv_iload_n hx hb dX12_run_1 rfl (lv_at hl 1 rfl) ?_
  refine lv_iload_n hx hb dX12_run_2 rfl (lv_at hl 2 rfl) ?_
  refine lv_iload hx hb dX12_run_3 (lv_at hl 5 rfl) ?_
  refine lv_iconst (v := 0) hx hb dX12_run_5 (by decide) ?_
  refine lv_sipush (v := 600) hx hb dX12_run_6 (by decide) ?_
  refine z_calli [] [(a0, zO 10 83 g0), (a1, zI K 10 f1), (a2, zI K 1290 f2), (a3, zI K 1290 f3), (a4, zI K 1290 f4), (a5, zI K 60000 f5), (a6, zI K 16 f6), (a7, zI K 210000 f7), (a8, zI K 210000 f8), (a9, zI K 60000 f9), (a10, zI K 60000 f10), (a11, zI K 60000 f11), (a12, zI K 60000 f12), (a13, zI K 60000 f13), (a14, zI K 60000 f14)] [] [0, 1, 2, 3, 4, 5, 6, 7, 8, 9, 10, 11, 12, 13, 14] hP hD hS hA rfl rfl (by decide) (by decide) (by decide +kernel) 0 0 rfl rfl (fun hPc hDc hF => z_runS (As := [.int x3, .int 0, .int 600]) (rest := [.int 0, .int (nI j0), .ref a0]) ⟨hx, hb, hml, hown, hg⟩ (cX12_isIn_22 l K H.size x3 e0 e1) kS_RX12_175 hd_X12_isIn rfl rfl ⟨(Nat.le_of_ble_eq_true rfl), (Nat.le_of_ble_eq_true rfl)⟩ hK hS hZ hPc hDc hF rfl hl.1 rfl (Nat.le_of_ble_eq_true rfl) dX12_run_9 ⟨(Nat.le_of_ble_eq_true rfl), (Nat.le_of_ble_eq_true rfl)⟩) (fun r3 u1 H locs w2 hP hD hS => ?_)
  subst w2
  have hP : va_P K.1 classes [(a0, zO 10 83 g0), (a1, zI K 10 f1), (a2, zI K 1290 f2), (a3, zI K 1290 f3), (a4, zI K 1290 f4), (a5, zI K 60000 f5), (a6, zI K 16 f6), (a7, zI K 210000 f7), (a8, zI K 210000 f8), (a9, zI K 60000 f9), (a10, zI K 60000 f10), (a11, zI K 60000 f11), (a12, zI K 60000 f12), (a13, zI K 60000 f13), (a14, zI K 60000 f14)] H := hP
  have hD : va_D A [(a0, zO 10 83 g0), (a1, zI K 10 f1), (a2, zI K 1290 f2), (a3, zI K 1290 f3), (a4, zI K 1290 f4), (a5, zI K 60000 f5), (a6, zI K 16 f6), (a7, zI K 210000 f7), (a8, zI K 210000 f8), (a9, zI K 60000 f9), (a10, zI K 60000 f10), (a11, zI K 60000 f11), (a12, zI K 60000 f12), (a13, zI K 60000 f13), (a14, zI K 60000 f14)] := hD
  refine lv_iload hx hb dX12_run_12 (lv_at hl 6 rfl) ?_
  refine z_calli [(a0, zO 10 83 g0)] [(a1, zI K 10 f1), (a2, zI K 1290 f2), (a3, zI K 1290 f3), (a4, zI K 1290 f4), (a5, zI K 60000 f5), (a6, zI K 16 f6), (a7, zI K 210000 f7), (a8, zI K 210000 f8), (a9, zI K 60000 f9), (a10, zI K 60000 f10), (a11, zI K 60000 f11), (a12, zI K 60000 f12), (a13, zI K 60000 f13), (a14, zI K 60000 f14)] [0] [1, 2, 3, 4, 5, 6, 7, 8, 9, 10, 11, 12, 13, 14] hP hD hS hA rfl rfl (by decide) (by decide) (by decide +kernel) 0 0 rfl rfl (fun hPc hDc hF => z_runV (As := [.int (nI j0), .int 0, .int 1, .int 0]) (rest := []) ⟨hx, hb, hml, hown, hg⟩ (cX12_mayRun_9 l K H.size a0 g0 j0 hj0) kV_RX12_492 hd_X12_mayRun rfl rfl ⟨(Nat.le_of_ble_eq_true rfl), (Nat.le_of_ble_eq_true rfl)⟩ hK hS hZ hPc hDc hF 0 rfl rfl rfl hl.1 rfl (Nat.le_of_ble_eq_true rfl) dX12_run_14 ⟨(Nat.le_of_ble_eq_true rfl), (Nat.le_of_ble_eq_true rfl)⟩) (fun r6 u4 H locs w5 hP hD hS => ?_)
  subst w5
  have hP : va_P K.1 classes [(a1, zI K 10 f1), (a2, zI K 1290 f2), (a3, zI K 1290 f3), (a4, zI K 1290 f4), (a5, zI K 60000 f5), (a6, zI K 16 f6), (a7, zI K 210000 f7), (a8, zI K 210000 f8), (a9, zI K 60000 f9), (a10, zI K 60000 f10), (a11, zI K 60000 f11), (a12, zI K 60000 f12), (a13, zI K 60000 f13), (a14, zI K 60000 f14), (a0, zO 10 83 (va_up g0 81 (.int 0)))] H := hP
  have hD : va_D A [(a1, zI K 10 f1), (a2, zI K 1290 f2), (a3, zI K 1290 f3), (a4, zI K 1290 f4), (a5, zI K 60000 f5), (a6, zI K 16 f6), (a7, zI K 210000 f7), (a8, zI K 210000 f8), (a9, zI K 60000 f9), (a10, zI K 60000 f10), (a11, zI K 60000 f11), (a12, zI K 60000 f12), (a13, zI K 60000 f13), (a14, zI K 60000 f14), (a0, zO 10 83 (va_up g0 81 (.int 0)))] := hD
  refine lv_if_ne (tgt := 22) hx hb dX12_run_17 (by decide) (fun _ => ?_) (fun c => absurd c (by decide))
  refine lv_aload_n hx hb dX12_run_22 rfl (lv_at hl 0 rfl) ?_
  refine lv_iconst (v := 0) hx hb dX12_run_23 (by decide) ?_
  refine z_put hx hb hg hown hK hP hD hS i_X12 rfl tyX12_ok nmX12 14 rfl 56 (by decide) mt1336 rfl rfl rfl dX12_run_24 (fun gg7 H locs y8 hP hD hS => ?_)
  have hP : va_P K.1 classes [(a1, zI K 10 f1), (a2, zI K 1290 f2), (a3, zI K 1290 f3), (a4, zI K 1290 f4), (a5, zI K 60000 f5), (a6, zI K 16 f6), (a7, zI K 210000 f7), (a8, zI K 210000 f8), (a9, zI K 60000 f9), (a10, zI K 60000 f10), (a11, zI K 60000 f11), (a12, zI K 60000 f12), (a13, zI K 60000 f13), (a14, zI K 60000 f14), (a0, zO 10 83 gg7)] H := hP
  have hD : va_D A [(a1, zI K 10 f1), (a2, zI K 1290 f2), (a3, zI K 1290 f3), (a4, zI K 1290 f4), (a5, zI K 60000 f5), (a6, zI K 16 f6), (a7, zI K 210000 f7), (a8, zI K 210000 f8), (a9, zI K 60000 f9), (a10, zI K 60000 f10), (a11, zI K 60000 f11), (a12, zI K 60000 f12), (a13, zI K 60000 f13), (a14, zI K 60000 f14), (a0, zO 10 83 gg7)] := hD
  refine lv_aload_n hx hb dX12_run_27 rfl (lv_at hl 0 rfl) ?_
  refine lv_iload hx hb dX12_run_28 (lv_at hl 5 rfl) ?_
  refine z_put hx hb hg hown hK hP hD hS i_X12 rfl tyX12_ok nmX12 14 rfl 60 (by decide) mt1340 rfl rfl rfl dX12_run_30 (fun gg9 H locs y10 hP hD hS => ?_)
  have hP : va_P K.1 classes [(a1, zI K 10 f1), (a2, zI K 1290 f2), (a3, zI K 1290 f3), (a4, zI K 1290 f4), (a5, zI K 60000 f5), (a6, zI K 16 f6), (a7, zI K 210000 f7), (a8, zI K 210000 f8), (a9, zI K 60000 f9), (a10, zI K 60000 f10), (a11, zI K 60000 f11), (a12, zI K 60000 f12), (a13, zI K 60000 f13), (a14, zI K 60000 f14), (a0, zO 10 83 gg9)] H := hP
  have hD : va_D A [(a1, zI K 10 f1), (a2, zI K 1290 f2), (a3, zI K 1290 f3), (a4, zI K 1290 f4), (a5, zI K 60000 f5), (a6, zI K 16 f6), (a7, zI K 210000 f7), (a8, zI K 210000 f8), (a9, zI K 60000 f9), (a10, zI K 60000 f10), (a11, zI K 60000 f11), (a12, zI K 60000 f12), (a13, zI K 60000 f13), (a14, zI K 60000 f14), (a0, zO 10 83 gg9)] := hD
  refine lv_aload_n hx hb dX12_run_33 rfl (lv_at hl 0 rfl) ?_
  refine lv_iload_n hx hb dX12_run_34 rfl (lv_at hl 1 rfl) ?_
  refine lv_iload_n hx hb dX12_run_35 rfl (lv_at hl 2 rfl) ?_
  refine lv_iload_n hx hb dX12_run_36 rfl (lv_at hl 3 rfl) ?_
  refine lv_iload hx hb dX12_run_37 (lv_at hl 4 rfl) ?_
  refine lv_iload hx hb dX12_run_39 (lv_at hl 6 rfl) ?_
  refine z_calli [(a0, zO 10 83 gg9), (a1, zI K 10 f1), (a2, zI K 1290 f2), (a3, zI K 1290 f3), (a4, zI K 1290 f4), (a5, zI K 60000 f5), (a6, zI K 16 f6), (a7, zI K 210000 f7), (a8, zI K 210000 f8), (a9, zI K 60000 f9), (a10, zI K 60000 f10), (a11, zI K 60000 f11), (a12, zI K 60000 f12), (a13, zI K 60000 f13), (a14, zI K 60000 f14)] [] [14, 0, 1, 2, 3, 4, 5, 6, 7, 8, 9, 10, 11, 12, 13] [] hP hD hS hA rfl rfl (by decide) (by decide) (by decide +kernel) 0 0 rfl rfl (fun hPc hDc hF => z_runV (As := [.int (nI j0), .int 0, .int x1, .int x2, .int 0]) (rest := []) ⟨hx, hb, hml, hown, hg⟩ (cX12_begins_4 l K H.size a0 a1 a2 a3 a4 a5 a6 a7 a8 a9 a10 a11 a12 a13 a14 gg9 f1 f2 f3 f4 f5 f6 f7 f8 f9 f10 f11 f12 f13 f14 j0 hj0 x1 x2 x3 (zu_of y10 (zu_ne (by decide) (zu_of y8 (zu_ne (by decide) (zu_ne (by decide) e2))))) (zu_of y10 (zu_ne (by decide) (zu_of y8 (zu_ne (by decide) (zu_ne (by decide) e3))))) (zu_of y10 (zu_ne (by decide) (zu_of y8 (zu_ne (by decide) (zu_ne (by decide) e4))))) (zu_of y10 (zu_ne (by decide) (zu_of y8 (zu_ne (by decide) (zu_ne (by decide) e5))))) (zu_of y10 (zu_ne (by decide) (zu_of y8 (zu_ne (by decide) (zu_ne (by decide) e6))))) (zu_of y10 zu_eq) e7 (zu_of y10 (zu_ne (by decide) (zu_of y8 (zu_ne (by decide) (zu_ne (by decide) e8))))) e9 (zu_of y10 (zu_ne (by decide) (zu_of y8 (zu_ne (by decide) (zu_ne (by decide) e10))))) e11 (zu_of y10 (zu_ne (by decide) (zu_of y8 (zu_ne (by decide) (zu_ne (by decide) e12))))) (zu_of y10 (zu_ne (by decide) (zu_of y8 (zu_ne (by decide) (zu_ne (by decide) e13))))) (zu_of y10 (zu_ne (by decide) (zu_of y8 (zu_ne (by decide) (zu_ne (by decide) e14))))) (zu_of y10 (zu_ne (by decide) (zu_of y8 (zu_ne (by decide) (zu_ne (by decide) e15))))) (zu_of y10 (zu_ne (by decide) (zu_of y8 (zu_ne (by decide) (zu_ne (by decide) e16))))) (zu_of y10 (zu_ne (by decide) (zu_of y8 (zu_ne (by decide) (zu_ne (by decide) e17))))) e18 (zu_of y10 (zu_ne (by decide) (zu_of y8 (zu_ne (by decide) (zu_ne (by decide) e19))))) (zu_of y10 (zu_ne (by decide) (zu_of y8 (zu_ne (by decide) (zu_ne (by decide) e20))))) (zu_of y10 (zu_ne (by decide) (zu_of y8 (zu_ne (by decide) (zu_ne (by decide) e21))))) e22 (zu_of y10 (zu_ne (by decide) (zu_of y8 (zu_ne (by decide) (zu_ne (by decide) e23))))) (zu_of y10 (zu_ne (by decide) (zu_of y8 (zu_ne (by decide) (zu_ne (by decide) e24))))) e25 e26 e27 e28 e29 e30 e31 e32 e33 e34 e35 e36 e37 e38 e39 e40 e41 e42 e43 e44 e45 e46 e47 e48 e49 e50 e51 e52 e53 e54 e55 e56 e57 e58 e59 e60 e61 e62 e63 e64 e65 e66 e67 e68 e69 e70) kV_RX12_496 hd_X12_begins rfl rfl ⟨(Nat.le_of_ble_eq_true rfl), (Nat.le_of_ble_eq_true rfl)⟩ hK hS hZ hPc hDc hF 0 rfl rfl rfl hl.1 rfl (Nat.le_of_ble_eq_true rfl) dX12_run_41 ⟨(Nat.le_of_ble_eq_true rfl), (Nat.le_of_ble_eq_true rfl)⟩) (fun r13 u11 H locs w12 hP hD hS => ?_)
  subst w12
  have hP : va_P K.1 classes [(a0, zO 10 83 (va_up (va_up (va_up (va_up (va_up (va_up (va_up (va_up (va_up (va_up (va_up (va_up (va_up (va_up (va_up (va_up (va_up (va_up (va_up (va_up (va_up (va_up (va_up (va_up (va_up (va_up (va_up (va_up (va_up (va_up (va_up (va_up (va_up (va_up (va_up (va_up (va_up (va_up (va_up (va_up (va_up (va_up (va_up (va_up (va_up (va_up (va_up (va_up (va_up gg9 79 (.int 0)) 55 (.int 0)) 58 (.int 0)) 59 (.int 600)) 72 (.int 0)) 77 (.int 0)) 62 (.int 1280)) 63 (.int (-1))) 64 (.int 0)) 65 (.int 0)) 61 (.int (-1))) 58 (.int 1)) 61 (.int 5)) 54 (.int 0)) 54 (.int 1)) 54 (.int 2)) 54 (.int 3)) 54 (.int 4)) 54 (.int 5)) 54 (.int 6)) 54 (.int 7)) 54 (.int 8)) 54 (.int 9)) 54 (.int 10)) 54 (.int 11)) 54 (.int 12)) 54 (.int 13)) 54 (.int 14)) 54 (.int 15)) 54 (.int 16)) 54 (.int 15)) 54 (.int 14)) 54 (.int 13)) 54 (.int 12)) 54 (.int 11)) 54 (.int 10)) 54 (.int 9)) 54 (.int 8)) 54 (.int 7)) 54 (.int 6)) 54 (.int 5)) 54 (.int 4)) 54 (.int 3)) 54 (.int 2)) 54 (.int 1)) 54 (.int 0)) 32 (.int 16)) 40 (.int 0)) 46 (.int 0))), (a1, zI K 10 (va_up (va_up (va_up (va_up (va_up (va_up (va_up (va_up (va_up (va_up (va_up (va_up f1 0 0) 1 0) 2 0) 3 0) 4 0) 5 0) 6 0) 7 0) 8 0) 9 0) 6 1) 0 1)), (a2, zI K 1290 (va_up f2 1280 2)), (a3, zI K 1290 (va_up f3 1280 (nI j0))), (a4, zI K 1290 (va_up f4 1280 1281)), (a5, zI K 60000 (va_up (va_up (va_up (va_up (va_up (va_up (va_up (va_up (va_up (va_up (va_up (va_up (va_up (va_up (va_up (va_up f5 0 0) 1 0) 2 0) 3 0) 4 0) 5 0) 6 0) 7 0) 8 0) 9 0) 10 0) 11 0) 12 0) 13 0) 14 0) 15 0)), (a6, zI K 16 f6), (a7, zI K 210000 (va_up (va_up (va_up (va_up (va_up (va_up (va_up (va_up (va_up (va_up (va_up (va_up (va_up (va_up (va_up (va_up (va_up (va_up (va_up (va_up (va_up (va_up (va_up (va_up (va_up (va_up (va_up (va_up (va_up (va_up (va_up (va_up (va_up (va_up (va_up (va_up (va_up (va_up (va_up (va_up (va_up (va_up (va_up (va_up (va_up (va_up (va_up (va_up f7 0 (-1)) 1 (-1)) 2 (-1)) 3 (-1)) 4 (-1)) 5 (-1)) 6 (-1)) 7 (-1)) 8 (-1)) 9 (-1)) 10 (-1)) 11 (-1)) 12 (-1)) 13 (-1)) 14 (-1)) 15 (-1)) 0 0) 1 0) 2 0) 3 0) 4 0) 5 0) 6 0) 7 0) 8 0) 9 0) 10 0) 11 0) 12 0) 13 0) 14 0) 15 0) 0 0) 1 1) 2 2) 3 3) 4 4) 5 5) 6 6) 7 7) 8 8) 9 9) 10 10) 11 11) 12 12) 13 13) 14 14) 15 15)), (a8, zI K 210000 (va_up (va_up (va_up (va_up (va_up (va_up (va_up (va_up (va_up (va_up (va_up (va_up (va_up (va_up (va_up (va_up f8 0 0) 1 1) 2 2) 3 3) 4 4) 5 5) 6 6) 7 7) 8 8) 9 9) 10 10) 11 11) 12 12) 13 13) 14 14) 15 15)), (a9, zI K 60000 (va_up (va_up (va_up (va_up (va_up (va_up (va_up (va_up (va_up (va_up (va_up (va_up (va_up (va_up (va_up (va_up f9 0 0) 1 0) 2 0) 3 0) 4 0) 5 0) 6 0) 7 0) 8 0) 9 0) 10 0) 11 0) 12 0) 13 0) 14 0) 15 0)), (a10, zI K 60000 (va_up (va_up (va_up (va_up (va_up (va_up (va_up (va_up (va_up (va_up (va_up (va_up (va_up (va_up (va_up (va_up f10 0 0) 1 0) 2 0) 3 0) 4 0) 5 0) 6 0) 7 0) 8 0) 9 0) 10 0) 11 0) 12 0) 13 0) 14 0) 15 0)), (a11, zI K 60000 (va_up (va_up (va_up (va_up (va_up (va_up (va_up (va_up (va_up (va_up (va_up (va_up (va_up (va_up (va_up (va_up f11 0 0) 1 0) 2 0) 3 0) 4 0) 5 0) 6 0) 7 0) 8 0) 9 0) 10 0) 11 0) 12 0) 13 0) 14 0) 15 0)), (a12, zI K 60000 (va_up (va_up (va_up (va_up (va_up (va_up (va_up (va_up (va_up (va_up (va_up (va_up (va_up (va_up (va_up (va_up f12 0 0) 1 0) 2 0) 3 0) 4 0) 5 0) 6 0) 7 0) 8 0) 9 0) 10 0) 11 0) 12 0) 13 0) 14 0) 15 0)), (a13, zI K 60000 (va_up (va_up (va_up (va_up (va_up (va_up (va_up (va_up (va_up (va_up (va_up (va_up (va_up (va_up (va_up (va_up f13 0 (-1)) 1 (-1)) 2 (-1)) 3 (-1)) 4 (-1)) 5 (-1)) 6 (-1)) 7 (-1)) 8 (-1)) 9 (-1)) 10 (-1)) 11 (-1)) 12 (-1)) 13 (-1)) 14 (-1)) 15 (-1))), (a14, zI K 60000 (va_up (va_up (va_up (va_up (va_up (va_up (va_up (va_up (va_up (va_up (va_up (va_up (va_up (va_up (va_up (va_up f14 0 0) 1 0) 2 0) 3 0) 4 0) 5 0) 6 0) 7 0) 8 0) 9 0) 10 0) 11 0) 12 0) 13 0) 14 0) 15 0))] H := hP
  have hD : va_D A [(a0, zO 10 83 (va_up (va_up (va_up (va_up (va_up (va_up (va_up (va_up (va_up (va_up (va_up (va_up (va_up (va_up (va_up (va_up (va_up (va_up (va_up (va_up (va_up (va_up (va_up (va_up (va_up (va_up (va_up (va_up (va_up (va_up (va_up (va_up (va_up (va_up (va_up (va_up (va_up (va_up (va_up (va_up (va_up (va_up (va_up (va_up (va_up (va_up (va_up (va_up (va_up gg9 79 (.int 0)) 55 (.int 0)) 58 (.int 0)) 59 (.int 600)) 72 (.int 0)) 77 (.int 0)) 62 (.int 1280)) 63 (.int (-1))) 64 (.int 0)) 65 (.int 0)) 61 (.int (-1))) 58 (.int 1)) 61 (.int 5)) 54 (.int 0)) 54 (.int 1)) 54 (.int 2)) 54 (.int 3)) 54 (.int 4)) 54 (.int 5)) 54 (.int 6)) 54 (.int 7)) 54 (.int 8)) 54 (.int 9)) 54 (.int 10)) 54 (.int 11)) 54 (.int 12)) 54 (.int 13)) 54 (.int 14)) 54 (.int 15)) 54 (.int 16)) 54 (.int 15)) 54 (.int 14)) 54 (.int 13)) 54 (.int 12)) 54 (.int 11)) 54 (.int 10)) 54 (.int 9)) 54 (.int 8)) 54 (.int 7)) 54 (.int 6)) 54 (.int 5)) 54 (.int 4)) 54 (.int 3)) 54 (.int 2)) 54 (.int 1)) 54 (.int 0)) 32 (.int 16)) 40 (.int 0)) 46 (.int 0))), (a1, zI K 10 (va_up (va_up (va_up (va_up (va_up (va_up (va_up (va_up (va_up (va_up (va_up (va_up f1 0 0) 1 0) 2 0) 3 0) 4 0) 5 0) 6 0) 7 0) 8 0) 9 0) 6 1) 0 1)), (a2, zI K 1290 (va_up f2 1280 2)), (a3, zI K 1290 (va_up f3 1280 (nI j0))), (a4, zI K 1290 (va_up f4 1280 1281)), (a5, zI K 60000 (va_up (va_up (va_up (va_up (va_up (va_up (va_up (va_up (va_up (va_up (va_up (va_up (va_up (va_up (va_up (va_up f5 0 0) 1 0) 2 0) 3 0) 4 0) 5 0) 6 0) 7 0) 8 0) 9 0) 10 0) 11 0) 12 0) 13 0) 14 0) 15 0)), (a6, zI K 16 f6), (a7, zI K 210000 (va_up (va_up (va_up (va_up (va_up (va_up (va_up (va_up (va_up (va_up (va_up (va_up (va_up (va_up (va_up (va_up (va_up (va_up (va_up (va_up (va_up (va_up (va_up (va_up (va_up (va_up (va_up (va_up (va_up (va_up (va_up (va_up (va_up (va_up (va_up (va_up (va_up (va_up (va_up (va_up (va_up (va_up (va_up (va_up (va_up (va_up (va_up (va_up f7 0 (-1)) 1 (-1)) 2 (-1)) 3 (-1)) 4 (-1)) 5 (-1)) 6 (-1)) 7 (-1)) 8 (-1)) 9 (-1)) 10 (-1)) 11 (-1)) 12 (-1)) 13 (-1)) 14 (-1)) 15 (-1)) 0 0) 1 0) 2 0) 3 0) 4 0) 5 0) 6 0) 7 0) 8 0) 9 0) 10 0) 11 0) 12 0) 13 0) 14 0) 15 0) 0 0) 1 1) 2 2) 3 3) 4 4) 5 5) 6 6) 7 7) 8 8) 9 9) 10 10) 11 11) 12 12) 13 13) 14 14) 15 15)), (a8, zI K 210000 (va_up (va_up (va_up (va_up (va_up (va_up (va_up (va_up (va_up (va_up (va_up (va_up (va_up (va_up (va_up (va_up f8 0 0) 1 1) 2 2) 3 3) 4 4) 5 5) 6 6) 7 7) 8 8) 9 9) 10 10) 11 11) 12 12) 13 13) 14 14) 15 15)), (a9, zI K 60000 (va_up (va_up (va_up (va_up (va_up (va_up (va_up (va_up (va_up (va_up (va_up (va_up (va_up (va_up (va_up (va_up f9 0 0) 1 0) 2 0) 3 0) 4 0) 5 0) 6 0) 7 0) 8 0) 9 0) 10 0) 11 0) 12 0) 13 0) 14 0) 15 0)), (a10, zI K 60000 (va_up (va_up (va_up (va_up (va_up (va_up (va_up (va_up (va_up (va_up (va_up (va_up (va_up (va_up (va_up (va_up f10 0 0) 1 0) 2 0) 3 0) 4 0) 5 0) 6 0) 7 0) 8 0) 9 0) 10 0) 11 0) 12 0) 13 0) 14 0) 15 0)), (a11, zI K 60000 (va_up (va_up (va_up (va_up (va_up (va_up (va_up (va_up (va_up (va_up (va_up (va_up (va_up (va_up (va_up (va_up f11 0 0) 1 0) 2 0) 3 0) 4 0) 5 0) 6 0) 7 0) 8 0) 9 0) 10 0) 11 0) 12 0) 13 0) 14 0) 15 0)), (a12, zI K 60000 (va_up (va_up (va_up (va_up (va_up (va_up (va_up (va_up (va_up (va_up (va_up (va_up (va_up (va_up (va_up (va_up f12 0 0) 1 0) 2 0) 3 0) 4 0) 5 0) 6 0) 7 0) 8 0) 9 0) 10 0) 11 0) 12 0) 13 0) 14 0) 15 0)), (a13, zI K 60000 (va_up (va_up (va_up (va_up (va_up (va_up (va_up (va_up (va_up (va_up (va_up (va_up (va_up (va_up (va_up (va_up f13 0 (-1)) 1 (-1)) 2 (-1)) 3 (-1)) 4 (-1)) 5 (-1)) 6 (-1)) 7 (-1)) 8 (-1)) 9 (-1)) 10 (-1)) 11 (-1)) 12 (-1)) 13 (-1)) 14 (-1)) 15 (-1))), (a14, zI K 60000 (va_up (va_up (va_up (va_up (va_up (va_up (va_up (va_up (va_up (va_up (va_up (va_up (va_up (va_up (va_up (va_up f14 0 0) 1 0) 2 0) 3 0) 4 0) 5 0) 6 0) 7 0) 8 0) 9 0) 10 0) 11 0) 12 0) 13 0) 14 0) 15 0))] := hD
  obtain ⟨gg14, y15⟩ : ∃ z, z = ((va_up (va_up (va_up (va_up (va_up (va_up (va_up (va_up (va_up (va_up (va_up (va_up (va_up (va_up (va_up (va_up (va_up (va_up (va_up (va_up (va_up (va_up (va_up (va_up (va_up (va_up (va_up (va_up (va_up (va_up (va_up (va_up (va_up (va_up (va_up (va_up (va_up (va_up (va_up (va_up (va_up (va_up (va_up (va_up (va_up (va_up (va_up (va_up (va_up gg9 79 (.int 0)) 55 (.int 0)) 58 (.int 0)) 59 (.int 600)) 72 (.int 0)) 77 (.int 0)) 62 (.int 1280)) 63 (.int (-1))) 64 (.int 0)) 65 (.int 0)) 61 (.int (-1))) 58 (.int 1)) 61 (.int 5)) 54 (.int 0)) 54 (.int 1)) 54 (.int 2)) 54 (.int 3)) 54 (.int 4)) 54 (.int 5)) 54 (.int 6)) 54 (.int 7)) 54 (.int 8)) 54 (.int 9)) 54 (.int 10)) 54 (.int 11)) 54 (.int 12)) 54 (.int 13)) 54 (.int 14)) 54 (.int 15)) 54 (.int 16)) 54 (.int 15)) 54 (.int 14)) 54 (.int 13)) 54 (.int 12)) 54 (.int 11)) 54 (.int 10)) 54 (.int 9)) 54 (.int 8)) 54 (.int 7)) 54 (.int 6)) 54 (.int 5)) 54 (.int 4)) 54 (.int 3)) 54 (.int 2)) 54 (.int 1)) 54 (.int 0)) 32 (.int 16)) 40 (.int 0)) 46 (.int 0)) : Nat → Value) := ⟨_, rfl⟩
  rw [← y15] at hP hD
  obtain ⟨ff16, y17⟩ : ∃ z, z = ((va_up (va_up (va_up (va_up (va_up (va_up (va_up (va_up (va_up (va_up (va_up (va_up f1 0 0) 1 0) 2 0) 3 0) 4 0) 5 0) 6 0) 7 0) 8 0) 9 0) 6 1) 0 1) : Nat → Int32) := ⟨_, rfl⟩
  rw [← y17] at hP hD
  obtain ⟨ff18, y19⟩ : ∃ z, z = ((va_up (va_up (va_up (va_up (va_up (va_up (va_up (va_up (va_up (va_up (va_up (va_up (va_up (va_up (va_up (va_up f5 0 0) 1 0) 2 0) 3 0) 4 0) 5 0) 6 0) 7 0) 8 0) 9 0) 10 0) 11 0) 12 0) 13 0) 14 0) 15 0) : Nat → Int32) := ⟨_, rfl⟩
  rw [← y19] at hP hD
  obtain ⟨ff20, y21⟩ : ∃ z, z = ((va_up (va_up (va_up (va_up (va_up (va_up (va_up (va_up (va_up (va_up (va_up (va_up (va_up (va_up (va_up (va_up (va_up (va_up (va_up (va_up (va_up (va_up (va_up (va_up (va_up (va_up (va_up (va_up (va_up (va_up (va_up (va_up (va_up (va_up (va_up (va_up (va_up (va_up (va_up (va_up (va_up (va_up (va_up (va_up (va_up (va_up (va_up (va_up f7 0 (-1)) 1 (-1)) 2 (-1)) 3 (-1)) 4 (-1)) 5 (-1)) 6 (-1)) 7 (-1)) 8 (-1)) 9 (-1)) 10 (-1)) 11 (-1)) 12 (-1)) 13 (-1)) 14 (-1)) 15 (-1)) 0 0) 1 0) 2 0) 3 0) 4 0) 5 0) 6 0) 7 0) 8 0) 9 0) 10 0) 11 0) 12 0) 13 0) 14 0) 15 0) 0 0) 1 1) 2 2) 3 3) 4 4) 5 5) 6 6) 7 7) 8 8) 9 9) 10 10) 11 11) 12 12) 13 13) 14 14) 15 15) : Nat → Int32) := ⟨_, rfl⟩
  rw [← y21] at hP hD
  obtain ⟨ff22, y23⟩ : ∃ z, z = ((va_up (va_up (va_up (va_up (va_up (va_up (va_up (va_up (va_up (va_up (va_up (va_up (va_up (va_up (va_up (va_up f8 0 0) 1 1) 2 2) 3 3) 4 4) 5 5) 6 6) 7 7) 8 8) 9 9) 10 10) 11 11) 12 12) 13 13) 14 14) 15 15) : Nat → Int32) := ⟨_, rfl⟩
  rw [← y23] at hP hD
  obtain ⟨ff24, y25⟩ : ∃ z, z = ((va_up (va_up (va_up (va_up (va_up (va_up (va_up (va_up (va_up (va_up (va_up (va_up (va_up (va_up (va_up (va_up f9 0 0) 1 0) 2 0) 3 0) 4 0) 5 0) 6 0) 7 0) 8 0) 9 0) 10 0) 11 0) 12 0) 13 0) 14 0) 15 0) : Nat → Int32) := ⟨_, rfl⟩
  rw [← y25] at hP hD
  obtain ⟨ff26, y27⟩ : ∃ z, z = ((va_up (va_up (va_up (va_up (va_up (va_up (va_up (va_up (va_up (va_up (va_up (va_up (va_up (va_up (va_up (va_up f10 0 0) 1 0) 2 0) 3 0) 4 0) 5 0) 6 0) 7 0) 8 0) 9 0) 10 0) 11 0) 12 0) 13 0) 14 0) 15 0) : Nat → Int32) := ⟨_, rfl⟩
  rw [← y27] at hP hD
  obtain ⟨ff28, y29⟩ : ∃ z, z = ((va_up (va_up (va_up (va_up (va_up (va_up (va_up (va_up (va_up (va_up (va_up (va_up (va_up (va_up (va_up (va_up f11 0 0) 1 0) 2 0) 3 0) 4 0) 5 0) 6 0) 7 0) 8 0) 9 0) 10 0) 11 0) 12 0) 13 0) 14 0) 15 0) : Nat → Int32) := ⟨_, rfl⟩
  rw [← y29] at hP hD
  obtain ⟨ff30, y31⟩ : ∃ z, z = ((va_up (va_up (va_up (va_up (va_up (va_up (va_up (va_up (va_up (va_up (va_up (va_up (va_up (va_up (va_up (va_up f12 0 0) 1 0) 2 0) 3 0) 4 0) 5 0) 6 0) 7 0) 8 0) 9 0) 10 0) 11 0) 12 0) 13 0) 14 0) 15 0) : Nat → Int32) := ⟨_, rfl⟩
  rw [← y31] at hP hD
  obtain ⟨ff32, y33⟩ : ∃ z, z = ((va_up (va_up (va_up (va_up (va_up (va_up (va_up (va_up (va_up (va_up (va_up (va_up (va_up (va_up (va_up (va_up f13 0 (-1)) 1 (-1)) 2 (-1)) 3 (-1)) 4 (-1)) 5 (-1)) 6 (-1)) 7 (-1)) 8 (-1)) 9 (-1)) 10 (-1)) 11 (-1)) 12 (-1)) 13 (-1)) 14 (-1)) 15 (-1)) : Nat → Int32) := ⟨_, rfl⟩
  rw [← y33] at hP hD
  obtain ⟨ff34, y35⟩ : ∃ z, z = ((va_up (va_up (va_up (va_up (va_up (va_up (va_up (va_up (va_up (va_up (va_up (va_up (va_up (va_up (va_up (va_up f14 0 0) 1 0) 2 0) 3 0) 4 0) 5 0) 6 0) 7 0) 8 0) 9 0) 10 0) 11 0) 12 0) 13 0) 14 0) 15 0) : Nat → Int32) := ⟨_, rfl⟩
  rw [← y35] at hP hD
  subst y35
  subst y33
  subst y31
  subst y29
  subst y27
  subst y25
  subst y23
  subst y21
  subst y19
  subst y17
  subst y15
  subst y10
  subst y8
  have hP9 : va_P K.1 classes [(a0, zO 10 83 (va_up (va_up (va_up (va_up (va_up (va_up (va_up (va_up (va_up (va_up (va_up (va_up (va_up (va_up (va_up (va_up (va_up (va_up (va_up (va_up (va_up (va_up (va_up (va_up (va_up (va_up (va_up (va_up (va_up (va_up (va_up (va_up (va_up (va_up (va_up (va_up (va_up (va_up (va_up (va_up (va_up (va_up (va_up (va_up (va_up (va_up (va_up (va_up (va_up (va_up (va_up (va_up g0 81 (.int 0)) 56 (.int 0)) 60 (.int x3)) 79 (.int 0)) 55 (.int 0)) 58 (.int 0)) 59 (.int 600)) 72 (.int 0)) 77 (.int 0)) 62 (.int 1280)) 63 (.int (-1))) 64 (.int 0)) 65 (.int 0)) 61 (.int (-1))) 58 (.int 1)) 61 (.int 5)) 54 (.int 0)) 54 (.int 1)) 54 (.int 2)) 54 (.int 3)) 54 (.int 4)) 54 (.int 5)) 54 (.int 6)) 54 (.int 7)) 54 (.int 8)) 54 (.int 9)) 54 (.int 10)) 54 (.int 11)) 54 (.int 12)) 54 (.int 13)) 54 (.int 14)) 54 (.int 15)) 54 (.int 16)) 54 (.int 15)) 54 (.int 14)) 54 (.int 13)) 54 (.int 12)) 54 (.int 11)) 54 (.int 10)) 54 (.int 9)) 54 (.int 8)) 54 (.int 7)) 54 (.int 6)) 54 (.int 5)) 54 (.int 4)) 54 (.int 3)) 54 (.int 2)) 54 (.int 1)) 54 (.int 0)) 32 (.int 16)) 40 (.int 0)) 46 (.int 0)))] H := hP.sub [0] rfl
  have hD9 : va_D A [(a0, zO 10 83 (va_up (va_up (va_up (va_up (va_up (va_up (va_up (va_up (va_up (va_up (va_up (va_up (va_up (va_up (va_up (va_up (va_up (va_up (va_up (va_up (va_up (va_up (va_up (va_up (va_up (va_up (va_up (va_up (va_up (va_up (va_up (va_up (va_up (va_up (va_up (va_up (va_up (va_up (va_up (va_up (va_up (va_up (va_up (va_up (va_up (va_up (va_up (va_up (va_up (va_up (va_up (va_up g0 81 (.int 0)) 56 (.int 0)) 60 (.int x3)) 79 (.int 0)) 55 (.int 0)) 58 (.int 0)) 59 (.int 600)) 72 (.int 0)) 77 (.int 0)) 62 (.int 1280)) 63 (.int (-1))) 64 (.int 0)) 65 (.int 0)) 61 (.int (-1))) 58 (.int 1)) 61 (.int 5)) 54 (.int 0)) 54 (.int 1)) 54 (.int 2)) 54 (.int 3)) 54 (.int 4)) 54 (.int 5)) 54 (.int 6)) 54 (.int 7)) 54 (.int 8)) 54 (.int 9)) 54 (.int 10)) 54 (.int 11)) 54 (.int 12)) 54 (.int 13)) 54 (.int 14)) 54 (.int 15)) 54 (.int 16)) 54 (.int 15)) 54 (.int 14)) 54 (.int 13)) 54 (.int 12)) 54 (.int 11)) 54 (.int 10)) 54 (.int 9)) 54 (.int 8)) 54 (.int 7)) 54 (.int 6)) 54 (.int 5)) 54 (.int 4)) 54 (.int 3)) 54 (.int 2)) 54 (.int 1)) 54 (.int 0)) 32 (.int 16)) 40 (.int 0)) 46 (.int 0)))] := hD.sub [0] (by decide) rfl
  exact z_iret hx hb hr (fun _ => 0) rfl hP9 hD9 hS (Nat.le_of_ble_eq_true rfl) (Nat.le_of_ble_eq_true rfl) hlocks dX12_run_44
set_option maxHeartbeats 4000000 in
set_option maxRecDepth 100000 in
theorem cX9_kindOf_2 (l : Launch) (K : zK) (sz : Nat) (a0 : Nat) (a1 : Nat) (g0 : Nat → Value) (f1 : Nat → Int32) (e0 : g0 5 = (.int 645)) (e1 : g0 0 = (.ref a1)) (e2 : f1 642 = 4) : Met l yX9_kindOf (Cond.code yX9_kindOf cX9_kindOf 2 (some .int) :: WG) { frames := 0, cells := 0, slots := 0, locals := 0 } (zPre K [(a0, zO 7 6 g0), (a1, zI K 645 f1)] sz [.ref a0, .int 642]) (va_Qi (fun (r : Int32) (_ : Nat → Nat) => r = 4) (zB K (va_A [(a0, zO 7 6 g0), (a1, zI K 645 f1)] sz) (fun u : Nat → Nat => [(a0, zO 7 6 g0), (a1, zI K 645 f1)])) (va_A [(a0, zO 7 6 g0), (a1, zI K 645 f1)] sz)) 0 0 (va_A [(a0, zO 7 6 g0), (a1, zI K 645 f1)] sz) := by
  refine z_met (Qc := fun A => (va_Qi (fun (r : Int32) (_ : Nat → Nat) => r = 4) (zB K A (fun u : Nat → Nat => [(a0, zO 7 6 g0), (a1, zI K 645 f1)])) A)) (by decide +kernel) (Nat.le_of_ble_eq_true rfl) ?_
  intro p e s m args below meth c A ls H hx hb hr hg hown hlocks hml hin hK hP hD hA hS hZ hl
  have hown : s.vm.findClass RX9 = some m.cls := hown
  have hl : lv_has ls 2 [(0, .ref a0), (1, .int 642)] := hl
  refine lv_iload_n hx hb dX9_kindOf_0 rfl (lv_at hl 1 rfl) ?_
  refine lv_if_lt (tgt := 21) hx hb dX9_kindOf_1 (by decide) (fun c => absurd c (by decide)) (fun _ => ?_)
  refine lv_iload_n hx hb dX9_kindOf_4 rfl (lv_at hl 1 rfl) ?_
  refine lv_aload_n hx hb dX9_kindOf_5 rfl (lv_at hl 0 rfl) ?_
  refine z_get (v := .int 645) hx hb hg hown hK hP i_X9 rfl 0 rfl 5 (by decide) mt42 e0 dX9_kindOf_6 ?_
  refine lv_icmp_ge (tgt := 21) hx hb dX9_kindOf_9 (by decide) (fun c => absurd c (by decide)) (fun _ => ?_)
  refine lv_aload_n hx hb dX9_kindOf_12 rfl (lv_at hl 0 rfl) ?_
  refine z_get (v := .ref a1) hx hb hg hown hK hP i_X9 rfl 0 rfl 0 (by decide) mt37 e1 dX9_kindOf_13 ?_
  refine lv_iload_n hx hb dX9_kindOf_16 rfl (lv_at hl 1 rfl) ?_
  refine z_iald (v := 4) (j := 642) hx hb hK hP 1 rfl rfl (Nat.le_of_ble_eq_true rfl) (Nat.le_of_ble_eq_true rfl) e2 dX9_kindOf_17 ?_
  refine lv_goto (tgt := 22) hx hb dX9_kindOf_18 (by decide) ?_
  have hP9 : va_P K.1 classes [(a0, zO 7 6 g0), (a1, zI K 645 f1)] H := hP.sub [0, 1] rfl
  have hD9 : va_D A [(a0, zO 7 6 g0), (a1, zI K 645 f1)] := hD.sub [0, 1] (by decide) rfl
  exact z_iret hx hb hr (fun _ => 0) rfl hP9 hD9 hS (Nat.le_of_ble_eq_true rfl) (Nat.le_of_ble_eq_true rfl) hlocks dX9_kindOf_22
set_option maxHeartbeats 4000000 in
set_option maxRecDepth 100000 in
theorem cX2_push_1 (l : Launch) (K : zK) (sz : Nat) (a0 : Nat) (a1 : Nat) (a2 : Nat) (a3 : Nat) (a4 : Nat) (a5 : Nat) (g0 : Nat → Value) (f1 : Nat → Int32) (f2 : Nat → Int32) (f3 : Nat → Int32) (f4 : Nat → Int32) (f5 : Nat → Int32) (e0 : g0 5 = (.int 0)) (e1 : g0 0 = (.ref a1)) (e2 : g0 1 = (.ref a2)) (e3 : g0 2 = (.ref a3)) (e4 : g0 3 = (.ref a4)) (e5 : g0 4 = (.ref a5)) : Met l yX2_push (Cond.code yX2_push cX2_push 6 none :: WG) { frames := 0, cells := 0, slots := 0, locals := 0 } (zPre K [(a0, zO 2 6 g0), (a1, zI K 608 f1), (a2, zI K 608 f2), (a3, zI K 608 f3), (a4, zI K 608 f4), (a5, zI K 608 f5)] sz [.ref a0, .int 4, .int 642, .int (-1), .int 0, .int 0]) (va_Qv (fun _ : Nat → Nat => True) (zB K (va_A [(a0, zO 2 6 g0), (a1, zI K 608 f1), (a2, zI K 608 f2), (a3, zI K 608 f3), (a4, zI K 608 f4), (a5, zI K 608 f5)] sz) (fun u : Nat → Nat => [(a0, zO 2 6 (va_up g0 5 (.int 1))), (a1, zI K 608 (va_up f1 0 4)), (a2, zI K 608 (va_up f2 0 642)), (a3, zI K 608 (va_up f3 0 (-1))), (a4, zI K 608 (va_up f4 0 0)), (a5, zI K 608 (va_up f5 0 0))])) (va_A [(a0, zO 2 6 g0), (a1, zI K 608 f1), (a2, zI K 608 f2), (a3, zI K 608 f3), (a4, zI K 608 f4), (a5, zI K 608 f5)] sz)) 0 0 (va_A [(a0, zO 2 6 g0), (a1, zI K 608 f1), (a2, zI K 608 f2), (a3, zI K 608 f3), (a4, zI K 608 f4), (a5, zI K 608 f5)] sz) := by
  refine z_met (Qc := fun A => (va_Qv (fun _ : Nat → Nat => True) (zB K A (fun u : Nat → Nat => [(a0, zO 2 6 (va_up g0 5 (.int 1))), (a1, zI K 608 (va_up f1 0 4)), (a2, zI K 608 (va_up f2 0 642)), (a3, zI K 608 (va_up f3 0 (-1))), (a4, zI K 608 (va_up f4 0 0)), (a5, zI K 608 (va_up f5 0 0))])) A)) (by decide +kernel) (Nat.le_of_ble_eq_true rfl) ?_
  intro p e s m args below meth c A ls H hx hb hr hg hown hlocks hml hin hK hP hD hA hS hZ hl
  have hown : s.vm.findClass RX2 = some m.cls := hown
  have hl : lv_has ls 6 [(0, .ref a0), (1, .int 4), (2, .int 642), (3, .int (-1)), (4, .int 0), (5, .int 0)] := hl
  refine lv_aload_n hx hb dX2_push_0 rfl (lv_at hl 0 rfl) ?_
  refine z_get (v := .int 0) hx hb hg hown hK hP i_X2 rfl 0 rfl 5 (by decide) mt235 e0 dX2_push_1 ?_
  refine lv_sipush (v := 608) hx hb dX2_push_4 (by decide) ?_
  refine lv_icmp_ge (tgt := 72) hx hb dX2_push_7 (by decide) (fun c => absurd c (by decide)) (fun _ => ?_)
  refine lv_aload_n hx hb dX2_push_10 rfl (lv_at hl 0 rfl) ?_
  refine z_get (v := .ref a1) hx hb hg hown hK hP i_X2 rfl 0 rfl 0 (by decide) mt230 e1 dX2_push_11 ?_
  refine lv_aload_n hx hb dX2_push_14 rfl (lv_at hl 0 rfl) ?_
  refine z_get (v := .int 0) hx hb hg hown hK hP i_X2 rfl 0 rfl 5 (by decide) mt235 e0 dX2_push_15 ?_
  refine lv_iload_n hx hb dX2_push_18 rfl (lv_at hl 1 rfl) ?_
  refine z_iast (j := 0) hx hb hK hP hD hS 1 rfl rfl (Nat.le_of_ble_eq_true rfl) (Nat.le_of_ble_eq_true rfl) dX2_push_19 (fun ff1 H locs y2 hP hD hS => ?_)
  have hP : va_P K.1 classes [(a0, zO 2 6 g0), (a1, zI K 608 ff1), (a2, zI K 608 f2), (a3, zI K 608 f3), (a4, zI K 608 f4), (a5, zI K 608 f5)] H := hP
  have hD : va_D A [(a0, zO 2 6 g0), (a1, zI K 608 ff1), (a2, zI K 608 f2), (a3, zI K 608 f3), (a4, zI K 608 f4), (a5, zI K 608 f5)] := hD
  refine lv_aload_n hx hb dX2_push_20 rfl (lv_at hl 0 rfl) ?_
  refine z_get (v := .ref a2) hx hb hg hown hK hP i_X2 rfl 0 rfl 1 (by decide) mt231 e2 dX2_push_21 ?_
  refine lv_aload_n hx hb dX2_push_24 rfl (lv_at hl 0 rfl) ?_
  refine z_get (v := .int 0) hx hb hg hown hK hP i_X2 rfl 0 rfl 5 (by decide) mt235 e0 dX2_push_25 ?_
  refine lv_iload_n hx hb dX2_push_28 rfl (lv_at hl 2 rfl) ?_
  refine z_iast (j := 0) hx hb hK hP hD hS 2 rfl rfl (Nat.le_of_ble_eq_true rfl) (Nat.le_of_ble_eq_true rfl) dX2_push_29 (fun ff3 H locs y4 hP hD hS => ?_)
  have hP : va_P K.1 classes [(a0, zO 2 6 g0), (a1, zI K 608 ff1), (a2, zI K 608 ff3), (a3, zI K 608 f3), (a4, zI K 608 f4), (a5, zI K 608 f5)] H := hP
  have hD : va_D A [(a0, zO 2 6 g0), (a1, zI K 608 ff1), (a2, zI K 608 ff3), (a3, zI K 608 f3), (a4, zI K 608 f4), (a5, zI K 608 f5)] := hD
  refine lv_aload_n hx hb dX2_push_30 rfl (lv_at hl 0 rfl) ?_
  refine z_get (v := .ref a3) hx hb hg hown hK hP i_X2 rfl 0 rfl 2 (by decide) mt232 e3 dX2_push_31 ?_
  refine lv_aload_n hx hb dX2_push_34 rfl (lv_at hl 0 rfl) ?_
  refine z_get (v := .int 0) hx hb hg hown hK hP i_X2 rfl 0 rfl 5 (by decide) mt235 e0 dX2_push_35 ?_
  refine lv_iload_n hx hb dX2_push_38 rfl (lv_at hl 3 rfl) ?_
  refine z_iast (j := 0) hx hb hK hP hD hS 3 rfl rfl (Nat.le_of_ble_eq_true rfl) (Nat.le_of_ble_eq_true rfl) dX2_push_39 (fun ff5 H locs y6 hP hD hS => ?_)
  have hP : va_P K.1 classes [(a0, zO 2 6 g0), (a1, zI K 608 ff1), (a2, zI K 608 ff3), (a3, zI K 608 ff5), (a4, zI K 608 f4), (a5, zI K 608 f5)] H := hP
  have hD : va_D A [(a0, zO 2 6 g0), (a1, zI K 608 ff1), (a2, zI K 608 ff3), (a3, zI K 608 ff5), (a4, zI K 608 f4), (a5, zI K 608 f5)] := hD
  refine lv_aload_n hx hb dX2_push_40 rfl (lv_at hl 0 rfl) ?_
  refine z_get (v := .ref a4) hx hb hg hown hK hP i_X2 rfl 0 rfl 3 (by decide) mt233 e4 dX2_push_41 ?_
  refine lv_aload_n hx hb dX2_push_44 rfl (lv_at hl 0 rfl) ?_
  refine z_get (v := .int 0) hx hb hg hown hK hP i_X2 rfl 0 rfl 5 (by decide) mt235 e0 dX2_push_45 ?_
  refine lv_iload hx hb dX2_push_48 (lv_at hl 4 rfl) ?_
  refine z_iast (j := 0) hx hb hK hP hD hS 4 rfl rfl (Nat.le_of_ble_eq_true rfl) (Nat.le_of_ble_eq_true rfl) dX2_push_50 (fun ff7 H locs y8 hP hD hS => ?_)
  have hP : va_P K.1 classes [(a0, zO 2 6 g0), (a1, zI K 608 ff1), (a2, zI K 608 ff3), (a3, zI K 608 ff5), (a4, zI K 608 ff7), (a5, zI K 608 f5)] H := hP
  have hD : va_D A [(a0, zO 2 6 g0), (a1, zI K 608 ff1), (a2, zI K 608 ff3), (a3, zI K 608 ff5), (a4, zI K 608 ff7), (a5, zI K 608 f5)] := hD
  refine lv_aload_n hx hb dX2_push_51 rfl (lv_at hl 0 rfl) ?_
  refine z_get (v := .ref a5) hx hb hg hown hK hP i_X2 rfl 0 rfl 4 (by decide) mt234 e5 dX2_push_52 ?_
  refine lv_aload_n hx hb dX2_push_55 rfl (lv_at hl 0 rfl) ?_
  refine z_get (v := .int 0) hx hb hg hown hK hP i_X2 rfl 0 rfl 5 (by decide) mt235 e0 dX2_push_56 ?_
  refine lv_iload hx hb dX2_push_59 (lv_at hl 5 rfl) ?_
  refine z_iast (j := 0) hx hb hK hP hD hS 5 rfl rfl (Nat.le_of_ble_eq_true rfl) (Nat.le_of_ble_eq_true rfl) dX2_push_61 (fun ff9 H locs y10 hP hD hS => ?_)
  have hP : va_P K.1 classes [(a0, zO 2 6 g0), (a1, zI K 608 ff1), (a2, zI K 608 ff3), (a3, zI K 608 ff5), (a4, zI K 608 ff7), (a5, zI K 608 ff9)] H := hP
  have hD : va_D A [(a0, zO 2 6 g0), (a1, zI K 608 ff1), (a2, zI K 608 ff3), (a3, zI K 608 ff5), (a4, zI K 608 ff7), (a5, zI K 608 ff9)] := hD
  refine lv_aload_n hx hb dX2_push_62 rfl (lv_at hl 0 rfl) ?_
  refine lv_dup hx hb dX2_push_63 rfl ?_
  refine z_get (v := .int 0) hx hb hg hown hK hP i_X2 rfl 0 rfl 5 (by decide) mt235 e0 dX2_push_64 ?_
  refine lv_iconst (v := 1) hx hb dX2_push_67 (by decide) ?_
  refine lv_iadd hx hb dX2_push_68 ?_
  refine z_cst (v := 1) (by decide +kernel) ?_
  refine z_put hx hb hg hown hK hP hD hS i_X2 rfl tyX2_ok nmX2 0 rfl 5 (by decide) mt235 rfl rfl rfl dX2_push_69 (fun gg11 H locs y12 hP hD hS => ?_)
  have hP : va_P K.1 classes [(a0, zO 2 6 gg11), (a1, zI K 608 ff1), (a2, zI K 608 ff3), (a3, zI K 608 ff5), (a4, zI K 608 ff7), (a5, zI K 608 ff9)] H := hP
  have hD : va_D A [(a0, zO 2 6 gg11), (a1, zI K 608 ff1), (a2, zI K 608 ff3), (a3, zI K 608 ff5), (a4, zI K 608 ff7), (a5, zI K 608 ff9)] := hD
  subst y12
  subst y10
  subst y8
  subst y6
  subst y4
  subst y2
  have hP9 : va_P K.1 classes [(a0, zO 2 6 (va_up g0 5 (.int 1))), (a1, zI K 608 (va_up f1 0 4)), (a2, zI K 608 (va_up f2 0 642)), (a3, zI K 608 (va_up f3 0 (-1))), (a4, zI K 608 (va_up f4 0 0)), (a5, zI K 608 (va_up f5 0 0))] H := hP.sub [0, 1, 2, 3, 4, 5] rfl
  have hD9 : va_D A [(a0, zO 2 6 (va_up g0 5 (.int 1))), (a1, zI K 608 (va_up f1 0 4)), (a2, zI K 608 (va_up f2 0 642)), (a3, zI K 608 (va_up f3 0 (-1))), (a4, zI K 608 (va_up f4 0 0)), (a5, zI K 608 (va_up f5 0 0))] := hD.sub [0, 1, 2, 3, 4, 5] (by decide) rfl
  exact z_vret hx hb hr (fun _ => 0) trivial hP9 hD9 hS (Nat.le_of_ble_eq_true rfl) (Nat.le_of_ble_eq_true rfl) hlocks dX2_push_72
set_option maxHeartbeats 4000000 in
set_option maxRecDepth 100000 in
theorem cX9_part_4 (l : Launch) (K : zK) (sz : Nat) (a0 : Nat) (a1 : Nat) (g0 : Nat → Value) (f1 : Nat → Int32) (e0 : g0 5 = (.int 645)) (e1 : g0 4 = (.ref a1)) (e2 : f1 1926 = 640) : Met l yX9_part (Cond.code yX9_part cX9_part 3 (some .int) :: WG) { frames := 0, cells := 0, slots := 0, locals := 0 } (zPre K [(a0, zO 7 6 g0), (a1, zI K 1935 f1)] sz [.ref a0, .int 642, .int 0]) (va_Qi (fun (r : Int32) (_ : Nat → Nat) => r = 640) (zB K (va_A [(a0, zO 7 6 g0), (a1, zI K 1935 f1)] sz) (fun u : Nat → Nat => [(a0, zO 7 6 g0), (a1, zI K 1935 f1)])) (va_A [(a0, zO 7 6 g0), (a1, zI K 1935 f1)] sz)) 0 0 (va_A [(a0, zO 7 6 g0), (a1, zI K 1935 f1)] sz) := by
  refine z_met (Qc := fun A => (va_Qi (fun (r : Int32) (_ : Nat → Nat) => r = 640) (zB K A (fun u : Nat → Nat => [(a0, zO 7 6 g0), (a1, zI K 1935 f1)])) A)) (by decide +kernel) (Nat.le_of_ble_eq_true rfl) ?_
  intro p e s m args below meth c A ls H hx hb hr hg hown hlocks hml hin hK hP hD hA hS hZ hl
  have hown : s.vm.findClass RX9 = some m.cls := hown
  have hl : lv_has ls 3 [(0, .ref a0), (1, .int 642), (2, .int 0)] := hl
  refine lv_iload_n hx hb dX9_part_0 rfl (lv_at hl 1 rfl) ?_
  refine lv_if_lt (tgt := 34) hx hb dX9_part_1 (by decide) (fun c => absurd c (by decide)) (fun _ => ?_)
  refine lv_iload_n hx hb dX9_part_4 rfl (lv_at hl 1 rfl) ?_
  refine lv_aload_n hx hb dX9_part_5 rfl (lv_at hl 0 rfl) ?_
  refine z_get (v := .int 645) hx hb hg hown hK hP i_X9 rfl 0 rfl 5 (by decide) mt42 e0 dX9_part_6 ?_
  refine lv_icmp_ge (tgt := 34) hx hb dX9_part_9 (by decide) (fun c => absurd c (by decide)) (fun _ => ?_)
  refine lv_iload_n hx hb dX9_part_12 rfl (lv_at hl 2 rfl) ?_
  refine lv_if_lt (tgt := 34) hx hb dX9_part_13 (by decide) (fun c => absurd c (by decide)) (fun _ => ?_)
  refine lv_iload_n hx hb dX9_part_16 rfl (lv_at hl 2 rfl) ?_
  refine lv_iconst (v := 3) hx hb dX9_part_17 (by decide) ?_
  refine lv_icmp_ge (tgt := 34) hx hb dX9_part_18 (by decide) (fun c => absurd c (by decide)) (fun _ => ?_)
  refine lv_aload_n hx hb dX9_part_21 rfl (lv_at hl 0 rfl) ?_
  refine z_get (v := .ref a1) hx hb hg hown hK hP i_X9 rfl 0 rfl 4 (by decide) mt41 e1 dX9_part_22 ?_
  refine lv_iconst (v := 3) hx hb dX9_part_25 (by decide) ?_
  refine lv_iload_n hx hb dX9_part_26 rfl (lv_at hl 1 rfl) ?_
  refine lv_imul hx hb dX9_part_27 ?_
  refine z_cst (v := 1926) (by decide +kernel) ?_
  refine lv_iload_n hx hb dX9_part_28 rfl (lv_at hl 2 rfl) ?_
  refine lv_iadd hx hb dX9_part_29 ?_
  refine z_cst (v := 1926) (by decide +kernel) ?_
  refine z_iald (v := 640) (j := 1926) hx hb hK hP 1 rfl rfl (Nat.le_of_ble_eq_true rfl) (Nat.le_of_ble_eq_true rfl) e2 dX9_part_30 ?_
  refine lv_goto (tgt := 35) hx hb dX9_part_31 (by decide) ?_
  have hP9 : va_P K.1 classes [(a0, zO 7 6 g0), (a1, zI K 1935 f1)] H := hP.sub [0, 1] rfl
  have hD9 : va_D A [(a0, zO 7 6 g0), (a1, zI K 1935 f1)] := hD.sub [0, 1] (by decide) rfl
  exact z_iret hx hb hr (fun _ => 0) rfl hP9 hD9 hS (Nat.le_of_ble_eq_true rfl) (Nat.le_of_ble_eq_true rfl) hlocks dX9_part_35
set_option maxHeartbeats 4000000 in
set_option maxRecDepth 100000 in
theorem cX1_step_3 (l : Launch) (K : zK) (sz : Nat) (a0 : Nat) (a1 : Nat) (a2 : Nat) (a3 : Nat) (a4 : Nat) (a5 : Nat) (a6 : Nat) (a7 : Nat) (a8 : Nat) (a9 : Nat) (a10 : Nat) (a11 : Nat) (g0 : Nat → Value) (f1 : Nat → Int32) (g2 : Nat → Value) (g3 : Nat → Value) (f4 : Nat → Int32) (g5 : Nat → Value) (f6 : Nat → Int32) (f7 : Nat → Int32) (f8 : Nat → Int32) (f9 : Nat → Int32) (f10 : Nat → Int32) (f11 : Nat → Int32) (x0 : Int32) (e0 : g0 10 = (.int 0)) (e1 : g0 8 = (.int 0)) (e2 : g0 9 = (.int x0)) (e3 : ¬ (1 : Int32) = x0) (e4 : g0 2 = (.ref a1)) (e5 : f1 0 = 0) (e6 : g0 14 = (.int 0)) (e7 : f1 6 = 0) (e8 : g0 6 = (.ref a2)) (e9 : g2 0 = (.ref a3)) (e10 : g0 12 = (.int 642)) (e11 : g3 5 = (.int 645)) (e12 : g3 0 = (.ref a4)) (e13 : f4 642 = 4) (e14 : g0 1 = (.ref a5)) (e15 : g0 13 = (.int (-1))) (e16 : g5 5 = (.int 0)) (e17 : g5 0 = (.ref a6)) (e18 : g5 1 = (.ref a7)) (e19 : g5 2 = (.ref a8)) (e20 : g5 3 = (.ref a9)) (e21 : g5 4 = (.ref a10)) (e22 : g3 4 = (.ref a11)) (e23 : f11 1926 = 640) : Met l yX1_step (Cond.code yX1_step cX1_step 2 none :: WG) { frames := 1, cells := 0, slots := 0, locals := 25 } (zPre K [(a0, zO 1 18 g0), (a1, zI K 10 f1), (a2, zO 4 6 g2), (a3, zO 7 6 g3), (a4, zI K 645 f4), (a5, zO 2 6 g5), (a6, zI K 608 f6), (a7, zI K 608 f7), (a8, zI K 608 f8), (a9, zI K 608 f9), (a10, zI K 608 f10), (a11, zI K 1935 f11)] sz [.ref a0]) (va_Qv (fun _ : Nat → Nat => True) (zB K (va_A [(a0, zO 1 18 g0), (a1, zI K 10 f1), (a2, zO 4 6 g2), (a3, zO 7 6 g3), (a4, zI K 645 f4), (a5, zO 2 6 g5), (a6, zI K 608 f6), (a7, zI K 608 f7), (a8, zI K 608 f8), (a9, zI K 608 f9), (a10, zI K 608 f10), (a11, zI K 1935 f11)] sz) (fun u : Nat → Nat => [(a0, zO 1 18 (va_up (va_up (va_up g0 10 (.int 1)) 12 (.int 640)) 11 (.int 0))), (a1, zI K 10 (va_up (va_up f1 0 1) 6 1)), (a2, zO 4 6 g2), (a3, zO 7 6 g3), (a4, zI K 645 f4), (a5, zO 2 6 (va_up g5 5 (.int 1))), (a6, zI K 608 (va_up f6 0 4)), (a7, zI K 608 (va_up f7 0 642)), (a8, zI K 608 (va_up f8 0 (-1))), (a9, zI K 608 (va_up f9 0 0)), (a10, zI K 608 (va_up f10 0 0)), (a11, zI K 1935 f11)])) (va_A [(a0, zO 1 18 g0), (a1, zI K 10 f1), (a2, zO 4 6 g2), (a3, zO 7 6 g3), (a4, zI K 645 f4), (a5, zO 2 6 g5), (a6, zI K 608 f6), (a7, zI K 608 f7), (a8, zI K 608 f8), (a9, zI K 608 f9), (a10, zI K 608 f10), (a11, zI K 1935 f11)] sz)) 0 0 (va_A [(a0, zO 1 18 g0), (a1, zI K 10 f1), (a2, zO 4 6 g2), (a3, zO 7 6 g3), (a4, zI K 645 f4), (a5, zO 2 6 g5), (a6, zI K 608 f6), (a7, zI K 608 f7), (a8, zI K 608 f8), (a9, zI K 608 f9), (a10, zI K 608 f10), (a11, zI K 1935 f11)] sz) := by
  refine z_met (Qc := fun A => (va_Qv (fun _ : Nat → Nat => True) (zB K A (fun u : Nat → Nat => [(a0, zO 1 18 (va_up (va_up (va_up g0 10 (.int 1)) 12 (.int 640)) 11 (.int 0))), (a1, zI K 10 (va_up (va_up f1 0 1) 6 1)), (a2, zO 4 6 g2), (a3, zO 7 6 g3), (a4, zI K 645 f4), (a5, zO 2 6 (va_up g5 5 (.int 1))), (a6, zI K 608 (va_up f6 0 4)), (a7, zI K 608 (va_up f7 0 642)), (a8, zI K 608 (va_up f8 0 (-1))), (a9, zI K 608 (va_up f9 0 0)), (a10, zI K 608 (va_up f10 0 0)), (a11, zI K 1935 f11)])) A)) (by decide +kernel) (Nat.le_of_ble_eq_true rfl) ?_
  intro p e s m args below meth c A ls H hx hb hr hg hown hlocks hml hin hK hP hD hA hS hZ hl
  have hown : s.vm.findClass RX1 = some m.cls := hown
  have hl : lv_has ls 2 [(0, .ref a0)] := hl
  refine lv_aload_n hx hb dX1_step_0 rfl (lv_at hl 0 rfl) ?_
  refine z_get (v := .int 0) hx hb hg hown hK hP i_X1 rfl 0 rfl 10 (by decide) mt259 e0 dX1_step_1 ?_
  refine lv_aload_n hx hb dX1_step_4 rfl (lv_at hl 0 rfl) ?_
  refine z_get (v := .int 0) hx hb hg hown hK hP i_X1 rfl 0 rfl 8 (by decide) mt257 e1 dX1_step_5 ?_
  refine lv_if_eq (tgt := 17) hx hb dX1_step_8 (by decide) (fun _ => ?_) (fun c => absurd (by decide) c)
  refine lv_sipush (v := 600) hx hb dX1_step_17 (by decide) ?_
  refine lv_icmp_lt (tgt := 30) hx hb dX1_step_20 (by decide) (fun _ => ?_) (fun c => absurd (by decide) c)
  refine lv_aload_n hx hb dX1_step_30 rfl (lv_at hl 0 rfl) ?_
  refine z_get (v := .int 0) hx hb hg hown hK hP i_X1 rfl 0 rfl 8 (by decide) mt257 e1 dX1_step_31 ?_
  refine lv_if_ne (tgt := 57) hx hb dX1_step_34 (by decide) (fun c => absurd (by decide) c) (fun _ => ?_)
  refine lv_aload_n hx hb dX1_step_37 rfl (lv_at hl 0 rfl) ?_
  refine z_get (v := .int 0) hx hb hg hown hK hP i_X1 rfl 0 rfl 10 (by decide) mt259 e0 dX1_step_38 ?_
  refine lv_iconst (v := 1) hx hb dX1_step_41 (by decide) ?_
  refine lv_iadd hx hb dX1_step_42 ?_
  refine z_cst (v := 1) (by decide +kernel) ?_
  refine lv_aload_n hx hb dX1_step_43 rfl (lv_at hl 0 rfl) ?_
  refine z_get (v := .int x0) hx hb hg hown hK hP i_X1 rfl 0 rfl 9 (by decide) mt258 e2 dX1_step_44 ?_
  refine lv_icmp_ne (tgt := 57) hx hb dX1_step_47 (by decide) (fun _ => ?_) (fun c => absurd c e3)
  refine lv_aload_n hx hb dX1_step_57 rfl (lv_at hl 0 rfl) ?_
  refine z_callv [(a0, zO 1 18 g0), (a1, zI K 10 f1)] [(a2, zO 4 6 g2), (a3, zO 7 6 g3), (a4, zI K 645 f4), (a5, zO 2 6 g5), (a6, zI K 608 f6), (a7, zI K 608 f7), (a8, zI K 608 f8), (a9, zI K 608 f9), (a10, zI K 608 f10), (a11, zI K 1935 f11)] [0, 1] [2, 3, 4, 5, 6, 7, 8, 9, 10, 11] hP hD hS hA rfl rfl (by decide) (by decide) (by decide +kernel) 0 0 rfl rfl (fun hPc hDc hF => z_runV (As := []) (rest := []) ⟨hx, hb, hml, hown, hg⟩ (cX1_countStep_1 l K H.size a0 a1 g0 f1 e0 e1 e4 e5 e6 e7) kV_RX1_126 hd_X1_countStep rfl rfl ⟨(Nat.le_of_ble_eq_true rfl), (Nat.le_of_ble_eq_true rfl)⟩ hK hS hZ hPc hDc hF 0 rfl rfl rfl hl.1 rfl (Nat.le_of_ble_eq_true rfl) dX1_step_58 ⟨(Nat.le_of_ble_eq_true rfl), (Nat.le_of_ble_eq_true rfl)⟩) (fun u1 H locs w2 hP hD hS => ?_)
  have hP : va_P K.1 classes [(a2, zO 4 6 g2), (a3, zO 7 6 g3), (a4, zI K 645 f4), (a5, zO 2 6 g5), (a6, zI K 608 f6), (a7, zI K 608 f7), (a8, zI K 608 f8), (a9, zI K 608 f9), (a10, zI K 608 f10), (a11, zI K 1935 f11), (a0, zO 1 18 (va_up g0 10 (.int 1))), (a1, zI K 10 (va_up (va_up f1 0 1) 6 1))] H := hP
  have hD : va_D A [(a2, zO 4 6 g2), (a3, zO 7 6 g3), (a4, zI K 645 f4), (a5, zO 2 6 g5), (a6, zI K 608 f6), (a7, zI K 608 f7), (a8, zI K 608 f8), (a9, zI K 608 f9), (a10, zI K 608 f10), (a11, zI K 1935 f11), (a0, zO 1 18 (va_up g0 10 (.int 1))), (a1, zI K 10 (va_up (va_up f1 0 1) 6 1))] := hD
  obtain ⟨ff4, y5⟩ : ∃ z, z = ((va_up (va_up f1 0 1) 6 1) : Nat → Int32) := ⟨_, rfl⟩
  rw [← y5] at hP hD
  refine lv_aload_n hx hb dX1_step_61 rfl (lv_at hl 0 rfl) ?_
  refine z_get (v := .ref a2) hx hb hg hown hK hP i_X1 rfl 10 rfl 6 (by decide) mt255 (zu_ne (by decide) e8) dX1_step_62 ?_
  refine z_get (v := .ref a3) hx hb hg hown hK hP i_X5 rfl 0 rfl 0 (by decide) mt72 e9 dX1_step_65 ?_
  refine lv_aload_n hx hb dX1_step_68 rfl (lv_at hl 0 rfl) ?_
  refine z_get (v := .int 642) hx hb hg hown hK hP i_X1 rfl 10 rfl 12 (by decide) mt261 (zu_ne (by decide) e10) dX1_step_69 ?_
  refine z_calli [(a3, zO 7 6 g3), (a4, zI K 645 f4)] [(a2, zO 4 6 g2), (a5, zO 2 6 g5), (a6, zI K 608 f6), (a7, zI K 608 f7), (a8, zI K 608 f8), (a9, zI K 608 f9), (a10, zI K 608 f10), (a11, zI K 1935 f11), (a0, zO 1 18 (va_up g0 10 (.int 1))), (a1, zI K 10 ff4)] [1, 2] [0, 3, 4, 5, 6, 7, 8, 9, 10, 11] hP hD hS hA rfl rfl (by decide) (by decide) (by decide +kernel) 0 0 rfl rfl (fun hPc hDc hF => z_runV (As := [.int 642]) (rest := []) ⟨hx, hb, hml, hown, hg⟩ (cX9_kindOf_2 l K H.size a3 a4 g3 f4 e11 e12 e13) kV_RX1_135 hd_X9_kindOf rfl rfl ⟨(Nat.le_of_ble_eq_true rfl), (Nat.le_of_ble_eq_true rfl)⟩ hK hS hZ hPc hDc hF 0 rfl rfl rfl hl.1 rfl (Nat.le_of_ble_eq_true rfl) dX1_step_72 ⟨(Nat.le_of_ble_eq_true rfl), (Nat.le_of_ble_eq_true rfl)⟩) (fun r8 u6 H locs w7 hP hD hS => ?_)
  subst w7
  have hP : va_P K.1 classes [(a2, zO 4 6 g2), (a5, zO 2 6 g5), (a6, zI K 608 f6), (a7, zI K 608 f7), (a8, zI K 608 f8), (a9, zI K 608 f9), (a10, zI K 608 f10), (a11, zI K 1935 f11), (a0, zO 1 18 (va_up g0 10 (.int 1))), (a1, zI K 10 ff4), (a3, zO 7 6 g3), (a4, zI K 645 f4)] H := hP
  have hD : va_D A [(a2, zO 4 6 g2), (a5, zO 2 6 g5), (a6, zI K 608 f6), (a7, zI K 608 f7), (a8, zI K 608 f8), (a9, zI K 608 f9), (a10, zI K 608 f10), (a11, zI K 1935 f11), (a0, zO 1 18 (va_up g0 10 (.int 1))), (a1, zI K 10 ff4), (a3, zO 7 6 g3), (a4, zI K 645 f4)] := hD
  refine lv_istore_n (lv' := [(1, .int 4), (0, .ref a0)]) hx hb dX1_step_75 rfl hl (by decide) rfl (fun ls hl => ?_)
  refine lv_iload_n hx hb dX1_step_76 rfl (lv_at hl 0 rfl) ?_
  refine lv_tableIn (off := 210) (tgt := 287) hx hb dX1_step_77 (by decide) (by decide) (by decide) (by decide) ?_
  refine lv_aload_n hx hb dX1_step_287 rfl (lv_at hl 1 rfl) ?_
  refine z_get (v := .ref a5) hx hb hg hown hK hP i_X1 rfl 8 rfl 1 (by decide) mt250 (zu_ne (by decide) e14) dX1_step_288 ?_
  refine lv_iload_n hx hb dX1_step_291 rfl (lv_at hl 0 rfl) ?_
  refine lv_aload_n hx hb dX1_step_292 rfl (lv_at hl 1 rfl) ?_
  refine z_get (v := .int 642) hx hb hg hown hK hP i_X1 rfl 8 rfl 12 (by decide) mt261 (zu_ne (by decide) e10) dX1_step_293 ?_
  refine lv_aload_n hx hb dX1_step_296 rfl (lv_at hl 1 rfl) ?_
  refine z_get (v := .int (-1)) hx hb hg hown hK hP i_X1 rfl 8 rfl 13 (by decide) mt262 (zu_ne (by decide) e15) dX1_step_297 ?_
  refine lv_aload_n hx hb dX1_step_300 rfl (lv_at hl 1 rfl) ?_
  refine z_get (v := .int 0) hx hb hg hown hK hP i_X1 rfl 8 rfl 14 (by decide) mt263 (zu_ne (by decide) e6) dX1_step_301 ?_
  refine lv_iconst (v := 0) hx hb dX1_step_304 (by decide) ?_
  refine z_callv [(a5, zO 2 6 g5), (a6, zI K 608 f6), (a7, zI K 608 f7), (a8, zI K 608 f8), (a9, zI K 608 f9), (a10, zI K 608 f10)] [(a2, zO 4 6 g2), (a11, zI K 1935 f11), (a0, zO 1 18 (va_up g0 10 (.int 1))), (a1, zI K 10 ff4), (a3, zO 7 6 g3), (a4, zI K 645 f4)] [1, 2, 3, 4, 5, 6] [0, 7, 8, 9, 10, 11] hP hD hS hA rfl rfl (by decide) (by decide) (by decide +kernel) 0 0 rfl rfl (fun hPc hDc hF => z_runV (As := [.int 4, .int 642, .int (-1), .int 0, .int 0]) (rest := []) ⟨hx, hb, hml, hown, hg⟩ (cX2_push_1 l K H.size a5 a6 a7 a8 a9 a10 g5 f6 f7 f8 f9 f10 e16 e17 e18 e19 e20 e21) kV_RX1_170 hd_X2_push rfl rfl ⟨(Nat.le_of_ble_eq_true rfl), (Nat.le_of_ble_eq_true rfl)⟩ hK hS hZ hPc hDc hF 0 rfl rfl rfl hl.1 rfl (Nat.le_of_ble_eq_true rfl) dX1_step_305 ⟨(Nat.le_of_ble_eq_true rfl), (Nat.le_of_ble_eq_true rfl)⟩) (fun u9 H locs w10 hP hD hS => ?_)
  have hP : va_P K.1 classes [(a2, zO 4 6 g2), (a11, zI K 1935 f11), (a0, zO 1 18 (va_up g0 10 (.int 1))), (a1, zI K 10 ff4), (a3, zO 7 6 g3), (a4, zI K 645 f4), (a5, zO 2 6 (va_up g5 5 (.int 1))), (a6, zI K 608 (va_up f6 0 4)), (a7, zI K 608 (va_up f7 0 642)), (a8, zI K 608 (va_up f8 0 (-1))), (a9, zI K 608 (va_up f9 0 0)), (a10, zI K 608 (va_up f10 0 0))] H := hP
  have hD : va_D A [(a2, zO 4 6 g2), (a11, zI K 1935 f11), (a0, zO 1 18 (va_up g0 10 (.int 1))), (a1, zI K 10 ff4), (a3, zO 7 6 g3), (a4, zI K 645 f4), (a5, zO 2 6 (va_up g5 5 (.int 1))), (a6, zI K 608 (va_up f6 0 4)), (a7, zI K 608 (va_up f7 0 642)), (a8, zI K 608 (va_up f8 0 (-1))), (a9, zI K 608 (va_up f9 0 0)), (a10, zI K 608 (va_up f10 0 0))] := hD
  refine lv_aload_n hx hb dX1_step_308 rfl (lv_at hl 1 rfl) ?_
  refine lv_aload_n hx hb dX1_step_309 rfl (lv_at hl 1 rfl) ?_
  refine z_get (v := .ref a2) hx hb hg hown hK hP i_X1 rfl 2 rfl 6 (by decide) mt255 (zu_ne (by decide) e8) dX1_step_310 ?_
  refine z_get (v := .ref a3) hx hb hg hown hK hP i_X5 rfl 0 rfl 0 (by decide) mt72 e9 dX1_step_313 ?_
  refine lv_aload_n hx hb dX1_step_316 rfl (lv_at hl 1 rfl) ?_
  refine z_get (v := .int 642) hx hb hg hown hK hP i_X1 rfl 2 rfl 12 (by decide) mt261 (zu_ne (by decide) e10) dX1_step_317 ?_
  refine lv_iconst (v := 0) hx hb dX1_step_320 (by decide) ?_
  refine z_calli [(a3, zO 7 6 g3), (a11, zI K 1935 f11)] [(a2, zO 4 6 g2), (a0, zO 1 18 (va_up g0 10 (.int 1))), (a1, zI K 10 ff4), (a4, zI K 645 f4), (a5, zO 2 6 (va_up g5 5 (.int 1))), (a6, zI K 608 (va_up f6 0 4)), (a7, zI K 608 (va_up f7 0 642)), (a8, zI K 608 (va_up f8 0 (-1))), (a9, zI K 608 (va_up f9 0 0)), (a10, zI K 608 (va_up f10 0 0))] [4, 1] [0, 2, 3, 5, 6, 7, 8, 9, 10, 11] hP hD hS hA rfl rfl (by decide) (by decide) (by decide +kernel) 0 0 rfl rfl (fun hPc hDc hF => z_runV (As := [.int 642, .int 0]) (rest := [.ref a0]) ⟨hx, hb, hml, hown, hg⟩ (cX9_part_4 l K H.size a3 a11 g3 f11 e11 e22 e23) kV_RX1_166 hd_X9_part rfl rfl ⟨(Nat.le_of_ble_eq_true rfl), (Nat.le_of_ble_eq_true rfl)⟩ hK hS hZ hPc hDc hF 0 rfl rfl rfl hl.1 rfl (Nat.le_of_ble_eq_true rfl) dX1_step_321 ⟨(Nat.le_of_ble_eq_true rfl), (Nat.le_of_ble_eq_true rfl)⟩) (fun r14 u12 H locs w13 hP hD hS => ?_)
  subst w13
  have hP : va_P K.1 classes [(a2, zO 4 6 g2), (a0, zO 1 18 (va_up g0 10 (.int 1))), (a1, zI K 10 ff4), (a4, zI K 645 f4), (a5, zO 2 6 (va_up g5 5 (.int 1))), (a6, zI K 608 (va_up f6 0 4)), (a7, zI K 608 (va_up f7 0 642)), (a8, zI K 608 (va_up f8 0 (-1))), (a9, zI K 608 (va_up f9 0 0)), (a10, zI K 608 (va_up f10 0 0)), (a3, zO 7 6 g3), (a11, zI K 1935 f11)] H := hP
  have hD : va_D A [(a2, zO 4 6 g2), (a0, zO 1 18 (va_up g0 10 (.int 1))), (a1, zI K 10 ff4), (a4, zI K 645 f4), (a5, zO 2 6 (va_up g5 5 (.int 1))), (a6, zI K 608 (va_up f6 0 4)), (a7, zI K 608 (va_up f7 0 642)), (a8, zI K 608 (va_up f8 0 (-1))), (a9, zI K 608 (va_up f9 0 0)), (a10, zI K 608 (va_up f10 0 0)), (a3, zO 7 6 g3), (a11, zI K 1935 f11)] := hD
  refine z_callv [(a0, zO 1 18 (va_up g0 10 (.int 1)))] [(a2, zO 4 6 g2), (a1, zI K 10 ff4), (a4, zI K 645 f4), (a5, zO 2 6 (va_up g5 5 (.int 1))), (a6, zI K 608 (va_up f6 0 4)), (a7, zI K 608 (va_up f7 0 642)), (a8, zI K 608 (va_up f8 0 (-1))), (a9, zI K 608 (va_up f9 0 0)), (a10, zI K 608 (va_up f10 0 0)), (a3, zO 7 6 g3), (a11, zI K 1935 f11)] [1] [0, 2, 3, 4, 5, 6, 7, 8, 9, 10, 11] hP hD hS hA rfl rfl (by decide) (by decide) (by decide +kernel) 0 0 rfl rfl (fun hPc hDc hF => z_runV (As := [.int 640]) (rest := []) ⟨hx, hb, hml, hown, hg⟩ (cX1_goTo_2 l K H.size a0 (va_up g0 10 (.int 1))) kV_RX1_86 hd_X1_goTo rfl rfl ⟨(Nat.le_of_ble_eq_true rfl), (Nat.le_of_ble_eq_true rfl)⟩ hK hS hZ hPc hDc hF 0 rfl rfl rfl hl.1 rfl (Nat.le_of_ble_eq_true rfl) dX1_step_324 ⟨(Nat.le_of_ble_eq_true rfl), (Nat.le_of_ble_eq_true rfl)⟩) (fun u15 H locs w16 hP hD hS => ?_)
  have hP : va_P K.1 classes [(a2, zO 4 6 g2), (a1, zI K 10 ff4), (a4, zI K 645 f4), (a5, zO 2 6 (va_up g5 5 (.int 1))), (a6, zI K 608 (va_up f6 0 4)), (a7, zI K 608 (va_up f7 0 642)), (a8, zI K 608 (va_up f8 0 (-1))), (a9, zI K 608 (va_up f9 0 0)), (a10, zI K 608 (va_up f10 0 0)), (a3, zO 7 6 g3), (a11, zI K 1935 f11), (a0, zO 1 18 (va_up (va_up (va_up g0 10 (.int 1)) 12 (.int 640)) 11 (.int 0)))] H := hP
  have hD : va_D A [(a2, zO 4 6 g2), (a1, zI K 10 ff4), (a4, zI K 645 f4), (a5, zO 2 6 (va_up g5 5 (.int 1))), (a6, zI K 608 (va_up f6 0 4)), (a7, zI K 608 (va_up f7 0 642)), (a8, zI K 608 (va_up f8 0 (-1))), (a9, zI K 608 (va_up f9 0 0)), (a10, zI K 608 (va_up f10 0 0)), (a3, zO 7 6 g3), (a11, zI K 1935 f11), (a0, zO 1 18 (va_up (va_up (va_up g0 10 (.int 1)) 12 (.int 640)) 11 (.int 0)))] := hD
  obtain ⟨gg18, y19⟩ : ∃ z, z = ((va_up (va_up (va_up g0 10 (.int 1)) 12 (.int 640)) 11 (.int 0)) : Nat → Value) := ⟨_, rfl⟩
  rw [← y19] at hP hD
  subst y19
  subst y5
  have hP9 : va_P K.1 classes [(a0, zO 1 18 (va_up (va_up (va_up g0 10 (.int 1)) 12 (.int 640)) 11 (.int 0))), (a1, zI K 10 (va_up (va_up f1 0 1) 6 1)), (a2, zO 4 6 g2), (a3, zO 7 6 g3), (a4, zI K 645 f4), (a5, zO 2 6 (va_up g5 5 (.int 1))), (a6, zI K 608 (va_up f6 0 4)), (a7, zI K 608 (va_up f7 0 642)), (a8, zI K 608 (va_up f8 0 (-1))), (a9, zI K 608 (va_up f9 0 0)), (a10, zI K 608 (va_up f10 0 0)), (a11, zI K 1935 f11)] H := hP.sub [11, 1, 0, 9, 2, 3, 4, 5, 6, 7, 8, 10] rfl
  have hD9 : va_D A [(a0, zO 1 18 (va_up (va_up (va_up g0 10 (.int 1)) 12 (.int 640)) 11 (.int 0))), (a1, zI K 10 (va_up (va_up f1 0 1) 6 1)), (a2, zO 4 6 g2), (a3, zO 7 6 g3), (a4, zI K 645 f4), (a5, zO 2 6 (va_up g5 5 (.int 1))), (a6, zI K 608 (va_up f6 0 4)), (a7, zI K 608 (va_up f7 0 642)), (a8, zI K 608 (va_up f8 0 (-1))), (a9, zI K 608 (va_up f9 0 0)), (a10, zI K 608 (va_up f10 0 0)), (a11, zI K 1935 f11)] := hD.sub [11, 1, 0, 9, 2, 3, 4, 5, 6, 7, 8, 10] (by decide) rfl
  exact z_vret hx hb hr (fun _ => 0) trivial hP9 hD9 hS (Nat.le_of_ble_eq_true rfl) (Nat.le_of_ble_eq_true rfl) hlocks dX1_step_327
set_option maxHeartbeats 4000000 in
set_option maxRecDepth 100000 in
theorem cX11_checkRange_22 (l : Launch) (K : zK) (sz : Nat) (a0 : Nat) (g0 : Nat → Value) : Met l yX11_checkRange (Cond.code yX11_checkRange cX11_checkRange 3 none :: WG) { frames := 0, cells := 0, slots := 0, locals := 0 } (zPre K [(a0, zO 9 9 g0)] sz [.ref a0, .int 2, .int 601]) (va_Qv (fun _ : Nat → Nat => True) (zB K (va_A [(a0, zO 9 9 g0)] sz) (fun u : Nat → Nat => [(a0, zO 9 9 g0)])) (va_A [(a0, zO 9 9 g0)] sz)) 0 0 (va_A [(a0, zO 9 9 g0)] sz) := by
  refine z_met (Qc := fun A => (va_Qv (fun _ : Nat → Nat => True) (zB K A (fun u : Nat → Nat => [(a0, zO 9 9 g0)])) A)) (by decide +kernel) (Nat.le_of_ble_eq_true rfl) ?_
  intro p e s m args below meth c A ls H hx hb hr hg hown hlocks hml hin hK hP hD hA hS hZ hl
  have hown : s.vm.findClass RX11 = some m.cls := hown
  have hl : lv_has ls 3 [(0, .ref a0), (1, .int 2), (2, .int 601)] := hl
  refine lv_iload_n hx hb dX11_checkRange_0 rfl (lv_at hl 1 rfl) ?_
  refine lv_if_lt (tgt := 9) hx hb dX11_checkRange_1 (by decide) (fun c => absurd c (by decide)) (fun _ => ?_)
  refine lv_iload_n hx hb dX11_checkRange_4 rfl (lv_at hl 1 rfl) ?_
  refine lv_iload_n hx hb dX11_checkRange_5 rfl (lv_at hl 2 rfl) ?_
  refine lv_icmp_lt (tgt := 19) hx hb dX11_checkRange_6 (by decide) (fun _ => ?_) (fun c => absurd (by decide) c)
  have hP9 : va_P K.1 classes [(a0, zO 9 9 g0)] H := hP.sub [0] rfl
  have hD9 : va_D A [(a0, zO 9 9 g0)] := hD.sub [0] (by decide) rfl
  exact z_vret hx hb hr (fun _ => 0) trivial hP9 hD9 hS (Nat.le_of_ble_eq_true rfl) (Nat.le_of_ble_eq_true rfl) hlocks dX11_checkRange_19
set_option maxHeartbeats 4000000 in
set_option maxRecDepth 100000 in
theorem cX1_step_4 (l : Launch) (K : zK) (sz : Nat) (a0 : Nat) (a1 : Nat) (a2 : Nat) (a3 : Nat) (a4 : Nat) (a5 : Nat) (a6 : Nat) (a7 : Nat) (a8 : Nat) (a9 : Nat) (a10 : Nat) (a11 : Nat) (g0 : Nat → Value) (f1 : Nat → Int32) (g2 : Nat → Value) (g3 : Nat → Value) (f4 : Nat → Int32) (g5 : Nat → Value) (f6 : Nat → Int32) (f7 : Nat → Int32) (f8 : Nat → Int32) (f9 : Nat → Int32) (f10 : Nat → Int32) (f11 : Nat → Int32) (e0 : g0 10 = (.int 0)) (e1 : g0 8 = (.int 0)) (e2 : g0 9 = (.int 2)) (e3 : g0 2 = (.ref a1)) (e4 : f1 0 = 0) (e5 : g0 14 = (.int 0)) (e6 : f1 6 = 0) (e7 : g0 6 = (.ref a2)) (e8 : g2 0 = (.ref a3)) (e9 : g0 12 = (.int 642)) (e10 : g3 5 = (.int 645)) (e11 : g3 0 = (.ref a4)) (e12 : f4 642 = 4) (e13 : g0 1 = (.ref a5)) (e14 : g0 13 = (.int (-1))) (e15 : g5 5 = (.int 0)) (e16 : g5 0 = (.ref a6)) (e17 : g5 1 = (.ref a7)) (e18 : g5 2 = (.ref a8)) (e19 : g5 3 = (.ref a9)) (e20 : g5 4 = (.ref a10)) (e21 : g3 4 = (.ref a11)) (e22 : f11 1926 = 640) : Met l yX1_step (Cond.code yX1_step cX1_step 2 none :: WG) { frames := 1, cells := 0, slots := 0, locals := 25 } (zPre K [(a0, zO 1 18 g0), (a1, zI K 10 f1), (a2, zO 4 6 g2), (a3, zO 7 6 g3), (a4, zI K 645 f4), (a5, zO 2 6 g5), (a6, zI K 608 f6), (a7, zI K 608 f7), (a8, zI K 608 f8), (a9, zI K 608 f9), (a10, zI K 608 f10), (a11, zI K 1935 f11)] sz [.ref a0]) (va_Qv (fun _ : Nat → Nat => True) (zB K (va_A [(a0, zO 1 18 g0), (a1, zI K 10 f1), (a2, zO 4 6 g2), (a3, zO 7 6 g3), (a4, zI K 645 f4), (a5, zO 2 6 g5), (a6, zI K 608 f6), (a7, zI K 608 f7), (a8, zI K 608 f8), (a9, zI K 608 f9), (a10, zI K 608 f10), (a11, zI K 1935 f11)] sz) (fun u : Nat → Nat => [(a0, zO 1 18 (va_up (va_up (va_up g0 10 (.int 1)) 12 (.int 640)) 11 (.int 0))), (a1, zI K 10 (va_up (va_up f1 0 1) 6 1)), (a2, zO 4 6 g2), (a3, zO 7 6 g3), (a4, zI K 645 f4), (a5, zO 2 6 (va_up g5 5 (.int 1))), (a6, zI K 608 (va_up f6 0 4)), (a7, zI K 608 (va_up f7 0 642)), (a8, zI K 608 (va_up f8 0 (-1))), (a9, zI K 608 (va_up f9 0 0)), (a10, zI K 608 (va_up f10 0 0)), (a11, zI K 1935 f11)])) (va_A [(a0, zO 1 18 g0), (a1, zI K 10 f1), (a2, zO 4 6 g2), (a3, zO 7 6 g3), (a4, zI K 645 f4), (a5, zO 2 6 g5), (a6, zI K 608 f6), (a7, zI K 608 f7), (a8, zI K 608 f8), (a9, zI K 608 f9), (a10, zI K 608 f10), (a11, zI K 1935 f11)] sz)) 0 0 (va_A [(a0, zO 1 18 g0), (a1, zI K 10 f1), (a2, zO 4 6 g2), (a3, zO 7 6 g3), (a4, zI K 645 f4), (a5, zO 2 6 g5), (a6, zI K 608 f6), (a7, zI K 608 f7), (a8, zI K 608 f8), (a9, zI K 608 f9), (a10, zI K 608 f10), (a11, zI K 1935 f11)] sz) := by
  refine z_met (Qc := fun A => (va_Qv (fun _ : Nat → Nat => True) (zB K A (fun u : Nat → Nat => [(a0, zO 1 18 (va_up (va_up (va_up g0 10 (.int 1)) 12 (.int 640)) 11 (.int 0))), (a1, zI K 10 (va_up (va_up f1 0 1) 6 1)), (a2, zO 4 6 g2), (a3, zO 7 6 g3), (a4, zI K 645 f4), (a5, zO 2 6 (va_up g5 5 (.int 1))), (a6, zI K 608 (va_up f6 0 4)), (a7, zI K 608 (va_up f7 0 642)), (a8, zI K 608 (va_up f8 0 (-1))), (a9, zI K 608 (va_up f9 0 0)), (a10, zI K 608 (va_up f10 0 0)), (a11, zI K 1935 f11)])) A)) (by decide +kernel) (Nat.le_of_ble_eq_true rfl) ?_
  intro p e s m args below meth c A ls H hx hb hr hg hown hlocks hml hin hK hP hD hA hS hZ hl
  have hown : s.vm.findClass RX1 = some m.cls := hown
  have hl : lv_has ls 2 [(0, .ref a0)] := hl
  refine lv_aload_n hx hb dX1_step_0 rfl (lv_at hl 0 rfl) ?_
  refine z_get (v := .int 0) hx hb hg hown hK hP i_X1 rfl 0 rfl 10 (by decide) mt259 e0 dX1_step_1 ?_
  refine lv_aload_n hx hb dX1_step_4 rfl (lv_at hl 0 rfl) ?_
  refine z_get (v := .int 0) hx hb hg hown hK hP i_X1 rfl 0 rfl 8 (by decide) mt257 e1 dX1_step_5 ?_
  refine lv_if_eq (tgt := 17) hx hb dX1_step_8 (by decide) (fun _ => ?_) (fun c => absurd (by decide) c)
  refine lv_sipush (v := 600) hx hb dX1_step_17 (by decide) ?_
  refine lv_icmp_lt (tgt := 30) hx hb dX1_step_20 (by decide) (fun _ => ?_) (fun c => absurd (by decide) c)
  refine lv_aload_n hx hb dX1_step_30 rfl (lv_at hl 0 rfl) ?_
  refine z_get (v := .int 0) hx hb hg hown hK hP i_X1 rfl 0 rfl 8 (by decide) mt257 e1 dX1_step_31 ?_
  refine lv_if_ne (tgt := 57) hx hb dX1_step_34 (by decide) (fun c => absurd (by decide) c) (fun _ => ?_)
  refine lv_aload_n hx hb dX1_step_37 rfl (lv_at hl 0 rfl) ?_
  refine z_get (v := .int 0) hx hb hg hown hK hP i_X1 rfl 0 rfl 10 (by decide) mt259 e0 dX1_step_38 ?_
  refine lv_iconst (v := 1) hx hb dX1_step_41 (by decide) ?_
  refine lv_iadd hx hb dX1_step_42 ?_
  refine z_cst (v := 1) (by decide +kernel) ?_
  refine lv_aload_n hx hb dX1_step_43 rfl (lv_at hl 0 rfl) ?_
  refine z_get (v := .int 2) hx hb hg hown hK hP i_X1 rfl 0 rfl 9 (by decide) mt258 e2 dX1_step_44 ?_
  refine lv_icmp_ne (tgt := 57) hx hb dX1_step_47 (by decide) (fun _ => ?_) (fun c => absurd c (by decide))
  refine lv_aload_n hx hb dX1_step_57 rfl (lv_at hl 0 rfl) ?_
  refine z_callv [(a0, zO 1 18 g0), (a1, zI K 10 f1)] [(a2, zO 4 6 g2), (a3, zO 7 6 g3), (a4, zI K 645 f4), (a5, zO 2 6 g5), (a6, zI K 608 f6), (a7, zI K 608 f7), (a8, zI K 608 f8), (a9, zI K 608 f9), (a10, zI K 608 f10), (a11, zI K 1935 f11)] [0, 1] [2, 3, 4, 5, 6, 7, 8, 9, 10, 11] hP hD hS hA rfl rfl (by decide) (by decide) (by decide +kernel) 0 0 rfl rfl (fun hPc hDc hF => z_runV (As := []) (rest := []) ⟨hx, hb, hml, hown, hg⟩ (cX1_countStep_1 l K H.size a0 a1 g0 f1 e0 e1 e3 e4 e5 e6) kV_RX1_126 hd_X1_countStep rfl rfl ⟨(Nat.le_of_ble_eq_true rfl), (Nat.le_of_ble_eq_true rfl)⟩ hK hS hZ hPc hDc hF 0 rfl rfl rfl hl.1 rfl (Nat.le_of_ble_eq_true rfl) dX1_step_58 ⟨(Nat.le_of_ble_eq_true rfl), (Nat.le_of_ble_eq_true rfl)⟩) (fun u1 H locs w2 hP hD hS => ?_)
  have hP : va_P K.1 classes [(a2, zO 4 6 g2), (a3, zO 7 6 g3), (a4, zI K 645 f4), (a5, zO 2 6 g5), (a6, zI K 608 f6), (a7, zI K 608 f7), (a8, zI K 608 f8), (a9, zI K 608 f9), (a10, zI K 608 f10), (a11, zI K 1935 f11), (a0, zO 1 18 (va_up g0 10 (.int 1))), (a1, zI K 10 (va_up (va_up f1 0 1) 6 1))] H := hP
  have hD : va_D A [(a2, zO 4 6 g2), (a3, zO 7 6 g3), (a4, zI K 645 f4), (a5, zO 2 6 g5), (a6, zI K 608 f6), (a7, zI K 608 f7), (a8, zI K 608 f8), (a9, zI K 608 f9), (a10, zI K 608 f10), (a11, zI K 1935 f11), (a0, zO 1 18 (va_up g0 10 (.int 1))), (a1, zI K 10 (va_up (va_up f1 0 1) 6 1))] := hD
  obtain ⟨ff4, y5⟩ : ∃ z, z = ((va_up (va_up f1 0 1) 6 1) : Nat → Int32) := ⟨_, rfl⟩
  rw [← y5] at hP hD
  refine lv_aload_n hx hb dX1_step_61 rfl (lv_at hl 0 rfl) ?_
  refine z_get (v := .ref a2) hx hb hg hown hK hP i_X1 rfl 10 rfl 6 (by decide) mt255 (zu_ne (by decide) e7) dX1_step_62 ?_
  refine z_get (v := .ref a3) hx hb hg hown hK hP i_X5 rfl 0 rfl 0 (by decide) mt72 e8 dX1_step_65 ?_
  refine lv_aload_n hx hb dX1_step_68 rfl (lv_at hl 0 rfl) ?_
  refine z_get (v := .int 642) hx hb hg hown hK hP i_X1 rfl 10 rfl 12 (by decide) mt261 (zu_ne (by decide) e9) dX1_step_69 ?_
  refine z_calli [(a3, zO 7 6 g3), (a4, zI K 645 f4)] [(a2, zO 4 6 g2), (a5, zO 2 6 g5), (a6, zI K 608 f6), (a7, zI K 608 f7), (a8, zI K 608 f8), (a9, zI K 608 f9), (a10, zI K 608 f10), (a11, zI K 1935 f11), (a0, zO 1 18 (va_up g0 10 (.int 1))), (a1, zI K 10 ff4)] [1, 2] [0, 3, 4, 5, 6, 7, 8, 9, 10, 11] hP hD hS hA rfl rfl (by decide) (by decide) (by decide +kernel) 0 0 rfl rfl (fun hPc hDc hF => z_runV (As := [.int 642]) (rest := []) ⟨hx, hb, hml, hown, hg⟩ (cX9_kindOf_2 l K H.size a3 a4 g3 f4 e10 e11 e12) kV_RX1_135 hd_X9_kindOf rfl rfl ⟨(Nat.le_of_ble_eq_true rfl), (Nat.le_of_ble_eq_true rfl)⟩ hK hS hZ hPc hDc hF 0 rfl rfl rfl hl.1 rfl (Nat.le_of_ble_eq_true rfl) dX1_step_72 ⟨(Nat.le_of_ble_eq_true rfl), (Nat.le_of_ble_eq_true rfl)⟩) (fun r8 u6 H locs w7 hP hD hS => ?_)
  subst w7
  have hP : va_P K.1 classes [(a2, zO 4 6 g2), (a5, zO 2 6 g5), (a6, zI K 608 f6), (a7, zI K 608 f7), (a8, zI K 608 f8), (a9, zI K 608 f9), (a10, zI K 608 f10), (a11, zI K 1935 f11), (a0, zO 1 18 (va_up g0 10 (.int 1))), (a1, zI K 10 ff4), (a3, zO 7 6 g3), (a4, zI K 645 f4)] H := hP
  have hD : va_D A [(a2, zO 4 6 g2), (a5, zO 2 6 g5), (a6, zI K 608 f6), (a7, zI K 608 f7), (a8, zI K 608 f8), (a9, zI K 608 f9), (a10, zI K 608 f10), (a11, zI K 1935 f11), (a0, zO 1 18 (va_up g0 10 (.int 1))), (a1, zI K 10 ff4), (a3, zO 7 6 g3), (a4, zI K 645 f4)] := hD
  refine lv_istore_n (lv' := [(1, .int 4), (0, .ref a0)]) hx hb dX1_step_75 rfl hl (by decide) rfl (fun ls hl => ?_)
  refine lv_iload_n hx hb dX1_step_76 rfl (lv_at hl 0 rfl) ?_
  refine lv_tableIn (off := 210) (tgt := 287) hx hb dX1_step_77 (by decide) (by decide) (by decide) (by decide) ?_
  refine lv_aload_n hx hb dX1_step_287 rfl (lv_at hl 1 rfl) ?_
  refine z_get (v := .ref a5) hx hb hg hown hK hP i_X1 rfl 8 rfl 1 (by decide) mt250 (zu_ne (by decide) e13) dX1_step_288 ?_
  refine lv_iload_n hx hb dX1_step_291 rfl (lv_at hl 0 rfl) ?_
  refine lv_aload_n hx hb dX1_step_292 rfl (lv_at hl 1 rfl) ?_
  refine z_get (v := .int 642) hx hb hg hown hK hP i_X1 rfl 8 rfl 12 (by decide) mt261 (zu_ne (by decide) e9) dX1_step_293 ?_
  refine lv_aload_n hx hb dX1_step_296 rfl (lv_at hl 1 rfl) ?_
  refine z_get (v := .int (-1)) hx hb hg hown hK hP i_X1 rfl 8 rfl 13 (by decide) mt262 (zu_ne (by decide) e14) dX1_step_297 ?_
  refine lv_aload_n hx hb dX1_step_300 rfl (lv_at hl 1 rfl) ?_
  refine z_get (v := .int 0) hx hb hg hown hK hP i_X1 rfl 8 rfl 14 (by decide) mt263 (zu_ne (by decide) e5) dX1_step_301 ?_
  refine lv_iconst (v := 0) hx hb dX1_step_304 (by decide) ?_
  refine z_callv [(a5, zO 2 6 g5), (a6, zI K 608 f6), (a7, zI K 608 f7), (a8, zI K 608 f8), (a9, zI K 608 f9), (a10, zI K 608 f10)] [(a2, zO 4 6 g2), (a11, zI K 1935 f11), (a0, zO 1 18 (va_up g0 10 (.int 1))), (a1, zI K 10 ff4), (a3, zO 7 6 g3), (a4, zI K 645 f4)] [1, 2, 3, 4, 5, 6] [0, 7, 8, 9, 10, 11] hP hD hS hA rfl rfl (by decide) (by decide) (by decide +kernel) 0 0 rfl rfl (fun hPc hDc hF => z_runV (As := [.int 4, .int 642, .int (-1), .int 0, .int 0]) (rest := []) ⟨hx, hb, hml, hown, hg⟩ (cX2_push_1 l K H.size a5 a6 a7 a8 a9 a10 g5 f6 f7 f8 f9 f10 e15 e16 e17 e18 e19 e20) kV_RX1_170 hd_X2_push rfl rfl ⟨(Nat.le_of_ble_eq_true rfl), (Nat.le_of_ble_eq_true rfl)⟩ hK hS hZ hPc hDc hF 0 rfl rfl rfl hl.1 rfl (Nat.le_of_ble_eq_true rfl) dX1_step_305 ⟨(Nat.le_of_ble_eq_true rfl), (Nat.le_of_ble_eq_true rfl)⟩) (fun u9 H locs w10 hP hD hS => ?_)
  have hP : va_P K.1 classes [(a2, zO 4 6 g2), (a11, zI K 1935 f11), (a0, zO 1 18 (va_up g0 10 (.int 1))), (a1, zI K 10 ff4), (a3, zO 7 6 g3), (a4, zI K 645 f4), (a5, zO 2 6 (va_up g5 5 (.int 1))), (a6, zI K 608 (va_up f6 0 4)), (a7, zI K 608 (va_up f7 0 642)), (a8, zI K 608 (va_up f8 0 (-1))), (a9, zI K 608 (va_up f9 0 0)), (a10, zI K 608 (va_up f10 0 0))] H := hP
  have hD : va_D A [(a2, zO 4 6 g2), (a11, zI K 1935 f11), (a0, zO 1 18 (va_up g0 10 (.int 1))), (a1, zI K 10 ff4), (a3, zO 7 6 g3), (a4, zI K 645 f4), (a5, zO 2 6 (va_up g5 5 (.int 1))), (a6, zI K 608 (va_up f6 0 4)), (a7, zI K 608 (va_up f7 0 642)), (a8, zI K 608 (va_up f8 0 (-1))), (a9, zI K 608 (va_up f9 0 0)), (a10, zI K 608 (va_up f10 0 0))] := hD
  refine lv_aload_n hx hb dX1_step_308 rfl (lv_at hl 1 rfl) ?_
  refine lv_aload_n hx hb dX1_step_309 rfl (lv_at hl 1 rfl) ?_
  refine z_get (v := .ref a2) hx hb hg hown hK hP i_X1 rfl 2 rfl 6 (by decide) mt255 (zu_ne (by decide) e7) dX1_step_310 ?_
  refine z_get (v := .ref a3) hx hb hg hown hK hP i_X5 rfl 0 rfl 0 (by decide) mt72 e8 dX1_step_313 ?_
  refine lv_aload_n hx hb dX1_step_316 rfl (lv_at hl 1 rfl) ?_
  refine z_get (v := .int 642) hx hb hg hown hK hP i_X1 rfl 2 rfl 12 (by decide) mt261 (zu_ne (by decide) e9) dX1_step_317 ?_
  refine lv_iconst (v := 0) hx hb dX1_step_320 (by decide) ?_
  refine z_calli [(a3, zO 7 6 g3), (a11, zI K 1935 f11)] [(a2, zO 4 6 g2), (a0, zO 1 18 (va_up g0 10 (.int 1))), (a1, zI K 10 ff4), (a4, zI K 645 f4), (a5, zO 2 6 (va_up g5 5 (.int 1))), (a6, zI K 608 (va_up f6 0 4)), (a7, zI K 608 (va_up f7 0 642)), (a8, zI K 608 (va_up f8 0 (-1))), (a9, zI K 608 (va_up f9 0 0)), (a10, zI K 608 (va_up f10 0 0))] [4, 1] [0, 2, 3, 5, 6, 7, 8, 9, 10, 11] hP hD hS hA rfl rfl (by decide) (by decide) (by decide +kernel) 0 0 rfl rfl (fun hPc hDc hF => z_runV (As := [.int 642, .int 0]) (rest := [.ref a0]) ⟨hx, hb, hml, hown, hg⟩ (cX9_part_4 l K H.size a3 a11 g3 f11 e10 e21 e22) kV_RX1_166 hd_X9_part rfl rfl ⟨(Nat.le_of_ble_eq_true rfl), (Nat.le_of_ble_eq_true rfl)⟩ hK hS hZ hPc hDc hF 0 rfl rfl rfl hl.1 rfl (Nat.le_of_ble_eq_true rfl) dX1_step_321 ⟨(Nat.le_of_ble_eq_true rfl), (Nat.le_of_ble_eq_true rfl)⟩) (fun r14 u12 H locs w13 hP hD hS => ?_)
  subst w13
  have hP : va_P K.1 classes [(a2, zO 4 6 g2), (a0, zO 1 18 (va_up g0 10 (.int 1))), (a1, zI K 10 ff4), (a4, zI K 645 f4), (a5, zO 2 6 (va_up g5 5 (.int 1))), (a6, zI K 608 (va_up f6 0 4)), (a7, zI K 608 (va_up f7 0 642)), (a8, zI K 608 (va_up f8 0 (-1))), (a9, zI K 608 (va_up f9 0 0)), (a10, zI K 608 (va_up f10 0 0)), (a3, zO 7 6 g3), (a11, zI K 1935 f11)] H := hP
  have hD : va_D A [(a2, zO 4 6 g2), (a0, zO 1 18 (va_up g0 10 (.int 1))), (a1, zI K 10 ff4), (a4, zI K 645 f4), (a5, zO 2 6 (va_up g5 5 (.int 1))), (a6, zI K 608 (va_up f6 0 4)), (a7, zI K 608 (va_up f7 0 642)), (a8, zI K 608 (va_up f8 0 (-1))), (a9, zI K 608 (va_up f9 0 0)), (a10, zI K 608 (va_up f10 0 0)), (a3, zO 7 6 g3), (a11, zI K 1935 f11)] := hD
  refine z_callv [(a0, zO 1 18 (va_up g0 10 (.int 1)))] [(a2, zO 4 6 g2), (a1, zI K 10 ff4), (a4, zI K 645 f4), (a5, zO 2 6 (va_up g5 5 (.int 1))), (a6, zI K 608 (va_up f6 0 4)), (a7, zI K 608 (va_up f7 0 642)), (a8, zI K 608 (va_up f8 0 (-1))), (a9, zI K 608 (va_up f9 0 0)), (a10, zI K 608 (va_up f10 0 0)), (a3, zO 7 6 g3), (a11, zI K 1935 f11)] [1] [0, 2, 3, 4, 5, 6, 7, 8, 9, 10, 11] hP hD hS hA rfl rfl (by decide) (by decide) (by decide +kernel) 0 0 rfl rfl (fun hPc hDc hF => z_runV (As := [.int 640]) (rest := []) ⟨hx, hb, hml, hown, hg⟩ (cX1_goTo_2 l K H.size a0 (va_up g0 10 (.int 1))) kV_RX1_86 hd_X1_goTo rfl rfl ⟨(Nat.le_of_ble_eq_true rfl), (Nat.le_of_ble_eq_true rfl)⟩ hK hS hZ hPc hDc hF 0 rfl rfl rfl hl.1 rfl (Nat.le_of_ble_eq_true rfl) dX1_step_324 ⟨(Nat.le_of_ble_eq_true rfl), (Nat.le_of_ble_eq_true rfl)⟩) (fun u15 H locs w16 hP hD hS => ?_)
  have hP : va_P K.1 classes [(a2, zO 4 6 g2), (a1, zI K 10 ff4), (a4, zI K 645 f4), (a5, zO 2 6 (va_up g5 5 (.int 1))), (a6, zI K 608 (va_up f6 0 4)), (a7, zI K 608 (va_up f7 0 642)), (a8, zI K 608 (va_up f8 0 (-1))), (a9, zI K 608 (va_up f9 0 0)), (a10, zI K 608 (va_up f10 0 0)), (a3, zO 7 6 g3), (a11, zI K 1935 f11), (a0, zO 1 18 (va_up (va_up (va_up g0 10 (.int 1)) 12 (.int 640)) 11 (.int 0)))] H := hP
  have hD : va_D A [(a2, zO 4 6 g2), (a1, zI K 10 ff4), (a4, zI K 645 f4), (a5, zO 2 6 (va_up g5 5 (.int 1))), (a6, zI K 608 (va_up f6 0 4)), (a7, zI K 608 (va_up f7 0 642)), (a8, zI K 608 (va_up f8 0 (-1))), (a9, zI K 608 (va_up f9 0 0)), (a10, zI K 608 (va_up f10 0 0)), (a3, zO 7 6 g3), (a11, zI K 1935 f11), (a0, zO 1 18 (va_up (va_up (va_up g0 10 (.int 1)) 12 (.int 640)) 11 (.int 0)))] := hD
  obtain ⟨gg18, y19⟩ : ∃ z, z = ((va_up (va_up (va_up g0 10 (.int 1)) 12 (.int 640)) 11 (.int 0)) : Nat → Value) := ⟨_, rfl⟩
  rw [← y19] at hP hD
  subst y19
  subst y5
  have hP9 : va_P K.1 classes [(a0, zO 1 18 (va_up (va_up (va_up g0 10 (.int 1)) 12 (.int 640)) 11 (.int 0))), (a1, zI K 10 (va_up (va_up f1 0 1) 6 1)), (a2, zO 4 6 g2), (a3, zO 7 6 g3), (a4, zI K 645 f4), (a5, zO 2 6 (va_up g5 5 (.int 1))), (a6, zI K 608 (va_up f6 0 4)), (a7, zI K 608 (va_up f7 0 642)), (a8, zI K 608 (va_up f8 0 (-1))), (a9, zI K 608 (va_up f9 0 0)), (a10, zI K 608 (va_up f10 0 0)), (a11, zI K 1935 f11)] H := hP.sub [11, 1, 0, 9, 2, 3, 4, 5, 6, 7, 8, 10] rfl
  have hD9 : va_D A [(a0, zO 1 18 (va_up (va_up (va_up g0 10 (.int 1)) 12 (.int 640)) 11 (.int 0))), (a1, zI K 10 (va_up (va_up f1 0 1) 6 1)), (a2, zO 4 6 g2), (a3, zO 7 6 g3), (a4, zI K 645 f4), (a5, zO 2 6 (va_up g5 5 (.int 1))), (a6, zI K 608 (va_up f6 0 4)), (a7, zI K 608 (va_up f7 0 642)), (a8, zI K 608 (va_up f8 0 (-1))), (a9, zI K 608 (va_up f9 0 0)), (a10, zI K 608 (va_up f10 0 0)), (a11, zI K 1935 f11)] := hD.sub [11, 1, 0, 9, 2, 3, 4, 5, 6, 7, 8, 10] (by decide) rfl
  exact z_vret hx hb hr (fun _ => 0) trivial hP9 hD9 hS (Nat.le_of_ble_eq_true rfl) (Nat.le_of_ble_eq_true rfl) hlocks dX1_step_327
set_option maxHeartbeats 4000000 in
set_option maxRecDepth 100000 in
theorem cX1_step_5 (l : Launch) (K : zK) (sz : Nat) (a0 : Nat) (g0 : Nat → Value) (e0 : g0 10 = (.int 1)) (e1 : g0 8 = (.int 0)) (e2 : g0 9 = (.int 2)) : Met l yX1_step (Cond.code yX1_step cX1_step 2 none :: WG) { frames := 1, cells := 0, slots := 0, locals := 21 } (zPre K [(a0, zO 1 18 g0)] sz [.ref a0]) (va_Qv (fun _ : Nat → Nat => True) (zB K (va_A [(a0, zO 1 18 g0)] sz) (fun u : Nat → Nat => [(a0, zO 1 18 (va_up (va_up g0 16 (.int 7)) 11 (.int 4)))])) (va_A [(a0, zO 1 18 g0)] sz)) 0 0 (va_A [(a0, zO 1 18 g0)] sz) := by
  refine z_met (Qc := fun A => (va_Qv (fun _ : Nat → Nat => True) (zB K A (fun u : Nat → Nat => [(a0, zO 1 18 (va_up (va_up g0 16 (.int 7)) 11 (.int 4)))])) A)) (by decide +kernel) (Nat.le_of_ble_eq_true rfl) ?_
  intro p e s m args below meth c A ls H hx hb hr hg hown hlocks hml hin hK hP hD hA hS hZ hl
  have hown : s.vm.findClass RX1 = some m.cls := hown
  have hl : lv_has ls 2 [(0, .ref a0)] := hl
  refine lv_aload_n hx hb dX1_step_0 rfl (lv_at hl 0 rfl) ?_
  refine z_get (v := .int 1) hx hb hg hown hK hP i_X1 rfl 0 rfl 10 (by decide) mt259 e0 dX1_step_1 ?_
  refine lv_aload_n hx hb dX1_step_4 rfl (lv_at hl 0 rfl) ?_
  refine z_get (v := .int 0) hx hb hg hown hK hP i_X1 rfl 0 rfl 8 (by decide) mt257 e1 dX1_step_5 ?_
  refine lv_if_eq (tgt := 17) hx hb dX1_step_8 (by decide) (fun _ => ?_) (fun c => absurd (by decide) c)
  refine lv_sipush (v := 600) hx hb dX1_step_17 (by decide) ?_
  refine lv_icmp_lt (tgt := 30) hx hb dX1_step_20 (by decide) (fun _ => ?_) (fun c => absurd (by decide) c)
  refine lv_aload_n hx hb dX1_step_30 rfl (lv_at hl 0 rfl) ?_
  refine z_get (v := .int 0) hx hb hg hown hK hP i_X1 rfl 0 rfl 8 (by decide) mt257 e1 dX1_step_31 ?_
  refine lv_if_ne (tgt := 57) hx hb dX1_step_34 (by decide) (fun c => absurd (by decide) c) (fun _ => ?_)
  refine lv_aload_n hx hb dX1_step_37 rfl (lv_at hl 0 rfl) ?_
  refine z_get (v := .int 1) hx hb hg hown hK hP i_X1 rfl 0 rfl 10 (by decide) mt259 e0 dX1_step_38 ?_
  refine lv_iconst (v := 1) hx hb dX1_step_41 (by decide) ?_
  refine lv_iadd hx hb dX1_step_42 ?_
  refine z_cst (v := 2) (by decide +kernel) ?_
  refine lv_aload_n hx hb dX1_step_43 rfl (lv_at hl 0 rfl) ?_
  refine z_get (v := .int 2) hx hb hg hown hK hP i_X1 rfl 0 rfl 9 (by decide) mt258 e2 dX1_step_44 ?_
  refine lv_icmp_ne (tgt := 57) hx hb dX1_step_47 (by decide) (fun c => absurd (by decide) c) (fun _ => ?_)
  refine lv_aload_n hx hb dX1_step_50 rfl (lv_at hl 0 rfl) ?_
  refine lv_bipush (v := 7) hx hb dX1_step_51 (by decide) ?_
  refine z_callv [(a0, zO 1 18 g0)] [] [0] [] hP hD hS hA rfl rfl (by decide) (by decide) (by decide +kernel) 0 0 rfl rfl (fun hPc hDc hF => z_runV (As := [.int 7]) (rest := []) ⟨hx, hb, hml, hown, hg⟩ (cX1_stop_1 l K H.size a0 g0 e1) kV_RX1_119 hd_X1_stop rfl rfl ⟨(Nat.le_of_ble_eq_true rfl), (Nat.le_of_ble_eq_true rfl)⟩ hK hS hZ hPc hDc hF 0 rfl rfl rfl hl.1 rfl (Nat.le_of_ble_eq_true rfl) dX1_step_53 ⟨(Nat.le_of_ble_eq_true rfl), (Nat.le_of_ble_eq_true rfl)⟩) (fun u1 H locs w2 hP hD hS => ?_)
  have hP : va_P K.1 classes [(a0, zO 1 18 (va_up (va_up g0 16 (.int 7)) 11 (.int 4)))] H := hP
  have hD : va_D A [(a0, zO 1 18 (va_up (va_up g0 16 (.int 7)) 11 (.int 4)))] := hD
  obtain ⟨gg4, y5⟩ : ∃ z, z = ((va_up (va_up g0 16 (.int 7)) 11 (.int 4)) : Nat → Value) := ⟨_, rfl⟩
  rw [← y5] at hP hD
  subst y5
  have hP9 : va_P K.1 classes [(a0, zO 1 18 (va_up (va_up g0 16 (.int 7)) 11 (.int 4)))] H := hP.sub [0] rfl
  have hD9 : va_D A [(a0, zO 1 18 (va_up (va_up g0 16 (.int 7)) 11 (.int 4)))] := hD.sub [0] (by decide) rfl
  exact z_vret hx hb hr (fun _ => 0) trivial hP9 hD9 hS (Nat.le_of_ble_eq_true rfl) (Nat.le_of_ble_eq_true rfl) hlocks dX1_step_56
set_option maxHeartbeats 4000000 in
set_option maxRecDepth 100000 in
theorem cX2_pop_2 (l : Launch) (K : zK) (sz : Nat) (a0 : Nat) (g0 : Nat → Value) (e0 : g0 5 = (.int 1)) : Met l yX2_pop (Cond.code yX2_pop cX2_pop 1 (some .boolean) :: WG) { frames := 0, cells := 0, slots := 0, locals := 0 } (zPre K [(a0, zO 2 6 g0)] sz [.ref a0]) (va_Qi (fun (r : Int32) (_ : Nat → Nat) => r = 1) (zB K (va_A [(a0, zO 2 6 g0)] sz) (fun u : Nat → Nat => [(a0, zO 2 6 (va_up g0 5 (.int 0)))])) (va_A [(a0, zO 2 6 g0)] sz)) 0 0 (va_A [(a0, zO 2 6 g0)] sz) := by
  refine z_met (Qc := fun A => (va_Qi (fun (r : Int32) (_ : Nat → Nat) => r = 1) (zB K A (fun u : Nat → Nat => [(a0, zO 2 6 (va_up g0 5 (.int 0)))])) A)) (by decide +kernel) (Nat.le_of_ble_eq_true rfl) ?_
  intro p e s m args below meth c A ls H hx hb hr hg hown hlocks hml hin hK hP hD hA hS hZ hl
  have hown : s.vm.findClass RX2 = some m.cls := hown
  have hl : lv_has ls 1 [(0, .ref a0)] := hl
  refine lv_aload_n hx hb dX2_pop_0 rfl (lv_at hl 0 rfl) ?_
  refine z_get (v := .int 1) hx hb hg hown hK hP i_X2 rfl 0 rfl 5 (by decide) mt235 e0 dX2_pop_1 ?_
  refine lv_if_gt (tgt := 9) hx hb dX2_pop_4 (by decide) (fun _ => ?_) (fun c => absurd (by decide) c)
  refine lv_aload_n hx hb dX2_pop_9 rfl (lv_at hl 0 rfl) ?_
  refine lv_dup hx hb dX2_pop_10 rfl ?_
  refine z_get (v := .int 1) hx hb hg hown hK hP i_X2 rfl 0 rfl 5 (by decide) mt235 e0 dX2_pop_11 ?_
  refine lv_iconst (v := 1) hx hb dX2_pop_14 (by decide) ?_
  refine lv_isub hx hb dX2_pop_15 ?_
  refine z_cst (v := 0) (by decide +kernel) ?_
  refine z_put hx hb hg hown hK hP hD hS i_X2 rfl tyX2_ok nmX2 0 rfl 5 (by decide) mt235 rfl rfl rfl dX2_pop_16 (fun gg1 H locs y2 hP hD hS => ?_)
  have hP : va_P K.1 classes [(a0, zO 2 6 gg1)] H := hP
  have hD : va_D A [(a0, zO 2 6 gg1)] := hD
  refine lv_iconst (v := 1) hx hb dX2_pop_19 (by decide) ?_
  subst y2
  have hP9 : va_P K.1 classes [(a0, zO 2 6 (va_up g0 5 (.int 0)))] H := hP.sub [0] rfl
  have hD9 : va_D A [(a0, zO 2 6 (va_up g0 5 (.int 0)))] := hD.sub [0] (by decide) rfl
  exact z_zret hx hb hr rfl (fun _ => 0) rfl hP9 hD9 hS (Nat.le_of_ble_eq_true rfl) (Nat.le_of_ble_eq_true rfl) hlocks dX2_pop_20
set_option maxHeartbeats 4000000 in
set_option maxRecDepth 100000 in
theorem cX2_what_1 (l : Launch) (K : zK) (sz : Nat) (a0 : Nat) (a1 : Nat) (g0 : Nat → Value) (f1 : Nat → Int32) (e0 : g0 5 = (.int 0)) (e1 : g0 0 = (.ref a1)) (e2 : f1 0 = 4) : Met l yX2_what (Cond.code yX2_what cX2_what 1 (some .int) :: WG) { frames := 0, cells := 0, slots := 0, locals := 0 } (zPre K [(a0, zO 2 6 g0), (a1, zI K 608 f1)] sz [.ref a0]) (va_Qi (fun (r : Int32) (_ : Nat → Nat) => r = 4) (zB K (va_A [(a0, zO 2 6 g0), (a1, zI K 608 f1)] sz) (fun u : Nat → Nat => [(a0, zO 2 6 g0), (a1, zI K 608 f1)])) (va_A [(a0, zO 2 6 g0), (a1, zI K 608 f1)] sz)) 0 0 (va_A [(a0, zO 2 6 g0), (a1, zI K 608 f1)] sz) := by
  refine z_met (Qc := fun A => (va_Qi (fun (r : Int32) (_ : Nat → Nat) => r = 4) (zB K A (fun u : Nat → Nat => [(a0, zO 2 6 g0), (a1, zI K 608 f1)])) A)) (by decide +kernel) (Nat.le_of_ble_eq_true rfl) ?_
  intro p e s m args below meth c A ls H hx hb hr hg hown hlocks hml hin hK hP hD hA hS hZ hl
  have hown : s.vm.findClass RX2 = some m.cls := hown
  have hl : lv_has ls 1 [(0, .ref a0)] := hl
  refine lv_aload_n hx hb dX2_what_0 rfl (lv_at hl 0 rfl) ?_
  refine z_get (v := .int 0) hx hb hg hown hK hP i_X2 rfl 0 rfl 5 (by decide) mt235 e0 dX2_what_1 ?_
  refine lv_sipush (v := 608) hx hb dX2_what_4 (by decide) ?_
  refine lv_icmp_ge (tgt := 22) hx hb dX2_what_7 (by decide) (fun c => absurd c (by decide)) (fun _ => ?_)
  refine lv_aload_n hx hb dX2_what_10 rfl (lv_at hl 0 rfl) ?_
  refine z_get (v := .ref a1) hx hb hg hown hK hP i_X2 rfl 0 rfl 0 (by decide) mt230 e1 dX2_what_11 ?_
  refine lv_aload_n hx hb dX2_what_14 rfl (lv_at hl 0 rfl) ?_
  refine z_get (v := .int 0) hx hb hg hown hK hP i_X2 rfl 0 rfl 5 (by decide) mt235 e0 dX2_what_15 ?_
  refine z_iald (v := 4) (j := 0) hx hb hK hP 1 rfl rfl (Nat.le_of_ble_eq_true rfl) (Nat.le_of_ble_eq_true rfl) e2 dX2_what_18 ?_
  refine lv_goto (tgt := 23) hx hb dX2_what_19 (by decide) ?_
  have hP9 : va_P K.1 classes [(a0, zO 2 6 g0), (a1, zI K 608 f1)] H := hP.sub [0, 1] rfl
  have hD9 : va_D A [(a0, zO 2 6 g0), (a1, zI K 608 f1)] := hD.sub [0, 1] (by decide) rfl
  exact z_iret hx hb hr (fun _ => 0) rfl hP9 hD9 hS (Nat.le_of_ble_eq_true rfl) (Nat.le_of_ble_eq_true rfl) hlocks dX2_what_23
set_option maxHeartbeats 4000000 in
set_option maxRecDepth 100000 in
theorem cX1_uncolour_1 (l : Launch) (K : zK) (sz : Nat) (a0 : Nat) (a1 : Nat) (a2 : Nat) (g0 : Nat → Value) (g1 : Nat → Value) (f2 : Nat → Int32) (e0 : g0 1 = (.ref a1)) (e1 : g1 5 = (.int 0)) (e2 : g1 0 = (.ref a2)) (e3 : f2 0 = 4) : Met l yX1_uncolour (Cond.code yX1_uncolour cX1_uncolour 1 none :: WG) { frames := 1, cells := 0, slots := 0, locals := 20 } (zPre K [(a0, zO 1 18 g0), (a1, zO 2 6 g1), (a2, zI K 608 f2)] sz [.ref a0]) (va_Qv (fun _ : Nat → Nat => True) (zB K (va_A [(a0, zO 1 18 g0), (a1, zO 2 6 g1), (a2, zI K 608 f2)] sz) (fun u : Nat → Nat => [(a0, zO 1 18 g0), (a1, zO 2 6 g1), (a2, zI K 608 f2)])) (va_A [(a0, zO 1 18 g0), (a1, zO 2 6 g1), (a2, zI K 608 f2)] sz)) 0 0 (va_A [(a0, zO 1 18 g0), (a1, zO 2 6 g1), (a2, zI K 608 f2)] sz) := by
  refine z_met (Qc := fun A => (va_Qv (fun _ : Nat → Nat => True) (zB K A (fun u : Nat → Nat => [(a0, zO 1 18 g0), (a1, zO 2 6 g1), (a2, zI K 608 f2)])) A)) (by decide +kernel) (Nat.le_of_ble_eq_true rfl) ?_
  intro p e s m args below meth c A ls H hx hb hr hg hown hlocks hml hin hK hP hD hA hS hZ hl
  have hown : s.vm.findClass RX1 = some m.cls := hown
  have hl : lv_has ls 1 [(0, .ref a0)] := hl
  refine lv_aload_n hx hb dX1_uncolour_0 rfl (lv_at hl 0 rfl) ?_
  refine z_get (v := .ref a1) hx hb hg hown hK hP i_X1 rfl 0 rfl 1 (by decide) mt250 e0 dX1_uncolour_1 ?_
  refine z_calli [(a1, zO 2 6 g1), (a2, zI K 608 f2)] [(a0, zO 1 18 g0)] [1, 2] [0] hP hD hS hA rfl rfl (by decide) (by decide) (by decide +kernel) 0 0 rfl rfl (fun hPc hDc hF => z_runV (As := []) (rest := []) ⟨hx, hb, hml, hown, hg⟩ (cX2_what_1 l K H.size a1 a2 g1 f2 e1 e2 e3) kV_RX1_260 hd_X2_what rfl rfl ⟨(Nat.le_of_ble_eq_true rfl), (Nat.le_of_ble_eq_true rfl)⟩ hK hS hZ hPc hDc hF 0 rfl rfl rfl hl.1 rfl (Nat.le_of_ble_eq_true rfl) dX1_uncolour_4 ⟨(Nat.le_of_ble_eq_true rfl), (Nat.le_of_ble_eq_true rfl)⟩) (fun r3 u1 H locs w2 hP hD hS => ?_)
  subst w2
  have hP : va_P K.1 classes [(a0, zO 1 18 g0), (a1, zO 2 6 g1), (a2, zI K 608 f2)] H := hP
  have hD : va_D A [(a0, zO 1 18 g0), (a1, zO 2 6 g1), (a2, zI K 608 f2)] := hD
  refine lv_bipush (v := 16) hx hb dX1_uncolour_7 (by decide) ?_
  refine lv_icmp_ne (tgt := 30) hx hb dX1_uncolour_9 (by decide) (fun _ => ?_) (fun c => absurd c (by decide))
  refine lv_aload_n hx hb dX1_uncolour_30 rfl (lv_at hl 0 rfl) ?_
  refine z_get (v := .ref a1) hx hb hg hown hK hP i_X1 rfl 0 rfl 1 (by decide) mt250 e0 dX1_uncolour_31 ?_
  refine z_calli [(a1, zO 2 6 g1), (a2, zI K 608 f2)] [(a0, zO 1 18 g0)] [1, 2] [0] hP hD hS hA rfl rfl (by decide) (by decide) (by decide +kernel) 0 0 rfl rfl (fun hPc hDc hF => z_runV (As := []) (rest := []) ⟨hx, hb, hml, hown, hg⟩ (cX2_what_1 l K H.size a1 a2 g1 f2 e1 e2 e3) kV_RX1_260 hd_X2_what rfl rfl ⟨(Nat.le_of_ble_eq_true rfl), (Nat.le_of_ble_eq_true rfl)⟩ hK hS hZ hPc hDc hF 0 rfl rfl rfl hl.1 rfl (Nat.le_of_ble_eq_true rfl) dX1_uncolour_34 ⟨(Nat.le_of_ble_eq_true rfl), (Nat.le_of_ble_eq_true rfl)⟩) (fun r6 u4 H locs w5 hP hD hS => ?_)
  subst w5
  have hP : va_P K.1 classes [(a0, zO 1 18 g0), (a1, zO 2 6 g1), (a2, zI K 608 f2)] H := hP
  have hD : va_D A [(a0, zO 1 18 g0), (a1, zO 2 6 g1), (a2, zI K 608 f2)] := hD
  refine lv_bipush (v := 17) hx hb dX1_uncolour_37 (by decide) ?_
  refine lv_icmp_ne (tgt := 58) hx hb dX1_uncolour_39 (by decide) (fun _ => ?_) (fun c => absurd c (by decide))
  have hP9 : va_P K.1 classes [(a0, zO 1 18 g0), (a1, zO 2 6 g1), (a2, zI K 608 f2)] H := hP.sub [0, 1, 2] rfl
  have hD9 : va_D A [(a0, zO 1 18 g0), (a1, zO 2 6 g1), (a2, zI K 608 f2)] := hD.sub [0, 1, 2] (by decide) rfl
  exact z_vret hx hb hr (fun _ => 0) trivial hP9 hD9 hS (Nat.le_of_ble_eq_true rfl) (Nat.le_of_ble_eq_true rfl) hlocks dX1_uncolour_58
set_option maxHeartbeats 4000000 in
set_option maxRecDepth 100000 in
theorem cX1_leave_2 (l : Launch) (K : zK) (sz : Nat) (a0 : Nat) (a1 : Nat) (a2 : Nat) (g0 : Nat → Value) (g1 : Nat → Value) (f2 : Nat → Int32) (e0 : g0 1 = (.ref a1)) (e1 : g1 5 = (.int 1)) (e2 : g1 0 = (.ref a2)) (e3 : f2 0 = 4) : Met l yX1_leave (Cond.code yX1_leave cX1_leave 1 none :: WG) { frames := 2, cells := 0, slots := 0, locals := 40 } (zPre K [(a0, zO 1 18 g0), (a1, zO 2 6 g1), (a2, zI K 608 f2)] sz [.ref a0]) (va_Qv (fun _ : Nat → Nat => True) (zB K (va_A [(a0, zO 1 18 g0), (a1, zO 2 6 g1), (a2, zI K 608 f2)] sz) (fun u : Nat → Nat => [(a0, zO 1 18 g0), (a1, zO 2 6 (va_up g1 5 (.int 0))), (a2, zI K 608 f2)])) (va_A [(a0, zO 1 18 g0), (a1, zO 2 6 g1), (a2, zI K 608 f2)] sz)) 0 0 (va_A [(a0, zO 1 18 g0), (a1, zO 2 6 g1), (a2, zI K 608 f2)] sz) := by
  refine z_met (Qc := fun A => (va_Qv (fun _ : Nat → Nat => True) (zB K A (fun u : Nat → Nat => [(a0, zO 1 18 g0), (a1, zO 2 6 (va_up g1 5 (.int 0))), (a2, zI K 608 f2)])) A)) (by decide +kernel) (Nat.le_of_ble_eq_true rfl) ?_
  intro p e s m args below meth c A ls H hx hb hr hg hown hlocks hml hin hK hP hD hA hS hZ hl
  have hown : s.vm.findClass RX1 = some m.cls := hown
  have hl : lv_has ls 1 [(0, .ref a0)] := hl
  refine lv_aload_n hx hb dX1_leave_0 rfl (lv_at hl 0 rfl) ?_
  refine z_get (v := .ref a1) hx hb hg hown hK hP i_X1 rfl 0 rfl 1 (by decide) mt250 e0 dX1_leave_1 ?_
  refine z_calli [(a1, zO 2 6 g1)] [(a0, zO 1 18 g0), (a2, zI K 608 f2)] [1] [0, 2] hP hD hS hA rfl rfl (by decide) (by decide) (by decide +kernel) 0 0 rfl rfl (fun hPc hDc hF => z_runV (As := []) (rest := []) ⟨hx, hb, hml, hown, hg⟩ (cX2_pop_2 l K H.size a1 g1 e1) kV_RX1_244 hd_X2_pop rfl rfl ⟨(Nat.le_of_ble_eq_true rfl), (Nat.le_of_ble_eq_true rfl)⟩ hK hS hZ hPc hDc hF 0 rfl rfl rfl hl.1 rfl (Nat.le_of_ble_eq_true rfl) dX1_leave_4 ⟨(Nat.le_of_ble_eq_true rfl), (Nat.le_of_ble_eq_true rfl)⟩) (fun r3 u1 H locs w2 hP hD hS => ?_)
  subst w2
  have hP : va_P K.1 classes [(a0, zO 1 18 g0), (a2, zI K 608 f2), (a1, zO 2 6 (va_up g1 5 (.int 0)))] H := hP
  have hD : va_D A [(a0, zO 1 18 g0), (a2, zI K 608 f2), (a1, zO 2 6 (va_up g1 5 (.int 0)))] := hD
  refine lv_if_eq (tgt := 17) hx hb dX1_leave_7 (by decide) (fun c => absurd c (by decide)) (fun _ => ?_)
  refine lv_aload_n hx hb dX1_leave_10 rfl (lv_at hl 0 rfl) ?_
  refine z_callv [(a0, zO 1 18 g0), (a1, zO 2 6 (va_up g1 5 (.int 0))), (a2, zI K 608 f2)] [] [0, 2, 1] [] hP hD hS hA rfl rfl (by decide) (by decide) (by decide +kernel) 0 0 rfl rfl (fun hPc hDc hF => z_runV (As := []) (rest := []) ⟨hx, hb, hml, hown, hg⟩ (cX1_uncolour_1 l K H.size a0 a1 a2 g0 (va_up g1 5 (.int 0)) f2 e0 zu_eq (zu_ne (by decide) e2) e3) kV_RX1_304 hd_X1_uncolour rfl rfl ⟨(Nat.le_of_ble_eq_true rfl), (Nat.le_of_ble_eq_true rfl)⟩ hK hS hZ hPc hDc hF 0 rfl rfl rfl hl.1 rfl (Nat.le_of_ble_eq_true rfl) dX1_leave_11 ⟨(Nat.le_of_ble_eq_true rfl), (Nat.le_of_ble_eq_true rfl)⟩) (fun u4 H locs w5 hP hD hS => ?_)
  have hP : va_P K.1 classes [(a0, zO 1 18 g0), (a1, zO 2 6 (va_up g1 5 (.int 0))), (a2, zI K 608 f2)] H := hP
  have hD : va_D A [(a0, zO 1 18 g0), (a1, zO 2 6 (va_up g1 5 (.int 0))), (a2, zI K 608 f2)] := hD
  refine lv_goto (tgt := 22) hx hb dX1_leave_14 (by decide) ?_
  have hP9 : va_P K.1 classes [(a0, zO 1 18 g0), (a1, zO 2 6 (va_up g1 5 (.int 0))), (a2, zI K 608 f2)] H := hP.sub [0, 1, 2] rfl
  have hD9 : va_D A [(a0, zO 1 18 g0), (a1, zO 2 6 (va_up g1 5 (.int 0))), (a2, zI K 608 f2)] := hD.sub [0, 1, 2] (by decide) rfl
  exact z_vret hx hb hr (fun _ => 0) trivial hP9 hD9 hS (Nat.le_of_ble_eq_true rfl) (Nat.le_of_ble_eq_true rfl) hlocks dX1_leave_22
set_option maxHeartbeats 4000000 in
set_option maxRecDepth 100000 in
theorem cX1_find_7 (l : Launch) (K : zK) (sz : Nat) (a0 : Nat) (a1 : Nat) (a2 : Nat) (a3 : Nat) (a4 : Nat) (a5 : Nat) (a6 : Nat) (a7 : Nat) (a8 : Nat) (a9 : Nat) (a10 : Nat) (a11 : Nat) (a12 : Nat) (a13 : Nat) (a14 : Nat) (a15 : Nat) (a16 : Nat) (g0 : Nat → Value) (g2 : Nat → Value) (g1 : Nat → Value) (f3 : Nat → Int32) (g4 : Nat → Value) (f5 : Nat → Int32) (f6 : Nat → Option Nat) (g7 : Nat → Value) (f8 : Nat → Int32) (g9 : Nat → Value) (f10 : Nat → Int32) (f11 : Nat → Int32) (f12 : Nat → Int32) (f13 : Nat → Int32) (f14 : Nat → Int32) (f15 : Nat → Int32) (f16 : Nat → Int32) (e0 : g0 0 = (.ref a2)) (e1 : g2 6 = (.int 0)) (e2 : g2 4 = (.int 0)) (e3 : g2 0 = (.ref a1)) (e4 : g1 2 = (.ref a3)) (e5 : f3 0 = 0) (e6 : f3 1 = 0) (e7 : f3 2 = 0) (e8 : f3 3 = 0) (e9 : f3 4 = 0) (e10 : f3 5 = 0) (e11 : f3 6 = 0) (e12 : f3 7 = 0) (e13 : g2 1 = (.ref a4)) (e14 : g4 2 = (.ref a5)) (e15 : f5 0 = 0) (e16 : f5 1 = 0) (e17 : f5 2 = 0) (e18 : f5 3 = 0) (e19 : f5 4 = 0) (e20 : f5 5 = 0) (e21 : f5 6 = 0) (e22 : f5 7 = 0) (e23 : g2 3 = (.int 0)) (e24 : g2 2 = (.ref a6)) (e25 : g0 1 = (.ref a7)) (e26 : g0 2 = (.ref a8)) (e27 : g1 0 = (.ref a9)) (e28 : g9 5 = (.int 645)) (e29 : g9 0 = (.ref a10)) (e30 : f10 642 = 4) (e31 : g7 0 = (.ref a11)) (e32 : g7 1 = (.ref a12)) (e33 : g7 2 = (.ref a13)) (e34 : g7 3 = (.ref a14)) (e35 : g7 4 = (.ref a15)) (e36 : g9 4 = (.ref a16)) (e37 : f16 1926 = 640) : Met l yX1_find (Cond.code yX1_find cX1_find 6 (some .int) :: WG) { frames := 4, cells := 4, slots := 4203, locals := 72 } (zPre K [(a0, zO 1 18 g0), (a2, zO 3 7 g2), (a1, zO 4 6 g1), (a3, zI K 8 f3), (a4, zO 4 6 g4), (a5, zI K 8 f5), (a6, zR K 512 f6), (a7, zO 2 6 g7), (a8, zI K 10 f8), (a9, zO 7 6 g9), (a10, zI K 645 f10), (a11, zI K 608 f11), (a12, zI K 608 f12), (a13, zI K 608 f13), (a14, zI K 608 f14), (a15, zI K 608 f15), (a16, zI K 1935 f16)] sz [.ref a0, .ref a1, .int 642, .int 1, .int 2]) (va_Qi (fun (r : Int32) (_ : Nat → Nat) => r = 7) (zB K (va_A [(a0, zO 1 18 g0), (a2, zO 3 7 g2), (a1, zO 4 6 g1), (a3, zI K 8 f3), (a4, zO 4 6 g4), (a5, zI K 8 f5), (a6, zR K 512 f6), (a7, zO 2 6 g7), (a8, zI K 10 f8), (a9, zO 7 6 g9), (a10, zI K 645 f10), (a11, zI K 608 f11), (a12, zI K 608 f12), (a13, zI K 608 f13), (a14, zI K 608 f14), (a15, zI K 608 f15), (a16, zI K 1935 f16)] sz) (fun u : Nat → Nat => [(a0, zO 1 18 (va_up (va_up (va_up (va_up (va_up (va_up (va_up (va_up (va_up (va_up (va_up (va_up (va_up (va_up (va_up (va_up (va_up (va_up (va_up (va_up g0 6 (.ref a1)) 7 (.int 1)) 9 (.int 2)) 4 (.int 0)) 5 (.int 0)) 8 (.int 0)) 10 (.int 0)) 13 (.int (-1))) 14 (.int 0)) 16 (.int 6)) 17 (.int 0)) 12 (.int 642)) 11 (.int 0)) 10 (.int 1)) 12 (.int 640)) 11 (.int 0)) 16 (.int 7)) 11 (.int 4)) 11 (.int 5)) 11 (.int 6))), (a2, zO 3 7 (va_up (va_up (va_up (va_up (va_up g2 5 (.int 0)) 5 (.int 0)) 3 (.int 1)) 4 (.int 0)) 6 (.int 0))), (a1, zO 4 6 g1), (a3, zI K 8 f3), (a4, zO 4 6 g4), (a5, zI K 8 f5), (a6, zR K 512 (va_up f6 0 (some (u 0)))), (a7, zO 2 6 (va_up (va_up (va_up g7 5 (.int 0)) 5 (.int 1)) 5 (.int 0))), (a8, zI K 10 (va_up (va_up (va_up (va_up (va_up (va_up (va_up (va_up (va_up (va_up (va_up (va_up f8 0 0) 1 0) 2 0) 3 0) 4 0) 5 0) 6 0) 7 0) 8 0) 9 0) 0 1) 6 1)), (a9, zO 7 6 g9), (a10, zI K 645 f10), (a11, zI K 608 (va_up f11 0 4)), (a12, zI K 608 (va_up f12 0 642)), (a13, zI K 608 (va_up f13 0 (-1))), (a14, zI K 608 (va_up f14 0 0)), (a15, zI K 608 (va_up f15 0 0)), (a16, zI K 1935 f16), ((u 0), zO 6 3 (va_up (va_up (va_up (fun k => defaultValue (tyX7 k)) 0 (.ref (u 1))) 1 (.ref (u 2))) 2 (.ref (u 3)))), ((u 1), zJ K 1400 (fun _ => 0)), ((u 2), zJ K 1400 (fun _ => 0)), ((u 3), zJ K 1400 (fun _ => 0))])) (va_A [(a0, zO 1 18 g0), (a2, zO 3 7 g2), (a1, zO 4 6 g1), (a3, zI K 8 f3), (a4, zO 4 6 g4), (a5, zI K 8 f5), (a6, zR K 512 f6), (a7, zO 2 6 g7), (a8, zI K 10 f8), (a9, zO 7 6 g9), (a10, zI K 645 f10), (a11, zI K 608 f11), (a12, zI K 608 f12), (a13, zI K 608 f13), (a14, zI K 608 f14), (a15, zI K 608 f15), (a16, zI K 1935 f16)] sz)) 4 4203 (va_A [(a0, zO 1 18 g0), (a2, zO 3 7 g2), (a1, zO 4 6 g1), (a3, zI K 8 f3), (a4, zO 4 6 g4), (a5, zI K 8 f5), (a6, zR K 512 f6), (a7, zO 2 6 g7), (a8, zI K 10 f8), (a9, zO 7 6 g9), (a10, zI K 645 f10), (a11, zI K 608 f11), (a12, zI K 608 f12), (a13, zI K 608 f13), (a14, zI K 608 f14), (a15, zI K 608 f15), (a16, zI K 1935 f16)] sz) := by
  refine z_met (Qc := fun A => (va_Qi (fun (r : Int32) (_ : Nat → Nat) => r = 7) (zB K A (fun u : Nat → Nat => [(a0, zO 1 18 (va_up (va_up (va_up (va_up (va_up (va_up (va_up (va_up (va_up (va_up (va_up (va_up (va_up (va_up (va_up (va_up (va_up (va_up (va_up (va_up g0 6 (.ref a1)) 7 (.int 1)) 9 (.int 2)) 4 (.int 0)) 5 (.int 0)) 8 (.int 0)) 10 (.int 0)) 13 (.int (-1))) 14 (.int 0)) 16 (.int 6)) 17 (.int 0)) 12 (.int 642)) 11 (.int 0)) 10 (.int 1)) 12 (.int 640)) 11 (.int 0)) 16 (.int 7)) 11 (.int 4)) 11 (.int 5)) 11 (.int 6))), (a2, zO 3 7 (va_up (va_up (va_up (va_up (va_up g2 5 (.int 0)) 5 (.int 0)) 3 (.int 1)) 4 (.int 0)) 6 (.int 0))), (a1, zO 4 6 g1), (a3, zI K 8 f3), (a4, zO 4 6 g4), (a5, zI K 8 f5), (a6, zR K 512 (va_up f6 0 (some (u 0)))), (a7, zO 2 6 (va_up (va_up (va_up g7 5 (.int 0)) 5 (.int 1)) 5 (.int 0))), (a8, zI K 10 (va_up (va_up (va_up (va_up (va_up (va_up (va_up (va_up (va_up (va_up (va_up (va_up f8 0 0) 1 0) 2 0) 3 0) 4 0) 5 0) 6 0) 7 0) 8 0) 9 0) 0 1) 6 1)), (a9, zO 7 6 g9), (a10, zI K 645 f10), (a11, zI K 608 (va_up f11 0 4)), (a12, zI K 608 (va_up f12 0 642)), (a13, zI K 608 (va_up f13 0 (-1))), (a14, zI K 608 (va_up f14 0 0)), (a15, zI K 608 (va_up f15 0 0)), (a16, zI K 1935 f16), ((u 0), zO 6 3 (va_up (va_up (va_up (fun k => defaultValue (tyX7 k)) 0 (.ref (u 1))) 1 (.ref (u 2))) 2 (.ref (u 3)))), ((u 1), zJ K 1400 (fun _ => 0)), ((u 2), zJ K 1400 (fun _ => 0)), ((u 3), zJ K 1400 (fun _ => 0))])) A)) (by decide +kernel) (Nat.le_of_ble_eq_true rfl) ?_
  intro p e s m args below meth c A ls H hx hb hr hg hown hlocks hml hin hK hP hD hA hS hZ hl
  have hown : s.vm.findClass RX1 = some m.cls := hown
  have hl : lv_has ls 6 [(0, .ref a0), (1, .ref a1), (2, .int 642), (3, .int 1), (4, .int 2)] := hl
  refine lv_aload_n hx hb dX1_find_0 rfl (lv_at hl 0 rfl) ?_
  refine z_get (v := .ref a2) hx hb hg hown hK hP i_X1 rfl 0 rfl 0 (by decide) mt249 e0 dX1_find_1 ?_
  refine z_callv [(a2, zO 3 7 g2), (a1, zO 4 6 g1), (a3, zI K 8 f3), (a4, zO 4 6 g4), (a5, zI K 8 f5), (a6, zR K 512 f6)] [(a0, zO 1 18 g0), (a7, zO 2 6 g7), (a8, zI K 10 f8), (a9, zO 7 6 g9), (a10, zI K 645 f10), (a11, zI K 608 f11), (a12, zI K 608 f12), (a13, zI K 608 f13), (a14, zI K 608 f14), (a15, zI K 608 f15), (a16, zI K 1935 f16)] [1, 2, 3, 4, 5, 6] [0, 7, 8, 9, 10, 11, 12, 13, 14, 15, 16] hP hD hS hA rfl rfl (by decide) (by decide) (by decide +kernel) 4 4203 rfl rfl (fun hPc hDc hF => z_runV (As := []) (rest := []) ⟨hx, hb, hml, hown, hg⟩ (cX3_prepare_1 l K H.size a2 a1 a3 a4 a5 a6 g2 g1 f3 g4 f5 f6 e1 e2 e3 e4 e5 e6 e7 e8 e9 e10 e11 e12 e13 e14 e15 e16 e17 e18 e19 e20 e21 e22 e23 e24) kV_RX1_46 hd_X3_prepare rfl rfl ⟨(Nat.le_of_ble_eq_true rfl), (Nat.le_of_ble_eq_true rfl)⟩ hK hS hZ hPc hDc hF 0 rfl rfl rfl hl.1 rfl (Nat.le_of_ble_eq_true rfl) dX1_find_4 ⟨(Nat.le_of_ble_eq_true rfl), (Nat.le_of_ble_eq_true rfl)⟩) (fun u1 H locs w2 hP hD hS => ?_)
  have hP : va_P K.1 classes [(a0, zO 1 18 g0), (a7, zO 2 6 g7), (a8, zI K 10 f8), (a9, zO 7 6 g9), (a10, zI K 645 f10), (a11, zI K 608 f11), (a12, zI K 608 f12), (a13, zI K 608 f13), (a14, zI K 608 f14), (a15, zI K 608 f15), (a16, zI K 1935 f16), (a2, zO 3 7 (va_up (va_up (va_up (va_up (va_up g2 5 (.int 0)) 5 (.int 0)) 3 (.int 1)) 4 (.int 0)) 6 (.int 0))), (a1, zO 4 6 g1), (a3, zI K 8 f3), (a4, zO 4 6 g4), (a5, zI K 8 f5), (a6, zR K 512 (va_up f6 0 (some (u1 0)))), ((u1 0), zO 6 3 (va_up (va_up (va_up (fun k => defaultValue (tyX7 k)) 0 (.ref (u1 1))) 1 (.ref (u1 2))) 2 (.ref (u1 3)))), ((u1 1), zJ K 1400 (fun _ => 0)), ((u1 2), zJ K 1400 (fun _ => 0)), ((u1 3), zJ K 1400 (fun _ => 0))] H := hP
  have hD : va_D A [(a0, zO 1 18 g0), (a7, zO 2 6 g7), (a8, zI K 10 f8), (a9, zO 7 6 g9), (a10, zI K 645 f10), (a11, zI K 608 f11), (a12, zI K 608 f12), (a13, zI K 608 f13), (a14, zI K 608 f14), (a15, zI K 608 f15), (a16, zI K 1935 f16), (a2, zO 3 7 (va_up (va_up (va_up (va_up (va_up g2 5 (.int 0)) 5 (.int 0)) 3 (.int 1)) 4 (.int 0)) 6 (.int 0))), (a1, zO 4 6 g1), (a3, zI K 8 f3), (a4, zO 4 6 g4), (a5, zI K 8 f5), (a6, zR K 512 (va_up f6 0 (some (u1 0)))), ((u1 0), zO 6 3 (va_up (va_up (va_up (fun k => defaultValue (tyX7 k)) 0 (.ref (u1 1))) 1 (.ref (u1 2))) 2 (.ref (u1 3)))), ((u1 1), zJ K 1400 (fun _ => 0)), ((u1 2), zJ K 1400 (fun _ => 0)), ((u1 3), zJ K 1400 (fun _ => 0))] := hD
  obtain ⟨gg4, y5⟩ : ∃ z, z = ((va_up (va_up (va_up (va_up (va_up g2 5 (.int 0)) 5 (.int 0)) 3 (.int 1)) 4 (.int 0)) 6 (.int 0)) : Nat → Value) := ⟨_, rfl⟩
  rw [← y5] at hP hD
  obtain ⟨gg6, y7⟩ : ∃ z, z = ((va_up (va_up (va_up (fun k => defaultValue (tyX7 k)) 0 (.ref (u1 1))) 1 (.ref (u1 2))) 2 (.ref (u1 3))) : Nat → Value) := ⟨_, rfl⟩
  rw [← y7] at hP hD
  refine lv_aload_n hx hb dX1_find_7 rfl (lv_at hl 0 rfl) ?_
  refine z_get (v := .ref a7) hx hb hg hown hK hP i_X1 rfl 0 rfl 1 (by decide) mt250 e25 dX1_find_8 ?_
  refine z_callv [(a7, zO 2 6 g7)] [(a0, zO 1 18 g0), (a8, zI K 10 f8), (a9, zO 7 6 g9), (a10, zI K 645 f10), (a11, zI K 608 f11), (a12, zI K 608 f12), (a13, zI K 608 f13), (a14, zI K 608 f14), (a15, zI K 608 f15), (a16, zI K 1935 f16), (a2, zO 3 7 gg4), (a1, zO 4 6 g1), (a3, zI K 8 f3), (a4, zO 4 6 g4), (a5, zI K 8 f5), (a6, zR K 512 (va_up f6 0 (some (u1 0)))), ((u1 0), zO 6 3 gg6), ((u1 1), zJ K 1400 (fun _ => 0)), ((u1 2), zJ K 1400 (fun _ => 0)), ((u1 3), zJ K 1400 (fun _ => 0))] [1] [0, 2, 3, 4, 5, 6, 7, 8, 9, 10, 11, 12, 13, 14, 15, 16, 17, 18, 19, 20] hP hD hS hA rfl rfl (by decide) (by decide) (by decide +kernel) 4 4203 rfl rfl (fun hPc hDc hF => z_runV (As := []) (rest := []) ⟨hx, hb, hml, hown, hg⟩ (cX2_clear_1 l K H.size a7 g7) kV_RX1_49 hd_X2_clear rfl rfl ⟨(Nat.le_of_ble_eq_true rfl), (Nat.le_of_ble_eq_true rfl)⟩ hK hS hZ hPc hDc hF 0 rfl rfl rfl hl.1 rfl (Nat.le_of_ble_eq_true rfl) dX1_find_11 ⟨(Nat.le_of_ble_eq_true rfl), (Nat.le_of_ble_eq_true rfl)⟩) (fun u8 H locs w9 hP hD hS => ?_)
  have hP : va_P K.1 classes [(a0, zO 1 18 g0), (a8, zI K 10 f8), (a9, zO 7 6 g9), (a10, zI K 645 f10), (a11, zI K 608 f11), (a12, zI K 608 f12), (a13, zI K 608 f13), (a14, zI K 608 f14), (a15, zI K 608 f15), (a16, zI K 1935 f16), (a2, zO 3 7 gg4), (a1, zO 4 6 g1), (a3, zI K 8 f3), (a4, zO 4 6 g4), (a5, zI K 8 f5), (a6, zR K 512 (va_up f6 0 (some (u1 0)))), ((u1 0), zO 6 3 gg6), ((u1 1), zJ K 1400 (fun _ => 0)), ((u1 2), zJ K 1400 (fun _ => 0)), ((u1 3), zJ K 1400 (fun _ => 0)), (a7, zO 2 6 (va_up g7 5 (.int 0)))] H := hP
  have hD : va_D A [(a0, zO 1 18 g0), (a8, zI K 10 f8), (a9, zO 7 6 g9), (a10, zI K 645 f10), (a11, zI K 608 f11), (a12, zI K 608 f12), (a13, zI K 608 f13), (a14, zI K 608 f14), (a15, zI K 608 f15), (a16, zI K 1935 f16), (a2, zO 3 7 gg4), (a1, zO 4 6 g1), (a3, zI K 8 f3), (a4, zO 4 6 g4), (a5, zI K 8 f5), (a6, zR K 512 (va_up f6 0 (some (u1 0)))), ((u1 0), zO 6 3 gg6), ((u1 1), zJ K 1400 (fun _ => 0)), ((u1 2), zJ K 1400 (fun _ => 0)), ((u1 3), zJ K 1400 (fun _ => 0)), (a7, zO 2 6 (va_up g7 5 (.int 0)))] := hD
  refine lv_aload_n hx hb dX1_find_14 rfl (lv_at hl 0 rfl) ?_
  refine z_get (v := .ref a8) hx hb hg hown hK hP i_X1 rfl 0 rfl 2 (by decide) mt251 e26 dX1_find_15 ?_
  refine lv_iconst (v := 0) hx hb dX1_find_18 (by decide) ?_
  refine z_callv [(a8, zI K 10 f8)] [(a0, zO 1 18 g0), (a9, zO 7 6 g9), (a10, zI K 645 f10), (a11, zI K 608 f11), (a12, zI K 608 f12), (a13, zI K 608 f13), (a14, zI K 608 f14), (a15, zI K 608 f15), (a16, zI K 1935 f16), (a2, zO 3 7 gg4), (a1, zO 4 6 g1), (a3, zI K 8 f3), (a4, zO 4 6 g4), (a5, zI K 8 f5), (a6, zR K 512 (va_up f6 0 (some (u1 0)))), ((u1 0), zO 6 3 gg6), ((u1 1), zJ K 1400 (fun _ => 0)), ((u1 2), zJ K 1400 (fun _ => 0)), ((u1 3), zJ K 1400 (fun _ => 0)), (a7, zO 2 6 (va_up g7 5 (.int 0)))] [1] [0, 2, 3, 4, 5, 6, 7, 8, 9, 10, 11, 12, 13, 14, 15, 16, 17, 18, 19, 20] hP hD hS hA rfl rfl (by decide) (by decide) (by decide +kernel) 4 4203 rfl rfl (fun hPc hDc hF => z_runS (As := [.ref a8, .int 0]) (rest := []) ⟨hx, hb, hml, hown, hg⟩ (cJ7_fill_53178_1 l K H.size a8 f8) kS_RX1_52 hd_J7_fill_53178 rfl rfl ⟨(Nat.le_of_ble_eq_true rfl), (Nat.le_of_ble_eq_true rfl)⟩ hK hS hZ hPc hDc hF rfl hl.1 rfl (Nat.le_of_ble_eq_true rfl) dX1_find_19 ⟨(Nat.le_of_ble_eq_true rfl), (Nat.le_of_ble_eq_true rfl)⟩) (fun u11 H locs w12 hP hD hS => ?_)
  have hP : va_P K.1 classes [(a0, zO 1 18 g0), (a9, zO 7 6 g9), (a10, zI K 645 f10), (a11, zI K 608 f11), (a12, zI K 608 f12), (a13, zI K 608 f13), (a14, zI K 608 f14), (a15, zI K 608 f15), (a16, zI K 1935 f16), (a2, zO 3 7 gg4), (a1, zO 4 6 g1), (a3, zI K 8 f3), (a4, zO 4 6 g4), (a5, zI K 8 f5), (a6, zR K 512 (va_up f6 0 (some (u1 0)))), ((u1 0), zO 6 3 gg6), ((u1 1), zJ K 1400 (fun _ => 0)), ((u1 2), zJ K 1400 (fun _ => 0)), ((u1 3), zJ K 1400 (fun _ => 0)), (a7, zO 2 6 (va_up g7 5 (.int 0))), (a8, zI K 10 (va_up (va_up (va_up (va_up (va_up (va_up (va_up (va_up (va_up (va_up f8 0 0) 1 0) 2 0) 3 0) 4 0) 5 0) 6 0) 7 0) 8 0) 9 0))] H := hP
  have hD : va_D A [(a0, zO 1 18 g0), (a9, zO 7 6 g9), (a10, zI K 645 f10), (a11, zI K 608 f11), (a12, zI K 608 f12), (a13, zI K 608 f13), (a14, zI K 608 f14), (a15, zI K 608 f15), (a16, zI K 1935 f16), (a2, zO 3 7 gg4), (a1, zO 4 6 g1), (a3, zI K 8 f3), (a4, zO 4 6 g4), (a5, zI K 8 f5), (a6, zR K 512 (va_up f6 0 (some (u1 0)))), ((u1 0), zO 6 3 gg6), ((u1 1), zJ K 1400 (fun _ => 0)), ((u1 2), zJ K 1400 (fun _ => 0)), ((u1 3), zJ K 1400 (fun _ => 0)), (a7, zO 2 6 (va_up g7 5 (.int 0))), (a8, zI K 10 (va_up (va_up (va_up (va_up (va_up (va_up (va_up (va_up (va_up (va_up f8 0 0) 1 0) 2 0) 3 0) 4 0) 5 0) 6 0) 7 0) 8 0) 9 0))] := hD
  obtain ⟨ff14, y15⟩ : ∃ z, z = ((va_up (va_up (va_up (va_up (va_up (va_up (va_up (va_up (va_up (va_up f8 0 0) 1 0) 2 0) 3 0) 4 0) 5 0) 6 0) 7 0) 8 0) 9 0) : Nat → Int32) := ⟨_, rfl⟩
  rw [← y15] at hP hD
  refine lv_aload_n hx hb dX1_find_22 rfl (lv_at hl 0 rfl) ?_
  refine lv_aload_n hx hb dX1_find_23 rfl (lv_at hl 1 rfl) ?_
  refine z_put hx hb hg hown hK hP hD hS i_X1 rfl tyX1_ok nmX1 0 rfl 6 (by decide) mt255 rfl rfl rfl dX1_find_24 (fun gg16 H locs y17 hP hD hS => ?_)
  have hP : va_P K.1 classes [(a0, zO 1 18 gg16), (a9, zO 7 6 g9), (a10, zI K 645 f10), (a11, zI K 608 f11), (a12, zI K 608 f12), (a13, zI K 608 f13), (a14, zI K 608 f14), (a15, zI K 608 f15), (a16, zI K 1935 f16), (a2, zO 3 7 gg4), (a1, zO 4 6 g1), (a3, zI K 8 f3), (a4, zO 4 6 g4), (a5, zI K 8 f5), (a6, zR K 512 (va_up f6 0 (some (u1 0)))), ((u1 0), zO 6 3 gg6), ((u1 1), zJ K 1400 (fun _ => 0)), ((u1 2), zJ K 1400 (fun _ => 0)), ((u1 3), zJ K 1400 (fun _ => 0)), (a7, zO 2 6 (va_up g7 5 (.int 0))), (a8, zI K 10 ff14)] H := hP
  have hD : va_D A [(a0, zO 1 18 gg16), (a9, zO 7 6 g9), (a10, zI K 645 f10), (a11, zI K 608 f11), (a12, zI K 608 f12), (a13, zI K 608 f13), (a14, zI K 608 f14), (a15, zI K 608 f15), (a16, zI K 1935 f16), (a2, zO 3 7 gg4), (a1, zO 4 6 g1), (a3, zI K 8 f3), (a4, zO 4 6 g4), (a5, zI K 8 f5), (a6, zR K 512 (va_up f6 0 (some (u1 0)))), ((u1 0), zO 6 3 gg6), ((u1 1), zJ K 1400 (fun _ => 0)), ((u1 2), zJ K 1400 (fun _ => 0)), ((u1 3), zJ K 1400 (fun _ => 0)), (a7, zO 2 6 (va_up g7 5 (.int 0))), (a8, zI K 10 ff14)] := hD
  refine lv_aload_n hx hb dX1_find_27 rfl (lv_at hl 0 rfl) ?_
  refine lv_iload_n hx hb dX1_find_28 rfl (lv_at hl 3 rfl) ?_
  refine z_put hx hb hg hown hK hP hD hS i_X1 rfl tyX1_ok nmX1 0 rfl 7 (by decide) mt256 rfl rfl rfl dX1_find_29 (fun gg18 H locs y19 hP hD hS => ?_)
  have hP : va_P K.1 classes [(a0, zO 1 18 gg18), (a9, zO 7 6 g9), (a10, zI K 645 f10), (a11, zI K 608 f11), (a12, zI K 608 f12), (a13, zI K 608 f13), (a14, zI K 608 f14), (a15, zI K 608 f15), (a16, zI K 1935 f16), (a2, zO 3 7 gg4), (a1, zO 4 6 g1), (a3, zI K 8 f3), (a4, zO 4 6 g4), (a5, zI K 8 f5), (a6, zR K 512 (va_up f6 0 (some (u1 0)))), ((u1 0), zO 6 3 gg6), ((u1 1), zJ K 1400 (fun _ => 0)), ((u1 2), zJ K 1400 (fun _ => 0)), ((u1 3), zJ K 1400 (fun _ => 0)), (a7, zO 2 6 (va_up g7 5 (.int 0))), (a8, zI K 10 ff14)] H := hP
  have hD : va_D A [(a0, zO 1 18 gg18), (a9, zO 7 6 g9), (a10, zI K 645 f10), (a11, zI K 608 f11), (a12, zI K 608 f12), (a13, zI K 608 f13), (a14, zI K 608 f14), (a15, zI K 608 f15), (a16, zI K 1935 f16), (a2, zO 3 7 gg4), (a1, zO 4 6 g1), (a3, zI K 8 f3), (a4, zO 4 6 g4), (a5, zI K 8 f5), (a6, zR K 512 (va_up f6 0 (some (u1 0)))), ((u1 0), zO 6 3 gg6), ((u1 1), zJ K 1400 (fun _ => 0)), ((u1 2), zJ K 1400 (fun _ => 0)), ((u1 3), zJ K 1400 (fun _ => 0)), (a7, zO 2 6 (va_up g7 5 (.int 0))), (a8, zI K 10 ff14)] := hD
  refine lv_aload_n hx hb dX1_find_32 rfl (lv_at hl 0 rfl) ?_
  refine lv_iload hx hb dX1_find_33 (lv_at hl 4 rfl) ?_
  refine z_put hx hb hg hown hK hP hD hS i_X1 rfl tyX1_ok nmX1 0 rfl 9 (by decide) mt258 rfl rfl rfl dX1_find_35 (fun gg20 H locs y21 hP hD hS => ?_)
  have hP : va_P K.1 classes [(a0, zO 1 18 gg20), (a9, zO 7 6 g9), (a10, zI K 645 f10), (a11, zI K 608 f11), (a12, zI K 608 f12), (a13, zI K 608 f13), (a14, zI K 608 f14), (a15, zI K 608 f15), (a16, zI K 1935 f16), (a2, zO 3 7 gg4), (a1, zO 4 6 g1), (a3, zI K 8 f3), (a4, zO 4 6 g4), (a5, zI K 8 f5), (a6, zR K 512 (va_up f6 0 (some (u1 0)))), ((u1 0), zO 6 3 gg6), ((u1 1), zJ K 1400 (fun _ => 0)), ((u1 2), zJ K 1400 (fun _ => 0)), ((u1 3), zJ K 1400 (fun _ => 0)), (a7, zO 2 6 (va_up g7 5 (.int 0))), (a8, zI K 10 ff14)] H := hP
  have hD : va_D A [(a0, zO 1 18 gg20), (a9, zO 7 6 g9), (a10, zI K 645 f10), (a11, zI K 608 f11), (a12, zI K 608 f12), (a13, zI K 608 f13), (a14, zI K 608 f14), (a15, zI K 608 f15), (a16, zI K 1935 f16), (a2, zO 3 7 gg4), (a1, zO 4 6 g1), (a3, zI K 8 f3), (a4, zO 4 6 g4), (a5, zI K 8 f5), (a6, zR K 512 (va_up f6 0 (some (u1 0)))), ((u1 0), zO 6 3 gg6), ((u1 1), zJ K 1400 (fun _ => 0)), ((u1 2), zJ K 1400 (fun _ => 0)), ((u1 3), zJ K 1400 (fun _ => 0)), (a7, zO 2 6 (va_up g7 5 (.int 0))), (a8, zI K 10 ff14)] := hD
  refine lv_aload_n hx hb dX1_find_38 rfl (lv_at hl 0 rfl) ?_
  refine lv_iconst (v := 0) hx hb dX1_find_39 (by decide) ?_
  refine z_put hx hb hg hown hK hP hD hS i_X1 rfl tyX1_ok nmX1 0 rfl 4 (by decide) mt253 rfl rfl rfl dX1_find_40 (fun gg22 H locs y23 hP hD hS => ?_)
  have hP : va_P K.1 classes [(a0, zO 1 18 gg22), (a9, zO 7 6 g9), (a10, zI K 645 f10), (a11, zI K 608 f11), (a12, zI K 608 f12), (a13, zI K 608 f13), (a14, zI K 608 f14), (a15, zI K 608 f15), (a16, zI K 1935 f16), (a2, zO 3 7 gg4), (a1, zO 4 6 g1), (a3, zI K 8 f3), (a4, zO 4 6 g4), (a5, zI K 8 f5), (a6, zR K 512 (va_up f6 0 (some (u1 0)))), ((u1 0), zO 6 3 gg6), ((u1 1), zJ K 1400 (fun _ => 0)), ((u1 2), zJ K 1400 (fun _ => 0)), ((u1 3), zJ K 1400 (fun _ => 0)), (a7, zO 2 6 (va_up g7 5 (.int 0))), (a8, zI K 10 ff14)] H := hP
  have hD : va_D A [(a0, zO 1 18 gg22), (a9, zO 7 6 g9), (a10, zI K 645 f10), (a11, zI K 608 f11), (a12, zI K 608 f12), (a13, zI K 608 f13), (a14, zI K 608 f14), (a15, zI K 608 f15), (a16, zI K 1935 f16), (a2, zO 3 7 gg4), (a1, zO 4 6 g1), (a3, zI K 8 f3), (a4, zO 4 6 g4), (a5, zI K 8 f5), (a6, zR K 512 (va_up f6 0 (some (u1 0)))), ((u1 0), zO 6 3 gg6), ((u1 1), zJ K 1400 (fun _ => 0)), ((u1 2), zJ K 1400 (fun _ => 0)), ((u1 3), zJ K 1400 (fun _ => 0)), (a7, zO 2 6 (va_up g7 5 (.int 0))), (a8, zI K 10 ff14)] := hD
  refine lv_aload_n hx hb dX1_find_43 rfl (lv_at hl 0 rfl) ?_
  refine lv_iconst (v := 0) hx hb dX1_find_44 (by decide) ?_
  refine z_put hx hb hg hown hK hP hD hS i_X1 rfl tyX1_ok nmX1 0 rfl 5 (by decide) mt254 rfl rfl rfl dX1_find_45 (fun gg24 H locs y25 hP hD hS => ?_)
  have hP : va_P K.1 classes [(a0, zO 1 18 gg24), (a9, zO 7 6 g9), (a10, zI K 645 f10), (a11, zI K 608 f11), (a12, zI K 608 f12), (a13, zI K 608 f13), (a14, zI K 608 f14), (a15, zI K 608 f15), (a16, zI K 1935 f16), (a2, zO 3 7 gg4), (a1, zO 4 6 g1), (a3, zI K 8 f3), (a4, zO 4 6 g4), (a5, zI K 8 f5), (a6, zR K 512 (va_up f6 0 (some (u1 0)))), ((u1 0), zO 6 3 gg6), ((u1 1), zJ K 1400 (fun _ => 0)), ((u1 2), zJ K 1400 (fun _ => 0)), ((u1 3), zJ K 1400 (fun _ => 0)), (a7, zO 2 6 (va_up g7 5 (.int 0))), (a8, zI K 10 ff14)] H := hP
  have hD : va_D A [(a0, zO 1 18 gg24), (a9, zO 7 6 g9), (a10, zI K 645 f10), (a11, zI K 608 f11), (a12, zI K 608 f12), (a13, zI K 608 f13), (a14, zI K 608 f14), (a15, zI K 608 f15), (a16, zI K 1935 f16), (a2, zO 3 7 gg4), (a1, zO 4 6 g1), (a3, zI K 8 f3), (a4, zO 4 6 g4), (a5, zI K 8 f5), (a6, zR K 512 (va_up f6 0 (some (u1 0)))), ((u1 0), zO 6 3 gg6), ((u1 1), zJ K 1400 (fun _ => 0)), ((u1 2), zJ K 1400 (fun _ => 0)), ((u1 3), zJ K 1400 (fun _ => 0)), (a7, zO 2 6 (va_up g7 5 (.int 0))), (a8, zI K 10 ff14)] := hD
  refine lv_aload_n hx hb dX1_find_48 rfl (lv_at hl 0 rfl) ?_
  refine lv_iconst (v := 0) hx hb dX1_find_49 (by decide) ?_
  refine z_put hx hb hg hown hK hP hD hS i_X1 rfl tyX1_ok nmX1 0 rfl 8 (by decide) mt257 rfl rfl rfl dX1_find_50 (fun gg26 H locs y27 hP hD hS => ?_)
  have hP : va_P K.1 classes [(a0, zO 1 18 gg26), (a9, zO 7 6 g9), (a10, zI K 645 f10), (a11, zI K 608 f11), (a12, zI K 608 f12), (a13, zI K 608 f13), (a14, zI K 608 f14), (a15, zI K 608 f15), (a16, zI K 1935 f16), (a2, zO 3 7 gg4), (a1, zO 4 6 g1), (a3, zI K 8 f3), (a4, zO 4 6 g4), (a5, zI K 8 f5), (a6, zR K 512 (va_up f6 0 (some (u1 0)))), ((u1 0), zO 6 3 gg6), ((u1 1), zJ K 1400 (fun _ => 0)), ((u1 2), zJ K 1400 (fun _ => 0)), ((u1 3), zJ K 1400 (fun _ => 0)), (a7, zO 2 6 (va_up g7 5 (.int 0))), (a8, zI K 10 ff14)] H := hP
  have hD : va_D A [(a0, zO 1 18 gg26), (a9, zO 7 6 g9), (a10, zI K 645 f10), (a11, zI K 608 f11), (a12, zI K 608 f12), (a13, zI K 608 f13), (a14, zI K 608 f14), (a15, zI K 608 f15), (a16, zI K 1935 f16), (a2, zO 3 7 gg4), (a1, zO 4 6 g1), (a3, zI K 8 f3), (a4, zO 4 6 g4), (a5, zI K 8 f5), (a6, zR K 512 (va_up f6 0 (some (u1 0)))), ((u1 0), zO 6 3 gg6), ((u1 1), zJ K 1400 (fun _ => 0)), ((u1 2), zJ K 1400 (fun _ => 0)), ((u1 3), zJ K 1400 (fun _ => 0)), (a7, zO 2 6 (va_up g7 5 (.int 0))), (a8, zI K 10 ff14)] := hD
  refine lv_aload_n hx hb dX1_find_53 rfl (lv_at hl 0 rfl) ?_
  refine lv_iconst (v := 0) hx hb dX1_find_54 (by decide) ?_
  refine z_put hx hb hg hown hK hP hD hS i_X1 rfl tyX1_ok nmX1 0 rfl 10 (by decide) mt259 rfl rfl rfl dX1_find_55 (fun gg28 H locs y29 hP hD hS => ?_)
  have hP : va_P K.1 classes [(a0, zO 1 18 gg28), (a9, zO 7 6 g9), (a10, zI K 645 f10), (a11, zI K 608 f11), (a12, zI K 608 f12), (a13, zI K 608 f13), (a14, zI K 608 f14), (a15, zI K 608 f15), (a16, zI K 1935 f16), (a2, zO 3 7 gg4), (a1, zO 4 6 g1), (a3, zI K 8 f3), (a4, zO 4 6 g4), (a5, zI K 8 f5), (a6, zR K 512 (va_up f6 0 (some (u1 0)))), ((u1 0), zO 6 3 gg6), ((u1 1), zJ K 1400 (fun _ => 0)), ((u1 2), zJ K 1400 (fun _ => 0)), ((u1 3), zJ K 1400 (fun _ => 0)), (a7, zO 2 6 (va_up g7 5 (.int 0))), (a8, zI K 10 ff14)] H := hP
  have hD : va_D A [(a0, zO 1 18 gg28), (a9, zO 7 6 g9), (a10, zI K 645 f10), (a11, zI K 608 f11), (a12, zI K 608 f12), (a13, zI K 608 f13), (a14, zI K 608 f14), (a15, zI K 608 f15), (a16, zI K 1935 f16), (a2, zO 3 7 gg4), (a1, zO 4 6 g1), (a3, zI K 8 f3), (a4, zO 4 6 g4), (a5, zI K 8 f5), (a6, zR K 512 (va_up f6 0 (some (u1 0)))), ((u1 0), zO 6 3 gg6), ((u1 1), zJ K 1400 (fun _ => 0)), ((u1 2), zJ K 1400 (fun _ => 0)), ((u1 3), zJ K 1400 (fun _ => 0)), (a7, zO 2 6 (va_up g7 5 (.int 0))), (a8, zI K 10 ff14)] := hD
  refine lv_aload_n hx hb dX1_find_58 rfl (lv_at hl 0 rfl) ?_
  refine lv_iconst (v := (-1)) hx hb dX1_find_59 (by decide) ?_
  refine z_put hx hb hg hown hK hP hD hS i_X1 rfl tyX1_ok nmX1 0 rfl 13 (by decide) mt262 rfl rfl rfl dX1_find_60 (fun gg30 H locs y31 hP hD hS => ?_)
  have hP : va_P K.1 classes [(a0, zO 1 18 gg30), (a9, zO 7 6 g9), (a10, zI K 645 f10), (a11, zI K 608 f11), (a12, zI K 608 f12), (a13, zI K 608 f13), (a14, zI K 608 f14), (a15, zI K 608 f15), (a16, zI K 1935 f16), (a2, zO 3 7 gg4), (a1, zO 4 6 g1), (a3, zI K 8 f3), (a4, zO 4 6 g4), (a5, zI K 8 f5), (a6, zR K 512 (va_up f6 0 (some (u1 0)))), ((u1 0), zO 6 3 gg6), ((u1 1), zJ K 1400 (fun _ => 0)), ((u1 2), zJ K 1400 (fun _ => 0)), ((u1 3), zJ K 1400 (fun _ => 0)), (a7, zO 2 6 (va_up g7 5 (.int 0))), (a8, zI K 10 ff14)] H := hP
  have hD : va_D A [(a0, zO 1 18 gg30), (a9, zO 7 6 g9), (a10, zI K 645 f10), (a11, zI K 608 f11), (a12, zI K 608 f12), (a13, zI K 608 f13), (a14, zI K 608 f14), (a15, zI K 608 f15), (a16, zI K 1935 f16), (a2, zO 3 7 gg4), (a1, zO 4 6 g1), (a3, zI K 8 f3), (a4, zO 4 6 g4), (a5, zI K 8 f5), (a6, zR K 512 (va_up f6 0 (some (u1 0)))), ((u1 0), zO 6 3 gg6), ((u1 1), zJ K 1400 (fun _ => 0)), ((u1 2), zJ K 1400 (fun _ => 0)), ((u1 3), zJ K 1400 (fun _ => 0)), (a7, zO 2 6 (va_up g7 5 (.int 0))), (a8, zI K 10 ff14)] := hD
  refine lv_aload_n hx hb dX1_find_63 rfl (lv_at hl 0 rfl) ?_
  refine lv_iconst (v := 0) hx hb dX1_find_64 (by decide) ?_
  refine z_put hx hb hg hown hK hP hD hS i_X1 rfl tyX1_ok nmX1 0 rfl 14 (by decide) mt263 rfl rfl rfl dX1_find_65 (fun gg32 H locs y33 hP hD hS => ?_)
  have hP : va_P K.1 classes [(a0, zO 1 18 gg32), (a9, zO 7 6 g9), (a10, zI K 645 f10), (a11, zI K 608 f11), (a12, zI K 608 f12), (a13, zI K 608 f13), (a14, zI K 608 f14), (a15, zI K 608 f15), (a16, zI K 1935 f16), (a2, zO 3 7 gg4), (a1, zO 4 6 g1), (a3, zI K 8 f3), (a4, zO 4 6 g4), (a5, zI K 8 f5), (a6, zR K 512 (va_up f6 0 (some (u1 0)))), ((u1 0), zO 6 3 gg6), ((u1 1), zJ K 1400 (fun _ => 0)), ((u1 2), zJ K 1400 (fun _ => 0)), ((u1 3), zJ K 1400 (fun _ => 0)), (a7, zO 2 6 (va_up g7 5 (.int 0))), (a8, zI K 10 ff14)] H := hP
  have hD : va_D A [(a0, zO 1 18 gg32), (a9, zO 7 6 g9), (a10, zI K 645 f10), (a11, zI K 608 f11), (a12, zI K 608 f12), (a13, zI K 608 f13), (a14, zI K 608 f14), (a15, zI K 608 f15), (a16, zI K 1935 f16), (a2, zO 3 7 gg4), (a1, zO 4 6 g1), (a3, zI K 8 f3), (a4, zO 4 6 g4), (a5, zI K 8 f5), (a6, zR K 512 (va_up f6 0 (some (u1 0)))), ((u1 0), zO 6 3 gg6), ((u1 1), zJ K 1400 (fun _ => 0)), ((u1 2), zJ K 1400 (fun _ => 0)), ((u1 3), zJ K 1400 (fun _ => 0)), (a7, zO 2 6 (va_up g7 5 (.int 0))), (a8, zI K 10 ff14)] := hD
  refine lv_aload_n hx hb dX1_find_68 rfl (lv_at hl 0 rfl) ?_
  refine lv_bipush (v := 6) hx hb dX1_find_69 (by decide) ?_
  refine z_put hx hb hg hown hK hP hD hS i_X1 rfl tyX1_ok nmX1 0 rfl 16 (by decide) mt265 rfl rfl rfl dX1_find_71 (fun gg34 H locs y35 hP hD hS => ?_)
  have hP : va_P K.1 classes [(a0, zO 1 18 gg34), (a9, zO 7 6 g9), (a10, zI K 645 f10), (a11, zI K 608 f11), (a12, zI K 608 f12), (a13, zI K 608 f13), (a14, zI K 608 f14), (a15, zI K 608 f15), (a16, zI K 1935 f16), (a2, zO 3 7 gg4), (a1, zO 4 6 g1), (a3, zI K 8 f3), (a4, zO 4 6 g4), (a5, zI K 8 f5), (a6, zR K 512 (va_up f6 0 (some (u1 0)))), ((u1 0), zO 6 3 gg6), ((u1 1), zJ K 1400 (fun _ => 0)), ((u1 2), zJ K 1400 (fun _ => 0)), ((u1 3), zJ K 1400 (fun _ => 0)), (a7, zO 2 6 (va_up g7 5 (.int 0))), (a8, zI K 10 ff14)] H := hP
  have hD : va_D A [(a0, zO 1 18 gg34), (a9, zO 7 6 g9), (a10, zI K 645 f10), (a11, zI K 608 f11), (a12, zI K 608 f12), (a13, zI K 608 f13), (a14, zI K 608 f14), (a15, zI K 608 f15), (a16, zI K 1935 f16), (a2, zO 3 7 gg4), (a1, zO 4 6 g1), (a3, zI K 8 f3), (a4, zO 4 6 g4), (a5, zI K 8 f5), (a6, zR K 512 (va_up f6 0 (some (u1 0)))), ((u1 0), zO 6 3 gg6), ((u1 1), zJ K 1400 (fun _ => 0)), ((u1 2), zJ K 1400 (fun _ => 0)), ((u1 3), zJ K 1400 (fun _ => 0)), (a7, zO 2 6 (va_up g7 5 (.int 0))), (a8, zI K 10 ff14)] := hD
  refine lv_aload_n hx hb dX1_find_74 rfl (lv_at hl 0 rfl) ?_
  refine lv_iconst (v := 0) hx hb dX1_find_75 (by decide) ?_
  refine z_put hx hb hg hown hK hP hD hS i_X1 rfl tyX1_ok nmX1 0 rfl 17 (by decide) mt266 rfl rfl rfl dX1_find_76 (fun gg36 H locs y37 hP hD hS => ?_)
  have hP : va_P K.1 classes [(a0, zO 1 18 gg36), (a9, zO 7 6 g9), (a10, zI K 645 f10), (a11, zI K 608 f11), (a12, zI K 608 f12), (a13, zI K 608 f13), (a14, zI K 608 f14), (a15, zI K 608 f15), (a16, zI K 1935 f16), (a2, zO 3 7 gg4), (a1, zO 4 6 g1), (a3, zI K 8 f3), (a4, zO 4 6 g4), (a5, zI K 8 f5), (a6, zR K 512 (va_up f6 0 (some (u1 0)))), ((u1 0), zO 6 3 gg6), ((u1 1), zJ K 1400 (fun _ => 0)), ((u1 2), zJ K 1400 (fun _ => 0)), ((u1 3), zJ K 1400 (fun _ => 0)), (a7, zO 2 6 (va_up g7 5 (.int 0))), (a8, zI K 10 ff14)] H := hP
  have hD : va_D A [(a0, zO 1 18 gg36), (a9, zO 7 6 g9), (a10, zI K 645 f10), (a11, zI K 608 f11), (a12, zI K 608 f12), (a13, zI K 608 f13), (a14, zI K 608 f14), (a15, zI K 608 f15), (a16, zI K 1935 f16), (a2, zO 3 7 gg4), (a1, zO 4 6 g1), (a3, zI K 8 f3), (a4, zO 4 6 g4), (a5, zI K 8 f5), (a6, zR K 512 (va_up f6 0 (some (u1 0)))), ((u1 0), zO 6 3 gg6), ((u1 1), zJ K 1400 (fun _ => 0)), ((u1 2), zJ K 1400 (fun _ => 0)), ((u1 3), zJ K 1400 (fun _ => 0)), (a7, zO 2 6 (va_up g7 5 (.int 0))), (a8, zI K 10 ff14)] := hD
  refine lv_aload_n hx hb dX1_find_79 rfl (lv_at hl 0 rfl) ?_
  refine lv_iload_n hx hb dX1_find_80 rfl (lv_at hl 2 rfl) ?_
  refine z_callv [(a0, zO 1 18 gg36)] [(a9, zO 7 6 g9), (a10, zI K 645 f10), (a11, zI K 608 f11), (a12, zI K 608 f12), (a13, zI K 608 f13), (a14, zI K 608 f14), (a15, zI K 608 f15), (a16, zI K 1935 f16), (a2, zO 3 7 gg4), (a1, zO 4 6 g1), (a3, zI K 8 f3), (a4, zO 4 6 g4), (a5, zI K 8 f5), (a6, zR K 512 (va_up f6 0 (some (u1 0)))), ((u1 0), zO 6 3 gg6), ((u1 1), zJ K 1400 (fun _ => 0)), ((u1 2), zJ K 1400 (fun _ => 0)), ((u1 3), zJ K 1400 (fun _ => 0)), (a7, zO 2 6 (va_up g7 5 (.int 0))), (a8, zI K 10 ff14)] [0] [1, 2, 3, 4, 5, 6, 7, 8, 9, 10, 11, 12, 13, 14, 15, 16, 17, 18, 19, 20] hP hD hS hA rfl rfl (by decide) (by decide) (by decide +kernel) 4 4203 rfl rfl (fun hPc hDc hF => z_runV (As := [.int 642]) (rest := []) ⟨hx, hb, hml, hown, hg⟩ (cX1_goTo_4 l K H.size a0 gg36) kV_RX1_86 hd_X1_goTo rfl rfl ⟨(Nat.le_of_ble_eq_true rfl), (Nat.le_of_ble_eq_true rfl)⟩ hK hS hZ hPc hDc hF 0 rfl rfl rfl hl.1 rfl (Nat.le_of_ble_eq_true rfl) dX1_find_81 ⟨(Nat.le_of_ble_eq_true rfl), (Nat.le_of_ble_eq_true rfl)⟩) (fun u38 H locs w39 hP hD hS => ?_)
  have hP : va_P K.1 classes [(a9, zO 7 6 g9), (a10, zI K 645 f10), (a11, zI K 608 f11), (a12, zI K 608 f12), (a13, zI K 608 f13), (a14, zI K 608 f14), (a15, zI K 608 f15), (a16, zI K 1935 f16), (a2, zO 3 7 gg4), (a1, zO 4 6 g1), (a3, zI K 8 f3), (a4, zO 4 6 g4), (a5, zI K 8 f5), (a6, zR K 512 (va_up f6 0 (some (u1 0)))), ((u1 0), zO 6 3 gg6), ((u1 1), zJ K 1400 (fun _ => 0)), ((u1 2), zJ K 1400 (fun _ => 0)), ((u1 3), zJ K 1400 (fun _ => 0)), (a7, zO 2 6 (va_up g7 5 (.int 0))), (a8, zI K 10 ff14), (a0, zO 1 18 (va_up (va_up gg36 12 (.int 642)) 11 (.int 0)))] H := hP
  have hD : va_D A [(a9, zO 7 6 g9), (a10, zI K 645 f10), (a11, zI K 608 f11), (a12, zI K 608 f12), (a13, zI K 608 f13), (a14, zI K 608 f14), (a15, zI K 608 f15), (a16, zI K 1935 f16), (a2, zO 3 7 gg4), (a1, zO 4 6 g1), (a3, zI K 8 f3), (a4, zO 4 6 g4), (a5, zI K 8 f5), (a6, zR K 512 (va_up f6 0 (some (u1 0)))), ((u1 0), zO 6 3 gg6), ((u1 1), zJ K 1400 (fun _ => 0)), ((u1 2), zJ K 1400 (fun _ => 0)), ((u1 3), zJ K 1400 (fun _ => 0)), (a7, zO 2 6 (va_up g7 5 (.int 0))), (a8, zI K 10 ff14), (a0, zO 1 18 (va_up (va_up gg36 12 (.int 642)) 11 (.int 0)))] := hD
  obtain ⟨gg41, y42⟩ : ∃ z, z = ((va_up (va_up gg36 12 (.int 642)) 11 (.int 0)) : Nat → Value) := ⟨_, rfl⟩
  rw [← y42] at hP hD
  refine lv_iconst (v := 0) hx hb dX1_find_84 (by decide) ?_
  refine lv_istore (lv' := [(5, .int 0), (0, .ref a0), (1, .ref a1), (2, .int 642), (3, .int 1), (4, .int 2)]) hx hb dX1_find_85 hl (by decide) rfl (fun ls hl => ?_)
  refine lv_iload hx hb dX1_find_87 (lv_at hl 0 rfl) ?_
  refine lv_ldc (v := 1000000) hx hb hown (hg _ mt961) dX1_find_89 ?_
  refine lv_icmp_ge (tgt := 189) hx hb dX1_find_91 (by decide) (fun c => absurd c (by decide)) (fun _ => ?_)
  refine lv_aload_n hx hb dX1_find_94 rfl (lv_at hl 1 rfl) ?_
  refine z_get (v := .int 0) hx hb hg hown hK hP i_X1 rfl 20 rfl 11 (by decide) mt260 (zu_of y42 zu_eq) dX1_find_95 ?_
  refine lv_bipush (v := 6) hx hb dX1_find_98 (by decide) ?_
  refine lv_icmp_eq (tgt := 189) hx hb dX1_find_100 (by decide) (fun c => absurd c (by decide)) (fun _ => ?_)
  refine lv_aload_n hx hb dX1_find_103 rfl (lv_at hl 1 rfl) ?_
  refine z_get (v := .int 0) hx hb hg hown hK hP i_X1 rfl 20 rfl 11 (by decide) mt260 (zu_of y42 zu_eq) dX1_find_104 ?_
  refine lv_tableIn (off := 33) (tgt := 140) hx hb dX1_find_107 (by decide) (by decide) (by decide) (by decide) ?_
  refine lv_aload_n hx hb dX1_find_140 rfl (lv_at hl 1 rfl) ?_
  refine z_callv [(a0, zO 1 18 gg41), (a8, zI K 10 ff14), (a1, zO 4 6 g1), (a9, zO 7 6 g9), (a10, zI K 645 f10), (a7, zO 2 6 (va_up g7 5 (.int 0))), (a11, zI K 608 f11), (a12, zI K 608 f12), (a13, zI K 608 f13), (a14, zI K 608 f14), (a15, zI K 608 f15), (a16, zI K 1935 f16)] [(a2, zO 3 7 gg4), (a3, zI K 8 f3), (a4, zO 4 6 g4), (a5, zI K 8 f5), (a6, zR K 512 (va_up f6 0 (some (u1 0)))), ((u1 0), zO 6 3 gg6), ((u1 1), zJ K 1400 (fun _ => 0)), ((u1 2), zJ K 1400 (fun _ => 0)), ((u1 3), zJ K 1400 (fun _ => 0))] [20, 19, 9, 0, 1, 18, 2, 3, 4, 5, 6, 7] [8, 10, 11, 12, 13, 14, 15, 16, 17] hP hD hS hA rfl rfl (by decide) (by decide) (by decide +kernel) 4 4203 rfl rfl (fun hPc hDc hF => z_runV (As := []) (rest := []) ⟨hx, hb, hml, hown, hg⟩ (cX1_step_4 l K H.size a0 a8 a1 a9 a10 a7 a11 a12 a13 a14 a15 a16 gg41 ff14 g1 g9 f10 (va_up g7 5 (.int 0)) f11 f12 f13 f14 f15 f16 (zu_of y42 (zu_ne (by decide) (zu_ne (by decide) (zu_of y37 (zu_ne (by decide) (zu_of y35 (zu_ne (by decide) (zu_of y33 (zu_ne (by decide) (zu_of y31 (zu_ne (by decide) (zu_of y29 zu_eq)))))))))))) (zu_of y42 (zu_ne (by decide) (zu_ne (by decide) (zu_of y37 (zu_ne (by decide) (zu_of y35 (zu_ne (by decide) (zu_of y33 (zu_ne (by decide) (zu_of y31 (zu_ne (by decide) (zu_of y29 (zu_ne (by decide) (zu_of y27 zu_eq)))))))))))))) (zu_of y42 (zu_ne (by decide) (zu_ne (by decide) (zu_of y37 (zu_ne (by decide) (zu_of y35 (zu_ne (by decide) (zu_of y33 (zu_ne (by decide) (zu_of y31 (zu_ne (by decide) (zu_of y29 (zu_ne (by decide) (zu_of y27 (zu_ne (by decide) (zu_of y25 (zu_ne (by decide) (zu_of y23 (zu_ne (by decide) (zu_of y21 zu_eq)))))))))))))))))))) (zu_of y42 (zu_ne (by decide) (zu_ne (by decide) (zu_of y37 (zu_ne (by decide) (zu_of y35 (zu_ne (by decide) (zu_of y33 (zu_ne (by decide) (zu_of y31 (zu_ne (by decide) (zu_of y29 (zu_ne (by decide) (zu_of y27 (zu_ne (by decide) (zu_of y25 (zu_ne (by decide) (zu_of y23 (zu_ne (by decide) (zu_of y21 (zu_ne (by decide) (zu_of y19 (zu_ne (by decide) (zu_of y17 (zu_ne (by decide) e26))))))))))))))))))))))))) (zu_of y15 (zu_ne (by decide) (zu_ne (by decide) (zu_ne (by decide) (zu_ne (by decide) (zu_ne (by decide) (zu_ne (by decide) (zu_ne (by decide) (zu_ne (by decide) (zu_ne (by decide) zu_eq)))))))))) (zu_of y42 (zu_ne (by decide) (zu_ne (by decide) (zu_of y37 (zu_ne (by decide) (zu_of y35 (zu_ne (by decide) (zu_of y33 zu_eq)))))))) (zu_of y15 (zu_ne (by decide) (zu_ne (by decide) (zu_ne (by decide) zu_eq)))) (zu_of y42 (zu_ne (by decide) (zu_ne (by decide) (zu_of y37 (zu_ne (by decide) (zu_of y35 (zu_ne (by decide) (zu_of y33 (zu_ne (by decide) (zu_of y31 (zu_ne (by decide) (zu_of y29 (zu_ne (by decide) (zu_of y27 (zu_ne (by decide) (zu_of y25 (zu_ne (by decide) (zu_of y23 (zu_ne (by decide) (zu_of y21 (zu_ne (by decide) (zu_of y19 (zu_ne (by decide) (zu_of y17 zu_eq)))))))))))))))))))))))) e27 (zu_of y42 (zu_ne (by decide) zu_eq)) e28 e29 e30 (zu_of y42 (zu_ne (by decide) (zu_ne (by decide) (zu_of y37 (zu_ne (by decide) (zu_of y35 (zu_ne (by decide) (zu_of y33 (zu_ne (by decide) (zu_of y31 (zu_ne (by decide) (zu_of y29 (zu_ne (by decide) (zu_of y27 (zu_ne (by decide) (zu_of y25 (zu_ne (by decide) (zu_of y23 (zu_ne (by decide) (zu_of y21 (zu_ne (by decide) (zu_of y19 (zu_ne (by decide) (zu_of y17 (zu_ne (by decide) e25))))))))))))))))))))))))) (zu_of y42 (zu_ne (by decide) (zu_ne (by decide) (zu_of y37 (zu_ne (by decide) (zu_of y35 (zu_ne (by decide) (zu_of y33 (zu_ne (by decide) (zu_of y31 zu_eq)))))))))) zu_eq (zu_ne (by decide) e31) (zu_ne (by decide) e32) (zu_ne (by decide) e33) (zu_ne (by decide) e34) (zu_ne (by decide) e35) e36 e37) kV_RX1_91 hd_X1_step rfl rfl ⟨(Nat.le_of_ble_eq_true rfl), (Nat.le_of_ble_eq_true rfl)⟩ hK hS hZ hPc hDc hF 0 rfl rfl rfl hl.1 rfl (Nat.le_of_ble_eq_true rfl) dX1_find_141 ⟨(Nat.le_of_ble_eq_true rfl), (Nat.le_of_ble_eq_true rfl)⟩) (fun u43 H locs w44 hP hD hS => ?_)
  have hP : va_P K.1 classes [(a2, zO 3 7 gg4), (a3, zI K 8 f3), (a4, zO 4 6 g4), (a5, zI K 8 f5), (a6, zR K 512 (va_up f6 0 (some (u1 0)))), ((u1 0), zO 6 3 gg6), ((u1 1), zJ K 1400 (fun _ => 0)), ((u1 2), zJ K 1400 (fun _ => 0)), ((u1 3), zJ K 1400 (fun _ => 0)), (a0, zO 1 18 (va_up (va_up (va_up gg41 10 (.int 1)) 12 (.int 640)) 11 (.int 0))), (a8, zI K 10 (va_up (va_up ff14 0 1) 6 1)), (a1, zO 4 6 g1), (a9, zO 7 6 g9), (a10, zI K 645 f10), (a7, zO 2 6 (va_up (va_up g7 5 (.int 0)) 5 (.int 1))), (a11, zI K 608 (va_up f11 0 4)), (a12, zI K 608 (va_up f12 0 642)), (a13, zI K 608 (va_up f13 0 (-1))), (a14, zI K 608 (va_up f14 0 0)), (a15, zI K 608 (va_up f15 0 0)), (a16, zI K 1935 f16)] H := hP
  have hD : va_D A [(a2, zO 3 7 gg4), (a3, zI K 8 f3), (a4, zO 4 6 g4), (a5, zI K 8 f5), (a6, zR K 512 (va_up f6 0 (some (u1 0)))), ((u1 0), zO 6 3 gg6), ((u1 1), zJ K 1400 (fun _ => 0)), ((u1 2), zJ K 1400 (fun _ => 0)), ((u1 3), zJ K 1400 (fun _ => 0)), (a0, zO 1 18 (va_up (va_up (va_up gg41 10 (.int 1)) 12 (.int 640)) 11 (.int 0))), (a8, zI K 10 (va_up (va_up ff14 0 1) 6 1)), (a1, zO 4 6 g1), (a9, zO 7 6 g9), (a10, zI K 645 f10), (a7, zO 2 6 (va_up (va_up g7 5 (.int 0)) 5 (.int 1))), (a11, zI K 608 (va_up f11 0 4)), (a12, zI K 608 (va_up f12 0 642)), (a13, zI K 608 (va_up f13 0 (-1))), (a14, zI K 608 (va_up f14 0 0)), (a15, zI K 608 (va_up f15 0 0)), (a16, zI K 1935 f16)] := hD
  obtain ⟨gg46, y47⟩ : ∃ z, z = ((va_up (va_up (va_up gg41 10 (.int 1)) 12 (.int 640)) 11 (.int 0)) : Nat → Value) := ⟨_, rfl⟩
  rw [← y47] at hP hD
  obtain ⟨ff48, y49⟩ : ∃ z, z = ((va_up (va_up ff14 0 1) 6 1) : Nat → Int32) := ⟨_, rfl⟩
  rw [← y49] at hP hD
  obtain ⟨gg50, y51⟩ : ∃ z, z = ((va_up (va_up g7 5 (.int 0)) 5 (.int 1)) : Nat → Value) := ⟨_, rfl⟩
  rw [← y51] at hP hD
  refine lv_goto (tgt := 183) hx hb dX1_find_144 (by decide) ?_
  refine lv_iinc (v := 1) (lv' := [(5, .int 1), (0, .ref a0), (1, .ref a1), (2, .int 642), (3, .int 1), (4, .int 2)]) hx hb dX1_find_183 hl (k := 0) rfl (by decide +kernel) (by decide) rfl (fun ls hl => ?_)
  refine lv_goto (tgt := 87) hx hb dX1_find_186 (by decide) ?_
  refine lv_iload hx hb dX1_find_87 (lv_at hl 0 rfl) ?_
  refine lv_ldc (v := 1000000) hx hb hown (hg _ mt961) dX1_find_89 ?_
  refine lv_icmp_ge (tgt := 189) hx hb dX1_find_91 (by decide) (fun c => absurd c (by decide)) (fun _ => ?_)
  refine lv_aload_n hx hb dX1_find_94 rfl (lv_at hl 1 rfl) ?_
  refine z_get (v := .int 0) hx hb hg hown hK hP i_X1 rfl 9 rfl 11 (by decide) mt260 (zu_of y47 zu_eq) dX1_find_95 ?_
  refine lv_bipush (v := 6) hx hb dX1_find_98 (by decide) ?_
  refine lv_icmp_eq (tgt := 189) hx hb dX1_find_100 (by decide) (fun c => absurd c (by decide)) (fun _ => ?_)
  refine lv_aload_n hx hb dX1_find_103 rfl (lv_at hl 1 rfl) ?_
  refine z_get (v := .int 0) hx hb hg hown hK hP i_X1 rfl 9 rfl 11 (by decide) mt260 (zu_of y47 zu_eq) dX1_find_104 ?_
  refine lv_tableIn (off := 33) (tgt := 140) hx hb dX1_find_107 (by decide) (by decide) (by decide) (by decide) ?_
  refine lv_aload_n hx hb dX1_find_140 rfl (lv_at hl 1 rfl) ?_
  refine z_callv [(a0, zO 1 18 gg46)] [(a2, zO 3 7 gg4), (a3, zI K 8 f3), (a4, zO 4 6 g4), (a5, zI K 8 f5), (a6, zR K 512 (va_up f6 0 (some (u1 0)))), ((u1 0), zO 6 3 gg6), ((u1 1), zJ K 1400 (fun _ => 0)), ((u1 2), zJ K 1400 (fun _ => 0)), ((u1 3), zJ K 1400 (fun _ => 0)), (a8, zI K 10 ff48), (a1, zO 4 6 g1), (a9, zO 7 6 g9), (a10, zI K 645 f10), (a7, zO 2 6 gg50), (a11, zI K 608 (va_up f11 0 4)), (a12, zI K 608 (va_up f12 0 642)), (a13, zI K 608 (va_up f13 0 (-1))), (a14, zI K 608 (va_up f14 0 0)), (a15, zI K 608 (va_up f15 0 0)), (a16, zI K 1935 f16)] [9] [0, 1, 2, 3, 4, 5, 6, 7, 8, 10, 11, 12, 13, 14, 15, 16, 17, 18, 19, 20] hP hD hS hA rfl rfl (by decide) (by decide) (by decide +kernel) 4 4203 rfl rfl (fun hPc hDc hF => z_runV (As := []) (rest := []) ⟨hx, hb, hml, hown, hg⟩ (cX1_step_5 l K H.size a0 gg46 (zu_of y47 (zu_ne (by decide) (zu_ne (by decide) zu_eq))) (zu_of y47 (zu_ne (by decide) (zu_ne (by decide) (zu_ne (by decide) (zu_of y42 (zu_ne (by decide) (zu_ne (by decide) (zu_of y37 (zu_ne (by decide) (zu_of y35 (zu_ne (by decide) (zu_of y33 (zu_ne (by decide) (zu_of y31 (zu_ne (by decide) (zu_of y29 (zu_ne (by decide) (zu_of y27 zu_eq)))))))))))))))))) (zu_of y47 (zu_ne (by decide) (zu_ne (by decide) (zu_ne (by decide) (zu_of y42 (zu_ne (by decide) (zu_ne (by decide) (zu_of y37 (zu_ne (by decide) (zu_of y35 (zu_ne (by decide) (zu_of y33 (zu_ne (by decide) (zu_of y31 (zu_ne (by decide) (zu_of y29 (zu_ne (by decide) (zu_of y27 (zu_ne (by decide) (zu_of y25 (zu_ne (by decide) (zu_of y23 (zu_ne (by decide) (zu_of y21 zu_eq))))))))))))))))))))))))) kV_RX1_91 hd_X1_step rfl rfl ⟨(Nat.le_of_ble_eq_true rfl), (Nat.le_of_ble_eq_true rfl)⟩ hK hS hZ hPc hDc hF 0 rfl rfl rfl hl.1 rfl (Nat.le_of_ble_eq_true rfl) dX1_find_141 ⟨(Nat.le_of_ble_eq_true rfl), (Nat.le_of_ble_eq_true rfl)⟩) (fun u52 H locs w53 hP hD hS => ?_)
  have hP : va_P K.1 classes [(a2, zO 3 7 gg4), (a3, zI K 8 f3), (a4, zO 4 6 g4), (a5, zI K 8 f5), (a6, zR K 512 (va_up f6 0 (some (u1 0)))), ((u1 0), zO 6 3 gg6), ((u1 1), zJ K 1400 (fun _ => 0)), ((u1 2), zJ K 1400 (fun _ => 0)), ((u1 3), zJ K 1400 (fun _ => 0)), (a8, zI K 10 ff48), (a1, zO 4 6 g1), (a9, zO 7 6 g9), (a10, zI K 645 f10), (a7, zO 2 6 gg50), (a11, zI K 608 (va_up f11 0 4)), (a12, zI K 608 (va_up f12 0 642)), (a13, zI K 608 (va_up f13 0 (-1))), (a14, zI K 608 (va_up f14 0 0)), (a15, zI K 608 (va_up f15 0 0)), (a16, zI K 1935 f16), (a0, zO 1 18 (va_up (va_up gg46 16 (.int 7)) 11 (.int 4)))] H := hP
  have hD : va_D A [(a2, zO 3 7 gg4), (a3, zI K 8 f3), (a4, zO 4 6 g4), (a5, zI K 8 f5), (a6, zR K 512 (va_up f6 0 (some (u1 0)))), ((u1 0), zO 6 3 gg6), ((u1 1), zJ K 1400 (fun _ => 0)), ((u1 2), zJ K 1400 (fun _ => 0)), ((u1 3), zJ K 1400 (fun _ => 0)), (a8, zI K 10 ff48), (a1, zO 4 6 g1), (a9, zO 7 6 g9), (a10, zI K 645 f10), (a7, zO 2 6 gg50), (a11, zI K 608 (va_up f11 0 4)), (a12, zI K 608 (va_up f12 0 642)), (a13, zI K 608 (va_up f13 0 (-1))), (a14, zI K 608 (va_up f14 0 0)), (a15, zI K 608 (va_up f15 0 0)), (a16, zI K 1935 f16), (a0, zO 1 18 (va_up (va_up gg46 16 (.int 7)) 11 (.int 4)))] := hD
  obtain ⟨gg55, y56⟩ : ∃ z, z = ((va_up (va_up gg46 16 (.int 7)) 11 (.int 4)) : Nat → Value) := ⟨_, rfl⟩
  rw [← y56] at hP hD
  refine lv_goto (tgt := 183) hx hb dX1_find_144 (by decide) ?_
  refine lv_iinc (v := 2) (lv' := [(5, .int 2), (0, .ref a0), (1, .ref a1), (2, .int 642), (3, .int 1), (4, .int 2)]) hx hb dX1_find_183 hl (k := 0) rfl (by decide +kernel) (by decide) rfl (fun ls hl => ?_)
  refine lv_goto (tgt := 87) hx hb dX1_find_186 (by decide) ?_
  refine lv_iload hx hb dX1_find_87 (lv_at hl 0 rfl) ?_
  refine lv_ldc (v := 1000000) hx hb hown (hg _ mt961) dX1_find_89 ?_
  refine lv_icmp_ge (tgt := 189) hx hb dX1_find_91 (by decide) (fun c => absurd c (by decide)) (fun _ => ?_)
  refine lv_aload_n hx hb dX1_find_94 rfl (lv_at hl 1 rfl) ?_
  refine z_get (v := .int 4) hx hb hg hown hK hP i_X1 rfl 20 rfl 11 (by decide) mt260 (zu_of y56 zu_eq) dX1_find_95 ?_
  refine lv_bipush (v := 6) hx hb dX1_find_98 (by decide) ?_
  refine lv_icmp_eq (tgt := 189) hx hb dX1_find_100 (by decide) (fun c => absurd c (by decide)) (fun _ => ?_)
  refine lv_aload_n hx hb dX1_find_103 rfl (lv_at hl 1 rfl) ?_
  refine z_get (v := .int 4) hx hb hg hown hK hP i_X1 rfl 20 rfl 11 (by decide) mt260 (zu_of y56 zu_eq) dX1_find_104 ?_
  refine lv_tableIn (off := 65) (tgt := 172) hx hb dX1_find_107 (by decide) (by decide) (by decide) (by decide) ?_
  refine lv_aload_n hx hb dX1_find_172 rfl (lv_at hl 1 rfl) ?_
  refine z_callv [(a0, zO 1 18 gg55), (a7, zO 2 6 gg50), (a11, zI K 608 (va_up f11 0 4))] [(a2, zO 3 7 gg4), (a3, zI K 8 f3), (a4, zO 4 6 g4), (a5, zI K 8 f5), (a6, zR K 512 (va_up f6 0 (some (u1 0)))), ((u1 0), zO 6 3 gg6), ((u1 1), zJ K 1400 (fun _ => 0)), ((u1 2), zJ K 1400 (fun _ => 0)), ((u1 3), zJ K 1400 (fun _ => 0)), (a8, zI K 10 ff48), (a1, zO 4 6 g1), (a9, zO 7 6 g9), (a10, zI K 645 f10), (a12, zI K 608 (va_up f12 0 642)), (a13, zI K 608 (va_up f13 0 (-1))), (a14, zI K 608 (va_up f14 0 0)), (a15, zI K 608 (va_up f15 0 0)), (a16, zI K 1935 f16)] [20, 13, 14] [0, 1, 2, 3, 4, 5, 6, 7, 8, 9, 10, 11, 12, 15, 16, 17, 18, 19] hP hD hS hA rfl rfl (by decide) (by decide) (by decide +kernel) 4 4203 rfl rfl (fun hPc hDc hF => z_runV (As := []) (rest := []) ⟨hx, hb, hml, hown, hg⟩ (cX1_leave_2 l K H.size a0 a7 a11 gg55 gg50 (va_up f11 0 4) (zu_of y56 (zu_ne (by decide) (zu_ne (by decide) (zu_of y47 (zu_ne (by decide) (zu_ne (by decide) (zu_ne (by decide) (zu_of y42 (zu_ne (by decide) (zu_ne (by decide) (zu_of y37 (zu_ne (by decide) (zu_of y35 (zu_ne (by decide) (zu_of y33 (zu_ne (by decide) (zu_of y31 (zu_ne (by decide) (zu_of y29 (zu_ne (by decide) (zu_of y27 (zu_ne (by decide) (zu_of y25 (zu_ne (by decide) (zu_of y23 (zu_ne (by decide) (zu_of y21 (zu_ne (by decide) (zu_of y19 (zu_ne (by decide) (zu_of y17 (zu_ne (by decide) e25)))))))))))))))))))))))))))))))) (zu_of y51 zu_eq) (zu_of y51 (zu_ne (by decide) (zu_ne (by decide) e31))) zu_eq) kV_RX1_108 hd_X1_leave rfl rfl ⟨(Nat.le_of_ble_eq_true rfl), (Nat.le_of_ble_eq_true rfl)⟩ hK hS hZ hPc hDc hF 0 rfl rfl rfl hl.1 rfl (Nat.le_of_ble_eq_true rfl) dX1_find_173 ⟨(Nat.le_of_ble_eq_true rfl), (Nat.le_of_ble_eq_true rfl)⟩) (fun u57 H locs w58 hP hD hS => ?_)
  have hP : va_P K.1 classes [(a2, zO 3 7 gg4), (a3, zI K 8 f3), (a4, zO 4 6 g4), (a5, zI K 8 f5), (a6, zR K 512 (va_up f6 0 (some (u1 0)))), ((u1 0), zO 6 3 gg6), ((u1 1), zJ K 1400 (fun _ => 0)), ((u1 2), zJ K 1400 (fun _ => 0)), ((u1 3), zJ K 1400 (fun _ => 0)), (a8, zI K 10 ff48), (a1, zO 4 6 g1), (a9, zO 7 6 g9), (a10, zI K 645 f10), (a12, zI K 608 (va_up f12 0 642)), (a13, zI K 608 (va_up f13 0 (-1))), (a14, zI K 608 (va_up f14 0 0)), (a15, zI K 608 (va_up f15 0 0)), (a16, zI K 1935 f16), (a0, zO 1 18 gg55), (a7, zO 2 6 (va_up gg50 5 (.int 0))), (a11, zI K 608 (va_up f11 0 4))] H := hP
  have hD : va_D A [(a2, zO 3 7 gg4), (a3, zI K 8 f3), (a4, zO 4 6 g4), (a5, zI K 8 f5), (a6, zR K 512 (va_up f6 0 (some (u1 0)))), ((u1 0), zO 6 3 gg6), ((u1 1), zJ K 1400 (fun _ => 0)), ((u1 2), zJ K 1400 (fun _ => 0)), ((u1 3), zJ K 1400 (fun _ => 0)), (a8, zI K 10 ff48), (a1, zO 4 6 g1), (a9, zO 7 6 g9), (a10, zI K 645 f10), (a12, zI K 608 (va_up f12 0 642)), (a13, zI K 608 (va_up f13 0 (-1))), (a14, zI K 608 (va_up f14 0 0)), (a15, zI K 608 (va_up f15 0 0)), (a16, zI K 1935 f16), (a0, zO 1 18 gg55), (a7, zO 2 6 (va_up gg50 5 (.int 0))), (a11, zI K 608 (va_up f11 0 4))] := hD
  refine lv_goto (tgt := 183) hx hb dX1_find_176 (by decide) ?_
  refine lv_iinc (v := 3) (lv' := [(5, .int 3), (0, .ref a0), (1, .ref a1), (2, .int 642), (3, .int 1), (4, .int 2)]) hx hb dX1_find_183 hl (k := 0) rfl (by decide +kernel) (by decide) rfl (fun ls hl => ?_)
  refine lv_goto (tgt := 87) hx hb dX1_find_186 (by decide) ?_
  refine lv_iload hx hb dX1_find_87 (lv_at hl 0 rfl) ?_
  refine lv_ldc (v := 1000000) hx hb hown (hg _ mt961) dX1_find_89 ?_
  refine lv_icmp_ge (tgt := 189) hx hb dX1_find_91 (by decide) (fun c => absurd c (by decide)) (fun _ => ?_)
  refine lv_aload_n hx hb dX1_find_94 rfl (lv_at hl 1 rfl) ?_
  refine z_get (v := .int 4) hx hb hg hown hK hP i_X1 rfl 18 rfl 11 (by decide) mt260 (zu_of y56 zu_eq) dX1_find_95 ?_
  refine lv_bipush (v := 6) hx hb dX1_find_98 (by decide) ?_
  refine lv_icmp_eq (tgt := 189) hx hb dX1_find_100 (by decide) (fun c => absurd c (by decide)) (fun _ => ?_)
  refine lv_aload_n hx hb dX1_find_103 rfl (lv_at hl 1 rfl) ?_
  refine z_get (v := .int 4) hx hb hg hown hK hP i_X1 rfl 18 rfl 11 (by decide) mt260 (zu_of y56 zu_eq) dX1_find_104 ?_
  refine lv_tableIn (off := 65) (tgt := 172) hx hb dX1_find_107 (by decide) (by decide) (by decide) (by decide) ?_
  refine lv_aload_n hx hb dX1_find_172 rfl (lv_at hl 1 rfl) ?_
  refine z_callv [(a0, zO 1 18 gg55), (a7, zO 2 6 (va_up gg50 5 (.int 0)))] [(a2, zO 3 7 gg4), (a3, zI K 8 f3), (a4, zO 4 6 g4), (a5, zI K 8 f5), (a6, zR K 512 (va_up f6 0 (some (u1 0)))), ((u1 0), zO 6 3 gg6), ((u1 1), zJ K 1400 (fun _ => 0)), ((u1 2), zJ K 1400 (fun _ => 0)), ((u1 3), zJ K 1400 (fun _ => 0)), (a8, zI K 10 ff48), (a1, zO 4 6 g1), (a9, zO 7 6 g9), (a10, zI K 645 f10), (a12, zI K 608 (va_up f12 0 642)), (a13, zI K 608 (va_up f13 0 (-1))), (a14, zI K 608 (va_up f14 0 0)), (a15, zI K 608 (va_up f15 0 0)), (a16, zI K 1935 f16), (a11, zI K 608 (va_up f11 0 4))] [18, 19] [0, 1, 2, 3, 4, 5, 6, 7, 8, 9, 10, 11, 12, 13, 14, 15, 16, 17, 20] hP hD hS hA rfl rfl (by decide) (by decide) (by decide +kernel) 4 4203 rfl rfl (fun hPc hDc hF => z_runV (As := []) (rest := []) ⟨hx, hb, hml, hown, hg⟩ (cX1_leave_1 l K H.size a0 a7 gg55 (va_up gg50 5 (.int 0)) (zu_of y56 (zu_ne (by decide) (zu_ne (by decide) (zu_of y47 (zu_ne (by decide) (zu_ne (by decide) (zu_ne (by decide) (zu_of y42 (zu_ne (by decide) (zu_ne (by decide) (zu_of y37 (zu_ne (by decide) (zu_of y35 (zu_ne (by decide) (zu_of y33 (zu_ne (by decide) (zu_of y31 (zu_ne (by decide) (zu_of y29 (zu_ne (by decide) (zu_of y27 (zu_ne (by decide) (zu_of y25 (zu_ne (by decide) (zu_of y23 (zu_ne (by decide) (zu_of y21 (zu_ne (by decide) (zu_of y19 (zu_ne (by decide) (zu_of y17 (zu_ne (by decide) e25)))))))))))))))))))))))))))))))) zu_eq) kV_RX1_108 hd_X1_leave rfl rfl ⟨(Nat.le_of_ble_eq_true rfl), (Nat.le_of_ble_eq_true rfl)⟩ hK hS hZ hPc hDc hF 0 rfl rfl rfl hl.1 rfl (Nat.le_of_ble_eq_true rfl) dX1_find_173 ⟨(Nat.le_of_ble_eq_true rfl), (Nat.le_of_ble_eq_true rfl)⟩) (fun u60 H locs w61 hP hD hS => ?_)
  have hP : va_P K.1 classes [(a2, zO 3 7 gg4), (a3, zI K 8 f3), (a4, zO 4 6 g4), (a5, zI K 8 f5), (a6, zR K 512 (va_up f6 0 (some (u1 0)))), ((u1 0), zO 6 3 gg6), ((u1 1), zJ K 1400 (fun _ => 0)), ((u1 2), zJ K 1400 (fun _ => 0)), ((u1 3), zJ K 1400 (fun _ => 0)), (a8, zI K 10 ff48), (a1, zO 4 6 g1), (a9, zO 7 6 g9), (a10, zI K 645 f10), (a12, zI K 608 (va_up f12 0 642)), (a13, zI K 608 (va_up f13 0 (-1))), (a14, zI K 608 (va_up f14 0 0)), (a15, zI K 608 (va_up f15 0 0)), (a16, zI K 1935 f16), (a11, zI K 608 (va_up f11 0 4)), (a0, zO 1 18 (va_up gg55 11 (.int 5))), (a7, zO 2 6 (va_up gg50 5 (.int 0)))] H := hP
  have hD : va_D A [(a2, zO 3 7 gg4), (a3, zI K 8 f3), (a4, zO 4 6 g4), (a5, zI K 8 f5), (a6, zR K 512 (va_up f6 0 (some (u1 0)))), ((u1 0), zO 6 3 gg6), ((u1 1), zJ K 1400 (fun _ => 0)), ((u1 2), zJ K 1400 (fun _ => 0)), ((u1 3), zJ K 1400 (fun _ => 0)), (a8, zI K 10 ff48), (a1, zO 4 6 g1), (a9, zO 7 6 g9), (a10, zI K 645 f10), (a12, zI K 608 (va_up f12 0 642)), (a13, zI K 608 (va_up f13 0 (-1))), (a14, zI K 608 (va_up f14 0 0)), (a15, zI K 608 (va_up f15 0 0)), (a16, zI K 1935 f16), (a11, zI K 608 (va_up f11 0 4)), (a0, zO 1 18 (va_up gg55 11 (.int 5))), (a7, zO 2 6 (va_up gg50 5 (.int 0)))] := hD
  refine lv_goto (tgt := 183) hx hb dX1_find_176 (by decide) ?_
  refine lv_iinc (v := 4) (lv' := [(5, .int 4), (0, .ref a0), (1, .ref a1), (2, .int 642), (3, .int 1), (4, .int 2)]) hx hb dX1_find_183 hl (k := 0) rfl (by decide +kernel) (by decide) rfl (fun ls hl => ?_)
  refine lv_goto (tgt := 87) hx hb dX1_find_186 (by decide) ?_
  refine lv_iload hx hb dX1_find_87 (lv_at hl 0 rfl) ?_
  refine lv_ldc (v := 1000000) hx hb hown (hg _ mt961) dX1_find_89 ?_
  refine lv_icmp_ge (tgt := 189) hx hb dX1_find_91 (by decide) (fun c => absurd c (by decide)) (fun _ => ?_)
  refine lv_aload_n hx hb dX1_find_94 rfl (lv_at hl 1 rfl) ?_
  refine z_get (v := .int 5) hx hb hg hown hK hP i_X1 rfl 19 rfl 11 (by decide) mt260 zu_eq dX1_find_95 ?_
  refine lv_bipush (v := 6) hx hb dX1_find_98 (by decide) ?_
  refine lv_icmp_eq (tgt := 189) hx hb dX1_find_100 (by decide) (fun c => absurd c (by decide)) (fun _ => ?_)
  refine lv_aload_n hx hb dX1_find_103 rfl (lv_at hl 1 rfl) ?_
  refine z_get (v := .int 5) hx hb hg hown hK hP i_X1 rfl 19 rfl 11 (by decide) mt260 zu_eq dX1_find_104 ?_
  refine lv_tableOut (tgt := 179) hx hb dX1_find_107 (by decide) (by decide) ?_
  refine lv_aload_n hx hb dX1_find_179 rfl (lv_at hl 1 rfl) ?_
  refine z_callv [(a0, zO 1 18 (va_up gg55 11 (.int 5)))] [(a2, zO 3 7 gg4), (a3, zI K 8 f3), (a4, zO 4 6 g4), (a5, zI K 8 f5), (a6, zR K 512 (va_up f6 0 (some (u1 0)))), ((u1 0), zO 6 3 gg6), ((u1 1), zJ K 1400 (fun _ => 0)), ((u1 2), zJ K 1400 (fun _ => 0)), ((u1 3), zJ K 1400 (fun _ => 0)), (a8, zI K 10 ff48), (a1, zO 4 6 g1), (a9, zO 7 6 g9), (a10, zI K 645 f10), (a12, zI K 608 (va_up f12 0 642)), (a13, zI K 608 (va_up f13 0 (-1))), (a14, zI K 608 (va_up f14 0 0)), (a15, zI K 608 (va_up f15 0 0)), (a16, zI K 1935 f16), (a11, zI K 608 (va_up f11 0 4)), (a7, zO 2 6 (va_up gg50 5 (.int 0)))] [19] [0, 1, 2, 3, 4, 5, 6, 7, 8, 9, 10, 11, 12, 13, 14, 15, 16, 17, 18, 20] hP hD hS hA rfl rfl (by decide) (by decide) (by decide +kernel) 4 4203 rfl rfl (fun hPc hDc hF => z_runV (As := []) (rest := []) ⟨hx, hb, hml, hown, hg⟩ (cX1_rest_1 l K H.size a0 (va_up gg55 11 (.int 5)) (zu_ne (by decide) (zu_of y56 (zu_ne (by decide) zu_eq)))) kV_RX1_111 hd_X1_rest rfl rfl ⟨(Nat.le_of_ble_eq_true rfl), (Nat.le_of_ble_eq_true rfl)⟩ hK hS hZ hPc hDc hF 0 rfl rfl rfl hl.1 rfl (Nat.le_of_ble_eq_true rfl) dX1_find_180 ⟨(Nat.le_of_ble_eq_true rfl), (Nat.le_of_ble_eq_true rfl)⟩) (fun u63 H locs w64 hP hD hS => ?_)
  have hP : va_P K.1 classes [(a2, zO 3 7 gg4), (a3, zI K 8 f3), (a4, zO 4 6 g4), (a5, zI K 8 f5), (a6, zR K 512 (va_up f6 0 (some (u1 0)))), ((u1 0), zO 6 3 gg6), ((u1 1), zJ K 1400 (fun _ => 0)), ((u1 2), zJ K 1400 (fun _ => 0)), ((u1 3), zJ K 1400 (fun _ => 0)), (a8, zI K 10 ff48), (a1, zO 4 6 g1), (a9, zO 7 6 g9), (a10, zI K 645 f10), (a12, zI K 608 (va_up f12 0 642)), (a13, zI K 608 (va_up f13 0 (-1))), (a14, zI K 608 (va_up f14 0 0)), (a15, zI K 608 (va_up f15 0 0)), (a16, zI K 1935 f16), (a11, zI K 608 (va_up f11 0 4)), (a7, zO 2 6 (va_up gg50 5 (.int 0))), (a0, zO 1 18 (va_up (va_up gg55 11 (.int 5)) 11 (.int 6)))] H := hP
  have hD : va_D A [(a2, zO 3 7 gg4), (a3, zI K 8 f3), (a4, zO 4 6 g4), (a5, zI K 8 f5), (a6, zR K 512 (va_up f6 0 (some (u1 0)))), ((u1 0), zO 6 3 gg6), ((u1 1), zJ K 1400 (fun _ => 0)), ((u1 2), zJ K 1400 (fun _ => 0)), ((u1 3), zJ K 1400 (fun _ => 0)), (a8, zI K 10 ff48), (a1, zO 4 6 g1), (a9, zO 7 6 g9), (a10, zI K 645 f10), (a12, zI K 608 (va_up f12 0 642)), (a13, zI K 608 (va_up f13 0 (-1))), (a14, zI K 608 (va_up f14 0 0)), (a15, zI K 608 (va_up f15 0 0)), (a16, zI K 1935 f16), (a11, zI K 608 (va_up f11 0 4)), (a7, zO 2 6 (va_up gg50 5 (.int 0))), (a0, zO 1 18 (va_up (va_up gg55 11 (.int 5)) 11 (.int 6)))] := hD
  obtain ⟨gg66, y67⟩ : ∃ z, z = ((va_up (va_up gg55 11 (.int 5)) 11 (.int 6)) : Nat → Value) := ⟨_, rfl⟩
  rw [← y67] at hP hD
  refine lv_iinc (v := 5) (lv' := [(5, .int 5), (0, .ref a0), (1, .ref a1), (2, .int 642), (3, .int 1), (4, .int 2)]) hx hb dX1_find_183 hl (k := 0) rfl (by decide +kernel) (by decide) rfl (fun ls hl => ?_)
  refine lv_goto (tgt := 87) hx hb dX1_find_186 (by decide) ?_
  refine lv_iload hx hb dX1_find_87 (lv_at hl 0 rfl) ?_
  refine lv_ldc (v := 1000000) hx hb hown (hg _ mt961) dX1_find_89 ?_
  refine lv_icmp_ge (tgt := 189) hx hb dX1_find_91 (by decide) (fun c => absurd c (by decide)) (fun _ => ?_)
  refine lv_aload_n hx hb dX1_find_94 rfl (lv_at hl 1 rfl) ?_
  refine z_get (v := .int 6) hx hb hg hown hK hP i_X1 rfl 20 rfl 11 (by decide) mt260 (zu_of y67 zu_eq) dX1_find_95 ?_
  refine lv_bipush (v := 6) hx hb dX1_find_98 (by decide) ?_
  refine lv_icmp_eq (tgt := 189) hx hb dX1_find_100 (by decide) (fun _ => ?_) (fun c => absurd (by decide) c)
  refine lv_aload_n hx hb dX1_find_189 rfl (lv_at hl 1 rfl) ?_
  refine z_get (v := .int 7) hx hb hg hown hK hP i_X1 rfl 20 rfl 16 (by decide) mt265 (zu_of y67 (zu_ne (by decide) (zu_ne (by decide) (zu_of y56 (zu_ne (by decide) zu_eq))))) dX1_find_190 ?_
  subst y67
  subst y56
  subst y51
  subst y49
  subst y47
  subst y42
  subst y37
  subst y35
  subst y33
  subst y31
  subst y29
  subst y27
  subst y25
  subst y23
  subst y21
  subst y19
  subst y17
  subst y15
  subst y7
  subst y5
  have hP9 : va_P K.1 classes [(a0, zO 1 18 (va_up (va_up (va_up (va_up (va_up (va_up (va_up (va_up (va_up (va_up (va_up (va_up (va_up (va_up (va_up (va_up (va_up (va_up (va_up (va_up g0 6 (.ref a1)) 7 (.int 1)) 9 (.int 2)) 4 (.int 0)) 5 (.int 0)) 8 (.int 0)) 10 (.int 0)) 13 (.int (-1))) 14 (.int 0)) 16 (.int 6)) 17 (.int 0)) 12 (.int 642)) 11 (.int 0)) 10 (.int 1)) 12 (.int 640)) 11 (.int 0)) 16 (.int 7)) 11 (.int 4)) 11 (.int 5)) 11 (.int 6))), (a2, zO 3 7 (va_up (va_up (va_up (va_up (va_up g2 5 (.int 0)) 5 (.int 0)) 3 (.int 1)) 4 (.int 0)) 6 (.int 0))), (a1, zO 4 6 g1), (a3, zI K 8 f3), (a4, zO 4 6 g4), (a5, zI K 8 f5), (a6, zR K 512 (va_up f6 0 (some (u1 0)))), (a7, zO 2 6 (va_up (va_up (va_up g7 5 (.int 0)) 5 (.int 1)) 5 (.int 0))), (a8, zI K 10 (va_up (va_up (va_up (va_up (va_up (va_up (va_up (va_up (va_up (va_up (va_up (va_up f8 0 0) 1 0) 2 0) 3 0) 4 0) 5 0) 6 0) 7 0) 8 0) 9 0) 0 1) 6 1)), (a9, zO 7 6 g9), (a10, zI K 645 f10), (a11, zI K 608 (va_up f11 0 4)), (a12, zI K 608 (va_up f12 0 642)), (a13, zI K 608 (va_up f13 0 (-1))), (a14, zI K 608 (va_up f14 0 0)), (a15, zI K 608 (va_up f15 0 0)), (a16, zI K 1935 f16), ((u1 0), zO 6 3 (va_up (va_up (va_up (fun k => defaultValue (tyX7 k)) 0 (.ref (u1 1))) 1 (.ref (u1 2))) 2 (.ref (u1 3)))), ((u1 1), zJ K 1400 (fun _ => 0)), ((u1 2), zJ K 1400 (fun _ => 0)), ((u1 3), zJ K 1400 (fun _ => 0))] H := hP.sub [20, 0, 10, 1, 2, 3, 4, 19, 9, 11, 12, 18, 13, 14, 15, 16, 17, 5, 6, 7, 8] rfl
  have hD9 : va_D A [(a0, zO 1 18 (va_up (va_up (va_up (va_up (va_up (va_up (va_up (va_up (va_up (va_up (va_up (va_up (va_up (va_up (va_up (va_up (va_up (va_up (va_up (va_up g0 6 (.ref a1)) 7 (.int 1)) 9 (.int 2)) 4 (.int 0)) 5 (.int 0)) 8 (.int 0)) 10 (.int 0)) 13 (.int (-1))) 14 (.int 0)) 16 (.int 6)) 17 (.int 0)) 12 (.int 642)) 11 (.int 0)) 10 (.int 1)) 12 (.int 640)) 11 (.int 0)) 16 (.int 7)) 11 (.int 4)) 11 (.int 5)) 11 (.int 6))), (a2, zO 3 7 (va_up (va_up (va_up (va_up (va_up g2 5 (.int 0)) 5 (.int 0)) 3 (.int 1)) 4 (.int 0)) 6 (.int 0))), (a1, zO 4 6 g1), (a3, zI K 8 f3), (a4, zO 4 6 g4), (a5, zI K 8 f5), (a6, zR K 512 (va_up f6 0 (some (u1 0)))), (a7, zO 2 6 (va_up (va_up (va_up g7 5 (.int 0)) 5 (.int 1)) 5 (.int 0))), (a8, zI K 10 (va_up (va_up (va_up (va_up (va_up (va_up (va_up (va_up (va_up (va_up (va_up (va_up f8 0 0) 1 0) 2 0) 3 0) 4 0) 5 0) 6 0) 7 0) 8 0) 9 0) 0 1) 6 1)), (a9, zO 7 6 g9), (a10, zI K 645 f10), (a11, zI K 608 (va_up f11 0 4)), (a12, zI K 608 (va_up f12 0 642)), (a13, zI K 608 (va_up f13 0 (-1))), (a14, zI K 608 (va_up f14 0 0)), (a15, zI K 608 (va_up f15 0 0)), (a16, zI K 1935 f16), ((u1 0), zO 6 3 (va_up (va_up (va_up (fun k => defaultValue (tyX7 k)) 0 (.ref (u1 1))) 1 (.ref (u1 2))) 2 (.ref (u1 3)))), ((u1 1), zJ K 1400 (fun _ => 0)), ((u1 2), zJ K 1400 (fun _ => 0)), ((u1 3), zJ K 1400 (fun _ => 0))] := hD.sub [20, 0, 10, 1, 2, 3, 4, 19, 9, 11, 12, 18, 13, 14, 15, 16, 17, 5, 6, 7, 8] (by decide) rfl
  exact z_iret hx hb hr (fun k => ([(u1 0), (u1 1), (u1 2), (u1 3)] : List Nat).getD k 0) rfl hP9 hD9 hS (Nat.le_of_ble_eq_true rfl) (Nat.le_of_ble_eq_true rfl) hlocks dX1_find_193
set_option maxHeartbeats 4000000 in
set_option maxRecDepth 100000 in
theorem cX11_run_12 (l : Launch) (K : zK) (sz : Nat) (a0 : Nat) (a1 : Nat) (a2 : Nat) (a3 : Nat) (a4 : Nat) (a5 : Nat) (a6 : Nat) (a7 : Nat) (a8 : Nat) (a9 : Nat) (a10 : Nat) (a11 : Nat) (a12 : Nat) (a13 : Nat) (a14 : Nat) (a15 : Nat) (a16 : Nat) (a17 : Nat) (a18 : Nat) (a19 : Nat) (a20 : Nat) (g0 : Nat → Value) (g1 : Nat → Value) (g2 : Nat → Value) (f3 : Nat → Int32) (f4 : Nat → Int32) (f5 : Nat → Int32) (f6 : Nat → Int32) (f7 : Nat → Int32) (g8 : Nat → Value) (g9 : Nat → Value) (f10 : Nat → Int32) (g11 : Nat → Value) (f12 : Nat → Int32) (f13 : Nat → Option Nat) (g14 : Nat → Value) (f15 : Nat → Int32) (f16 : Nat → Int32) (f17 : Nat → Int32) (f18 : Nat → Int32) (f19 : Nat → Int32) (f20 : Nat → Int32) (j0 : Nat) (hj0 : j0 < 8) (x1 : Int32) (x2 : Int32) (e0 : g0 3 = (.ref a1)) (e1 : g1 0 = (.ref a2)) (e2 : g2 5 = (.int 645)) (e3 : g2 0 = (.ref a3)) (e4 : g2 1 = (.ref a4)) (e5 : g2 2 = (.ref a5)) (e6 : g2 3 = (.ref a6)) (e7 : g2 4 = (.ref a7)) (e8 : g0 7 = (.ref a8)) (e9 : g8 0 = (.ref a9)) (e10 : g9 6 = (.int 0)) (e11 : g9 4 = (.int 0)) (e12 : g9 0 = (.ref a1)) (e13 : g1 2 = (.ref a10)) (e14 : f10 0 = 0) (e15 : f10 1 = 0) (e16 : f10 2 = 0) (e17 : f10 3 = 0) (e18 : f10 4 = 0) (e19 : f10 5 = 0) (e20 : f10 6 = 0) (e21 : f10 7 = 0) (e22 : g9 1 = (.ref a11)) (e23 : g11 2 = (.ref a12)) (e24 : f12 0 = 0) (e25 : f12 1 = 0) (e26 : f12 2 = 0) (e27 : f12 3 = 0) (e28 : f12 4 = 0) (e29 : f12 5 = 0) (e30 : f12 6 = 0) (e31 : f12 7 = 0) (e32 : g9 3 = (.int 0)) (e33 : g9 2 = (.ref a13)) (e34 : g8 1 = (.ref a14)) (e35 : g8 2 = (.ref a15)) (e36 : g14 0 = (.ref a16)) (e37 : g14 1 = (.ref a17)) (e38 : g14 2 = (.ref a18)) (e39 : g14 3 = (.ref a19)) (e40 : g14 4 = (.ref a20)) : Met l yX11_run (Cond.code yX11_run cX11_run 9 (some .int) :: WG) { frames := 5, cells := 4, slots := 4203, locals := 97 } (zPre K [(a0, zO 9 9 g0), (a1, zO 4 6 g1), (a2, zO 7 6 g2), (a3, zI K 645 f3), (a4, zI K 645 f4), (a5, zI K 645 f5), (a6, zI K 645 f6), (a7, zI K 1935 f7), (a8, zO 1 18 g8), (a9, zO 3 7 g9), (a10, zI K 8 f10), (a11, zO 4 6 g11), (a12, zI K 8 f12), (a13, zR K 512 f13), (a14, zO 2 6 g14), (a15, zI K 10 f15), (a16, zI K 608 f16), (a17, zI K 608 f17), (a18, zI K 608 f18), (a19, zI K 608 f19), (a20, zI K 608 f20)] sz [.ref a0, .int (nI j0), .int 1, .int x1, .int x2, .int 2, .int 0]) (va_Qi (fun (r : Int32) (_ : Nat → Nat) => r = 7) (zB K (va_A [(a0, zO 9 9 g0), (a1, zO 4 6 g1), (a2, zO 7 6 g2), (a3, zI K 645 f3), (a4, zI K 645 f4), (a5, zI K 645 f5), (a6, zI K 645 f6), (a7, zI K 1935 f7), (a8, zO 1 18 g8), (a9, zO 3 7 g9), (a10, zI K 8 f10), (a11, zO 4 6 g11), (a12, zI K 8 f12), (a13, zR K 512 f13), (a14, zO 2 6 g14), (a15, zI K 10 f15), (a16, zI K 608 f16), (a17, zI K 608 f17), (a18, zI K 608 f18), (a19, zI K 608 f19), (a20, zI K 608 f20)] sz) (fun u : Nat → Nat => [])) (va_A [(a0, zO 9 9 g0), (a1, zO 4 6 g1), (a2, zO 7 6 g2), (a3, zI K 645 f3), (a4, zI K 645 f4), (a5, zI K 645 f5), (a6, zI K 645 f6), (a7, zI K 1935 f7), (a8, zO 1 18 g8), (a9, zO 3 7 g9), (a10, zI K 8 f10), (a11, zO 4 6 g11), (a12, zI K 8 f12), (a13, zR K 512 f13), (a14, zO 2 6 g14), (a15, zI K 10 f15), (a16, zI K 608 f16), (a17, zI K 608 f17), (a18, zI K 608 f18), (a19, zI K 608 f19), (a20, zI K 608 f20)] sz)) 4 4203 (va_A [(a0, zO 9 9 g0), (a1, zO 4 6 g1), (a2, zO 7 6 g2), (a3, zI K 645 f3), (a4, zI K 645 f4), (a5, zI K 645 f5), (a6, zI K 645 f6), (a7, zI K 1935 f7), (a8, zO 1 18 g8), (a9, zO 3 7 g9), (a10, zI K 8 f10), (a11, zO 4 6 g11), (a12, zI K 8 f12), (a13, zR K 512 f13), (a14, zO 2 6 g14), (a15, zI K 10 f15), (a16, zI K 608 f16), (a17, zI K 608 f17), (a18, zI K 608 f18), (a19, zI K 608 f19), (a20, zI K 608 f20)] sz) := by
  refine z_met (Qc := fun A => (va_Qi (fun (r : Int32) (_ : Nat → Nat) => r = 7) (zB K A (fun u : Nat → Nat => [])) A)) (by decide +kernel) (Nat.le_of_ble_eq_true rfl) ?_
  intro p e s m args below meth c A ls H hx hb hr hg hown hlocks hml hin hK hP hD hA hS hZ hl
  have hown : s.vm.findClass RX11 = some m.cls := hown
  have hl : lv_has ls 9 [(0, .ref a0), (1, .int (nI j0)), (2, .int 1), (3, .int x1), (4, .int x2), (5, .int 2), (6, .int 0)] := hl
  refine lv_aload_n hx hb dX11_run_0 rfl (lv_at hl 0 rfl) ?_
  refine lv_iload hx hb dX11_run_1 (lv_at hl 5 rfl) ?_
  refine lv_sipush (v := 601) hx hb dX11_run_3 (by decide) ?_
  refine z_callv [(a0, zO 9 9 g0)] [(a1, zO 4 6 g1), (a2, zO 7 6 g2), (a3, zI K 645 f3), (a4, zI K 645 f4), (a5, zI K 645 f5), (a6, zI K 645 f6), (a7, zI K 1935 f7), (a8, zO 1 18 g8), (a9, zO 3 7 g9), (a10, zI K 8 f10), (a11, zO 4 6 g11), (a12, zI K 8 f12), (a13, zR K 512 f13), (a14, zO 2 6 g14), (a15, zI K 10 f15), (a16, zI K 608 f16), (a17, zI K 608 f17), (a18, zI K 608 f18), (a19, zI K 608 f19), (a20, zI K 608 f20)] [0] [1, 2, 3, 4, 5, 6, 7, 8, 9, 10, 11, 12, 13, 14, 15, 16, 17, 18, 19, 20] hP hD hS hA rfl rfl (by decide) (by decide) (by decide +kernel) 0 0 rfl rfl (fun hPc hDc hF => z_runV (As := [.int 2, .int 601]) (rest := []) ⟨hx, hb, hml, hown, hg⟩ (cX11_checkRange_22 l K H.size a0 g0) kV_RX11_72 hd_X11_checkRange rfl rfl ⟨(Nat.le_of_ble_eq_true rfl), (Nat.le_of_ble_eq_true rfl)⟩ hK hS hZ hPc hDc hF 0 rfl rfl rfl hl.1 rfl (Nat.le_of_ble_eq_true rfl) dX11_run_6 ⟨(Nat.le_of_ble_eq_true rfl), (Nat.le_of_ble_eq_true rfl)⟩) (fun u1 H locs w2 hP hD hS => ?_)
  have hP : va_P K.1 classes [(a1, zO 4 6 g1), (a2, zO 7 6 g2), (a3, zI K 645 f3), (a4, zI K 645 f4), (a5, zI K 645 f5), (a6, zI K 645 f6), (a7, zI K 1935 f7), (a8, zO 1 18 g8), (a9, zO 3 7 g9), (a10, zI K 8 f10), (a11, zO 4 6 g11), (a12, zI K 8 f12), (a13, zR K 512 f13), (a14, zO 2 6 g14), (a15, zI K 10 f15), (a16, zI K 608 f16), (a17, zI K 608 f17), (a18, zI K 608 f18), (a19, zI K 608 f19), (a20, zI K 608 f20), (a0, zO 9 9 g0)] H := hP
  have hD : va_D A [(a1, zO 4 6 g1), (a2, zO 7 6 g2), (a3, zI K 645 f3), (a4, zI K 645 f4), (a5, zI K 645 f5), (a6, zI K 645 f6), (a7, zI K 1935 f7), (a8, zO 1 18 g8), (a9, zO 3 7 g9), (a10, zI K 8 f10), (a11, zO 4 6 g11), (a12, zI K 8 f12), (a13, zR K 512 f13), (a14, zO 2 6 g14), (a15, zI K 10 f15), (a16, zI K 608 f16), (a17, zI K 608 f17), (a18, zI K 608 f18), (a19, zI K 608 f19), (a20, zI K 608 f20), (a0, zO 9 9 g0)] := hD
  refine lv_aload_n hx hb dX11_run_9 rfl (lv_at hl 0 rfl) ?_
  refine lv_iload_n hx hb dX11_run_10 rfl (lv_at hl 1 rfl) ?_
  refine lv_iload_n hx hb dX11_run_11 rfl (lv_at hl 2 rfl) ?_
  refine lv_iload hx hb dX11_run_12 (lv_at hl 6 rfl) ?_
  refine z_callr [(a0, zO 9 9 g0)] [(a1, zO 4 6 g1), (a2, zO 7 6 g2), (a3, zI K 645 f3), (a4, zI K 645 f4), (a5, zI K 645 f5), (a6, zI K 645 f6), (a7, zI K 1935 f7), (a8, zO 1 18 g8), (a9, zO 3 7 g9), (a10, zI K 8 f10), (a11, zO 4 6 g11), (a12, zI K 8 f12), (a13, zR K 512 f13), (a14, zO 2 6 g14), (a15, zI K 10 f15), (a16, zI K 608 f16), (a17, zI K 608 f17), (a18, zI K 608 f18), (a19, zI K 608 f19), (a20, zI K 608 f20)] [20] [0, 1, 2, 3, 4, 5, 6, 7, 8, 9, 10, 11, 12, 13, 14, 15, 16, 17, 18, 19] hP hD hS hA rfl rfl (by decide) (by decide) (by decide +kernel) 0 0 rfl rfl (fun hPc hDc hF => z_runV (As := [.int (nI j0), .int 1, .int 0]) (rest := []) ⟨hx, hb, hml, hown, hg⟩ (cX11_programToRun_6 l K H.size a0 a1 g0 j0 hj0 e0) kV_RX11_130 hd_X11_programToRun rfl rfl ⟨(Nat.le_of_ble_eq_true rfl), (Nat.le_of_ble_eq_true rfl)⟩ hK hS hZ hPc hDc hF 0 rfl rfl rfl hl.1 rfl (Nat.le_of_ble_eq_true rfl) dX11_run_14 ⟨(Nat.le_of_ble_eq_true rfl), (Nat.le_of_ble_eq_true rfl)⟩) (fun u4 H locs w5 hP hD hS => ?_)
  have hP : va_P K.1 classes [(a1, zO 4 6 g1), (a2, zO 7 6 g2), (a3, zI K 645 f3), (a4, zI K 645 f4), (a5, zI K 645 f5), (a6, zI K 645 f6), (a7, zI K 1935 f7), (a8, zO 1 18 g8), (a9, zO 3 7 g9), (a10, zI K 8 f10), (a11, zO 4 6 g11), (a12, zI K 8 f12), (a13, zR K 512 f13), (a14, zO 2 6 g14), (a15, zI K 10 f15), (a16, zI K 608 f16), (a17, zI K 608 f17), (a18, zI K 608 f18), (a19, zI K 608 f19), (a20, zI K 608 f20), (a0, zO 9 9 g0)] H := hP
  have hD : va_D A [(a1, zO 4 6 g1), (a2, zO 7 6 g2), (a3, zI K 645 f3), (a4, zI K 645 f4), (a5, zI K 645 f5), (a6, zI K 645 f6), (a7, zI K 1935 f7), (a8, zO 1 18 g8), (a9, zO 3 7 g9), (a10, zI K 8 f10), (a11, zO 4 6 g11), (a12, zI K 8 f12), (a13, zR K 512 f13), (a14, zO 2 6 g14), (a15, zI K 10 f15), (a16, zI K 608 f16), (a17, zI K 608 f17), (a18, zI K 608 f18), (a19, zI K 608 f19), (a20, zI K 608 f20), (a0, zO 9 9 g0)] := hD
  refine W.eq (g2 := F0 m 17 ls [.ref a1]) rfl ?_
  refine lv_astore (lv' := [(7, .ref a1), (0, .ref a0), (1, .int (nI j0)), (2, .int 1), (3, .int x1), (4, .int x2), (5, .int 2), (6, .int 0)]) hx hb dX11_run_17 hl (by decide) rfl (fun ls hl => ?_)
  refine lv_aload hx hb dX11_run_19 (lv_at hl 0 rfl) ?_
  refine lv_iload_n hx hb dX11_run_21 rfl (lv_at hl 2 rfl) ?_
  refine lv_iload_n hx hb dX11_run_22 rfl (lv_at hl 3 rfl) ?_
  refine lv_iload_n hx hb dX11_run_23 rfl (lv_at hl 4 rfl) ?_
  refine lv_iload hx hb dX11_run_24 (lv_at hl 5 rfl) ?_
  refine z_calli [(a1, zO 4 6 g1), (a2, zO 7 6 g2), (a3, zI K 645 f3), (a4, zI K 645 f4), (a5, zI K 645 f5), (a6, zI K 645 f6), (a7, zI K 1935 f7)] [(a8, zO 1 18 g8), (a9, zO 3 7 g9), (a10, zI K 8 f10), (a11, zO 4 6 g11), (a12, zI K 8 f12), (a13, zR K 512 f13), (a14, zO 2 6 g14), (a15, zI K 10 f15), (a16, zI K 608 f16), (a17, zI K 608 f17), (a18, zI K 608 f18), (a19, zI K 608 f19), (a20, zI K 608 f20), (a0, zO 9 9 g0)] [0, 1, 2, 3, 4, 5, 6] [7, 8, 9, 10, 11, 12, 13, 14, 15, 16, 17, 18, 19, 20] hP hD hS hA rfl rfl (by decide) (by decide) (by decide +kernel) 0 0 rfl rfl (fun hPc hDc hF => z_runV (As := [.int (nI j0), .int 1, .int x1, .int x2]) (rest := []) ⟨hx, hb, hml, hown, hg⟩ (cX5_call_4 l K H.size a1 a2 a3 a4 a5 a6 a7 g1 g2 f3 f4 f5 f6 f7 j0 hj0 x1 x2 e1 e2 e3 e4 e5 e6 e7) kV_RX11_134 hd_X5_call rfl rfl ⟨(Nat.le_of_ble_eq_true rfl), (Nat.le_of_ble_eq_true rfl)⟩ hK hS hZ hPc hDc hF 0 rfl rfl rfl hl.1 rfl (Nat.le_of_ble_eq_true rfl) dX11_run_26 ⟨(Nat.le_of_ble_eq_true rfl), (Nat.le_of_ble_eq_true rfl)⟩) (fun r9 u7 H locs w8 hP hD hS => ?_)
  subst w8
  have hP : va_P K.1 classes [(a8, zO 1 18 g8), (a9, zO 3 7 g9), (a10, zI K 8 f10), (a11, zO 4 6 g11), (a12, zI K 8 f12), (a13, zR K 512 f13), (a14, zO 2 6 g14), (a15, zI K 10 f15), (a16, zI K 608 f16), (a17, zI K 608 f17), (a18, zI K 608 f18), (a19, zI K 608 f19), (a20, zI K 608 f20), (a0, zO 9 9 g0), (a1, zO 4 6 g1), (a2, zO 7 6 g2), (a3, zI K 645 (va_up (va_up (va_up (va_up (va_up f3 640 2) 641 0) 642 4) 643 0) 644 4)), (a4, zI K 645 (va_up (va_up (va_up (va_up (va_up f4 640 (nI j0)) 641 x1) 642 0) 643 x2) 644 0)), (a5, zI K 645 (va_up (va_up (va_up (va_up (va_up f5 640 0) 641 0) 642 0) 643 0) 644 0)), (a6, zI K 645 (va_up (va_up (va_up (va_up (va_up f6 640 0) 641 0) 642 0) 643 0) 644 0)), (a7, zI K 1935 (va_up (va_up (va_up (va_up (va_up (va_up (va_up (va_up (va_up (va_up (va_up (va_up (va_up (va_up (va_up (va_up (va_up (va_up (va_up (va_up (va_up f7 1920 (-1)) 1921 (-1)) 1922 (-1)) 1923 (-1)) 1924 (-1)) 1925 (-1)) 1926 (-1)) 1927 (-1)) 1928 (-1)) 1926 640) 1927 641) 1928 (-1)) 1929 (-1)) 1930 (-1)) 1931 (-1)) 1932 (-1)) 1933 (-1)) 1934 (-1)) 1932 642) 1933 643) 1934 (-1)))] H := hP
  have hD : va_D A [(a8, zO 1 18 g8), (a9, zO 3 7 g9), (a10, zI K 8 f10), (a11, zO 4 6 g11), (a12, zI K 8 f12), (a13, zR K 512 f13), (a14, zO 2 6 g14), (a15, zI K 10 f15), (a16, zI K 608 f16), (a17, zI K 608 f17), (a18, zI K 608 f18), (a19, zI K 608 f19), (a20, zI K 608 f20), (a0, zO 9 9 g0), (a1, zO 4 6 g1), (a2, zO 7 6 g2), (a3, zI K 645 (va_up (va_up (va_up (va_up (va_up f3 640 2) 641 0) 642 4) 643 0) 644 4)), (a4, zI K 645 (va_up (va_up (va_up (va_up (va_up f4 640 (nI j0)) 641 x1) 642 0) 643 x2) 644 0)), (a5, zI K 645 (va_up (va_up (va_up (va_up (va_up f5 640 0) 641 0) 642 0) 643 0) 644 0)), (a6, zI K 645 (va_up (va_up (va_up (va_up (va_up f6 640 0) 641 0) 642 0) 643 0) 644 0)), (a7, zI K 1935 (va_up (va_up (va_up (va_up (va_up (va_up (va_up (va_up (va_up (va_up (va_up (va_up (va_up (va_up (va_up (va_up (va_up (va_up (va_up (va_up (va_up f7 1920 (-1)) 1921 (-1)) 1922 (-1)) 1923 (-1)) 1924 (-1)) 1925 (-1)) 1926 (-1)) 1927 (-1)) 1928 (-1)) 1926 640) 1927 641) 1928 (-1)) 1929 (-1)) 1930 (-1)) 1931 (-1)) 1932 (-1)) 1933 (-1)) 1934 (-1)) 1932 642) 1933 643) 1934 (-1)))] := hD
  obtain ⟨ff10, y11⟩ : ∃ z, z = ((va_up (va_up (va_up (va_up (va_up f3 640 2) 641 0) 642 4) 643 0) 644 4) : Nat → Int32) := ⟨_, rfl⟩
  rw [← y11] at hP hD
  obtain ⟨ff12, y13⟩ : ∃ z, z = ((va_up (va_up (va_up (va_up (va_up f4 640 (nI j0)) 641 x1) 642 0) 643 x2) 644 0) : Nat → Int32) := ⟨_, rfl⟩
  rw [← y13] at hP hD
  obtain ⟨ff14, y15⟩ : ∃ z, z = ((va_up (va_up (va_up (va_up (va_up f5 640 0) 641 0) 642 0) 643 0) 644 0) : Nat → Int32) := ⟨_, rfl⟩
  rw [← y15] at hP hD
  obtain ⟨ff16, y17⟩ : ∃ z, z = ((va_up (va_up (va_up (va_up (va_up f6 640 0) 641 0) 642 0) 643 0) 644 0) : Nat → Int32) := ⟨_, rfl⟩
  rw [← y17] at hP hD
  obtain ⟨ff18, y19⟩ : ∃ z, z = ((va_up (va_up (va_up (va_up (va_up (va_up (va_up (va_up (va_up (va_up (va_up (va_up (va_up (va_up (va_up (va_up (va_up (va_up (va_up (va_up (va_up f7 1920 (-1)) 1921 (-1)) 1922 (-1)) 1923 (-1)) 1924 (-1)) 1925 (-1)) 1926 (-1)) 1927 (-1)) 1928 (-1)) 1926 640) 1927 641) 1928 (-1)) 1929 (-1)) 1930 (-1)) 1931 (-1)) 1932 (-1)) 1933 (-1)) 1934 (-1)) 1932 642) 1933 643) 1934 (-1)) : Nat → Int32) := ⟨_, rfl⟩
  rw [← y19] at hP hD
  refine lv_istore (lv' := [(8, .int 642), (7, .ref a1), (0, .ref a0), (1, .int (nI j0)), (2, .int 1), (3, .int x1), (4, .int x2), (5, .int 2), (6, .int 0)]) hx hb dX11_run_29 hl (by decide) rfl (fun ls hl => ?_)
  refine lv_aload_n hx hb dX11_run_31 rfl (lv_at hl 2 rfl) ?_
  refine z_get (v := .ref a8) hx hb hg hown hK hP i_X11 rfl 13 rfl 7 (by decide) mt311 e8 dX11_run_32 ?_
  refine lv_aload hx hb dX11_run_35 (lv_at hl 1 rfl) ?_
  refine lv_iload hx hb dX11_run_37 (lv_at hl 0 rfl) ?_
  refine lv_iconst (v := 1) hx hb dX11_run_39 (by decide) ?_
  refine lv_iload hx hb dX11_run_40 (lv_at hl 7 rfl) ?_
  refine z_calli [(a8, zO 1 18 g8), (a9, zO 3 7 g9), (a1, zO 4 6 g1), (a10, zI K 8 f10), (a11, zO 4 6 g11), (a12, zI K 8 f12), (a13, zR K 512 f13), (a14, zO 2 6 g14), (a15, zI K 10 f15), (a2, zO 7 6 g2), (a3, zI K 645 ff10), (a16, zI K 608 f16), (a17, zI K 608 f17), (a18, zI K 608 f18), (a19, zI K 608 f19), (a20, zI K 608 f20), (a7, zI K 1935 ff18)] [(a0, zO 9 9 g0), (a4, zI K 645 ff12), (a5, zI K 645 ff14), (a6, zI K 645 ff16)] [0, 1, 14, 2, 3, 4, 5, 6, 7, 15, 16, 8, 9, 10, 11, 12, 20] [13, 17, 18, 19] hP hD hS hA rfl rfl (by decide) (by decide) (by decide +kernel) 4 4203 rfl rfl (fun hPc hDc hF => z_runV (As := [.ref a1, .int 642, .int 1, .int 2]) (rest := []) ⟨hx, hb, hml, hown, hg⟩ (cX1_find_7 l K H.size a8 a1 a9 a10 a11 a12 a13 a14 a15 a2 a3 a16 a17 a18 a19 a20 a7 g8 g9 g1 f10 g11 f12 f13 g14 f15 g2 ff10 f16 f17 f18 f19 f20 ff18 e9 e10 e11 e12 e13 e14 e15 e16 e17 e18 e19 e20 e21 e22 e23 e24 e25 e26 e27 e28 e29 e30 e31 e32 e33 e34 e35 e1 e2 e3 (zu_of y11 (zu_ne (by decide) (zu_ne (by decide) zu_eq))) e36 e37 e38 e39 e40 e7 (zu_of y19 (zu_ne (by decide) (zu_ne (by decide) (zu_ne (by decide) (zu_ne (by decide) (zu_ne (by decide) (zu_ne (by decide) (zu_ne (by decide) (zu_ne (by decide) (zu_ne (by decide) (zu_ne (by decide) (zu_ne (by decide) zu_eq))))))))))))) kV_RX11_138 hd_X1_find rfl rfl ⟨(Nat.le_of_ble_eq_true rfl), (Nat.le_of_ble_eq_true rfl)⟩ hK hS hZ hPc hDc hF 0 rfl rfl rfl hl.1 rfl (Nat.le_of_ble_eq_true rfl) dX11_run_42 ⟨(Nat.le_of_ble_eq_true rfl), (Nat.le_of_ble_eq_true rfl)⟩) (fun r22 u20 H locs w21 hP hD hS => ?_)
  subst w21
  have hP : va_P K.1 classes [(a0, zO 9 9 g0), (a4, zI K 645 ff12), (a5, zI K 645 ff14), (a6, zI K 645 ff16), (a8, zO 1 18 (va_up (va_up (va_up (va_up (va_up (va_up (va_up (va_up (va_up (va_up (va_up (va_up (va_up (va_up (va_up (va_up (va_up (va_up (va_up (va_up g8 6 (.ref a1)) 7 (.int 1)) 9 (.int 2)) 4 (.int 0)) 5 (.int 0)) 8 (.int 0)) 10 (.int 0)) 13 (.int (-1))) 14 (.int 0)) 16 (.int 6)) 17 (.int 0)) 12 (.int 642)) 11 (.int 0)) 10 (.int 1)) 12 (.int 640)) 11 (.int 0)) 16 (.int 7)) 11 (.int 4)) 11 (.int 5)) 11 (.int 6))), (a9, zO 3 7 (va_up (va_up (va_up (va_up (va_up g9 5 (.int 0)) 5 (.int 0)) 3 (.int 1)) 4 (.int 0)) 6 (.int 0))), (a1, zO 4 6 g1), (a10, zI K 8 f10), (a11, zO 4 6 g11), (a12, zI K 8 f12), (a13, zR K 512 (va_up f13 0 (some (u20 0)))), (a14, zO 2 6 (va_up (va_up (va_up g14 5 (.int 0)) 5 (.int 1)) 5 (.int 0))), (a15, zI K 10 (va_up (va_up (va_up (va_up (va_up (va_up (va_up (va_up (va_up (va_up (va_up (va_up f15 0 0) 1 0) 2 0) 3 0) 4 0) 5 0) 6 0) 7 0) 8 0) 9 0) 0 1) 6 1)), (a2, zO 7 6 g2), (a3, zI K 645 ff10), (a16, zI K 608 (va_up f16 0 4)), (a17, zI K 608 (va_up f17 0 642)), (a18, zI K 608 (va_up f18 0 (-1))), (a19, zI K 608 (va_up f19 0 0)), (a20, zI K 608 (va_up f20 0 0)), (a7, zI K 1935 ff18), ((u20 0), zO 6 3 (va_up (va_up (va_up (fun k => defaultValue (tyX7 k)) 0 (.ref (u20 1))) 1 (.ref (u20 2))) 2 (.ref (u20 3)))), ((u20 1), zJ K 1400 (fun _ => 0)), ((u20 2), zJ K 1400 (fun _ => 0)), ((u20 3), zJ K 1400 (fun _ => 0))] H := hP
  have hD : va_D A [(a0, zO 9 9 g0), (a4, zI K 645 ff12), (a5, zI K 645 ff14), (a6, zI K 645 ff16), (a8, zO 1 18 (va_up (va_up (va_up (va_up (va_up (va_up (va_up (va_up (va_up (va_up (va_up (va_up (va_up (va_up (va_up (va_up (va_up (va_up (va_up (va_up g8 6 (.ref a1)) 7 (.int 1)) 9 (.int 2)) 4 (.int 0)) 5 (.int 0)) 8 (.int 0)) 10 (.int 0)) 13 (.int (-1))) 14 (.int 0)) 16 (.int 6)) 17 (.int 0)) 12 (.int 642)) 11 (.int 0)) 10 (.int 1)) 12 (.int 640)) 11 (.int 0)) 16 (.int 7)) 11 (.int 4)) 11 (.int 5)) 11 (.int 6))), (a9, zO 3 7 (va_up (va_up (va_up (va_up (va_up g9 5 (.int 0)) 5 (.int 0)) 3 (.int 1)) 4 (.int 0)) 6 (.int 0))), (a1, zO 4 6 g1), (a10, zI K 8 f10), (a11, zO 4 6 g11), (a12, zI K 8 f12), (a13, zR K 512 (va_up f13 0 (some (u20 0)))), (a14, zO 2 6 (va_up (va_up (va_up g14 5 (.int 0)) 5 (.int 1)) 5 (.int 0))), (a15, zI K 10 (va_up (va_up (va_up (va_up (va_up (va_up (va_up (va_up (va_up (va_up (va_up (va_up f15 0 0) 1 0) 2 0) 3 0) 4 0) 5 0) 6 0) 7 0) 8 0) 9 0) 0 1) 6 1)), (a2, zO 7 6 g2), (a3, zI K 645 ff10), (a16, zI K 608 (va_up f16 0 4)), (a17, zI K 608 (va_up f17 0 642)), (a18, zI K 608 (va_up f18 0 (-1))), (a19, zI K 608 (va_up f19 0 0)), (a20, zI K 608 (va_up f20 0 0)), (a7, zI K 1935 ff18), ((u20 0), zO 6 3 (va_up (va_up (va_up (fun k => defaultValue (tyX7 k)) 0 (.ref (u20 1))) 1 (.ref (u20 2))) 2 (.ref (u20 3)))), ((u20 1), zJ K 1400 (fun _ => 0)), ((u20 2), zJ K 1400 (fun _ => 0)), ((u20 3), zJ K 1400 (fun _ => 0))] := hD
  obtain ⟨gg23, y24⟩ : ∃ z, z = ((va_up (va_up (va_up (va_up (va_up (va_up (va_up (va_up (va_up (va_up (va_up (va_up (va_up (va_up (va_up (va_up (va_up (va_up (va_up (va_up g8 6 (.ref a1)) 7 (.int 1)) 9 (.int 2)) 4 (.int 0)) 5 (.int 0)) 8 (.int 0)) 10 (.int 0)) 13 (.int (-1))) 14 (.int 0)) 16 (.int 6)) 17 (.int 0)) 12 (.int 642)) 11 (.int 0)) 10 (.int 1)) 12 (.int 640)) 11 (.int 0)) 16 (.int 7)) 11 (.int 4)) 11 (.int 5)) 11 (.int 6)) : Nat → Value) := ⟨_, rfl⟩
  rw [← y24] at hP hD
  obtain ⟨gg25, y26⟩ : ∃ z, z = ((va_up (va_up (va_up (va_up (va_up g9 5 (.int 0)) 5 (.int 0)) 3 (.int 1)) 4 (.int 0)) 6 (.int 0)) : Nat → Value) := ⟨_, rfl⟩
  rw [← y26] at hP hD
  obtain ⟨gg27, y28⟩ : ∃ z, z = ((va_up (va_up (va_up g14 5 (.int 0)) 5 (.int 1)) 5 (.int 0)) : Nat → Value) := ⟨_, rfl⟩
  rw [← y28] at hP hD
  obtain ⟨ff29, y30⟩ : ∃ z, z = ((va_up (va_up (va_up (va_up (va_up (va_up (va_up (va_up (va_up (va_up (va_up (va_up f15 0 0) 1 0) 2 0) 3 0) 4 0) 5 0) 6 0) 7 0) 8 0) 9 0) 0 1) 6 1) : Nat → Int32) := ⟨_, rfl⟩
  rw [← y30] at hP hD
  obtain ⟨gg31, y32⟩ : ∃ z, z = ((va_up (va_up (va_up (fun k => defaultValue (tyX7 k)) 0 (.ref (u20 1))) 1 (.ref (u20 2))) 2 (.ref (u20 3))) : Nat → Value) := ⟨_, rfl⟩
  rw [← y32] at hP hD
  subst y32
  subst y30
  subst y28
  subst y26
  subst y24
  subst y19
  subst y17
  subst y15
  subst y13
  subst y11
  have hP9 : va_P K.1 classes [] H := hP.sub [] rfl
  have hD9 : va_D A [] := hD.sub [] (by decide) rfl
  exact z_iret hx hb hr (fun _ => 0) rfl hP9 hD9 hS (Nat.le_of_ble_eq_true rfl) (Nat.le_of_ble_eq_true rfl) hlocks dX11_run_45
set_option maxHeartbeats 4000000 in
set_option maxRecDepth 100000 in
theorem cL_run_12 (l : Launch) (hl9 : l.stackTraces = false) (K : zK) (sz : Nat) (a0 : Nat) (a1 : Nat) (a2 : Nat) (a3 : Nat) (a4 : Nat) (a5 : Nat) (a6 : Nat) (a7 : Nat) (a8 : Nat) (a9 : Nat) (a10 : Nat) (a11 : Nat) (a12 : Nat) (a13 : Nat) (a14 : Nat) (a15 : Nat) (a16 : Nat) (a17 : Nat) (a18 : Nat) (a19 : Nat) (a20 : Nat) (a21 : Nat) (g0 : Nat → Value) (g2 : Nat → Value) (g3 : Nat → Value) (f4 : Nat → Int32) (f5 : Nat → Int32) (f6 : Nat → Int32) (f7 : Nat → Int32) (f8 : Nat → Int32) (g9 : Nat → Value) (g10 : Nat → Value) (f11 : Nat → Int32) (g12 : Nat → Value) (f13 : Nat → Int32) (f14 : Nat → Option Nat) (g15 : Nat → Value) (f16 : Nat → Int32) (f17 : Nat → Int32) (f18 : Nat → Int32) (f19 : Nat → Int32) (f20 : Nat → Int32) (f21 : Nat → Int32) (f1 : Nat → Int64) (j0 : Nat) (hj0 : j0 < 8) (x1 : Int32) (x2 : Int32) (e0 : g0 3 = (.ref a2)) (e1 : g2 0 = (.ref a3)) (e2 : g3 5 = (.int 645)) (e3 : g3 0 = (.ref a4)) (e4 : g3 1 = (.ref a5)) (e5 : g3 2 = (.ref a6)) (e6 : g3 3 = (.ref a7)) (e7 : g3 4 = (.ref a8)) (e8 : g0 7 = (.ref a9)) (e9 : g9 0 = (.ref a10)) (e10 : g10 6 = (.int 0)) (e11 : g10 4 = (.int 0)) (e12 : g10 0 = (.ref a2)) (e13 : g2 2 = (.ref a11)) (e14 : f11 0 = 0) (e15 : f11 1 = 0) (e16 : f11 2 = 0) (e17 : f11 3 = 0) (e18 : f11 4 = 0) (e19 : f11 5 = 0) (e20 : f11 6 = 0) (e21 : f11 7 = 0) (e22 : g10 1 = (.ref a12)) (e23 : g12 2 = (.ref a13)) (e24 : f13 0 = 0) (e25 : f13 1 = 0) (e26 : f13 2 = 0) (e27 : f13 3 = 0) (e28 : f13 4 = 0) (e29 : f13 5 = 0) (e30 : f13 6 = 0) (e31 : f13 7 = 0) (e32 : g10 3 = (.int 0)) (e33 : g10 2 = (.ref a14)) (e34 : g9 1 = (.ref a15)) (e35 : g9 2 = (.ref a16)) (e36 : g15 0 = (.ref a17)) (e37 : g15 1 = (.ref a18)) (e38 : g15 2 = (.ref a19)) (e39 : g15 3 = (.ref a20)) (e40 : g15 4 = (.ref a21)) : vx_Met l yL_run (Cond.codeWith yL_run cL_run 9 (some .int) [(0, 18, 21, 18), (0, 18, 25, 13)] :: WG) { frames := 6, cells := 4, slots := 4203, locals := 125 } (zPre K [(a0, zO 9 9 g0), (a2, zO 4 6 g2), (a3, zO 7 6 g3), (a4, zI K 645 f4), (a5, zI K 645 f5), (a6, zI K 645 f6), (a7, zI K 645 f7), (a8, zI K 1935 f8), (a9, zO 1 18 g9), (a10, zO 3 7 g10), (a11, zI K 8 f11), (a12, zO 4 6 g12), (a13, zI K 8 f13), (a14, zR K 512 f14), (a15, zO 2 6 g15), (a16, zI K 10 f16), (a17, zI K 608 f17), (a18, zI K 608 f18), (a19, zI K 608 f19), (a20, zI K 608 f20), (a21, zI K 608 f21), (a1, zJ K 1 f1)] sz [.ref a0, .int (nI j0), .int 1, .int x1, .int x2, .int 2, .int 0, .ref a1]) (va_Qi (fun (r : Int32) (_ : Nat → Nat) => r = 0) (zB K (va_A [(a0, zO 9 9 g0), (a2, zO 4 6 g2), (a3, zO 7 6 g3), (a4, zI K 645 f4), (a5, zI K 645 f5), (a6, zI K 645 f6), (a7, zI K 645 f7), (a8, zI K 1935 f8), (a9, zO 1 18 g9), (a10, zO 3 7 g10), (a11, zI K 8 f11), (a12, zO 4 6 g12), (a13, zI K 8 f13), (a14, zR K 512 f14), (a15, zO 2 6 g15), (a16, zI K 10 f16), (a17, zI K 608 f17), (a18, zI K 608 f18), (a19, zI K 608 f19), (a20, zI K 608 f20), (a21, zI K 608 f21), (a1, zJ K 1 f1)] sz) (fun u : Nat → Nat => [(a1, zJ K 1 (va_up f1 0 7))])) (va_A [(a0, zO 9 9 g0), (a2, zO 4 6 g2), (a3, zO 7 6 g3), (a4, zI K 645 f4), (a5, zI K 645 f5), (a6, zI K 645 f6), (a7, zI K 645 f7), (a8, zI K 1935 f8), (a9, zO 1 18 g9), (a10, zO 3 7 g10), (a11, zI K 8 f11), (a12, zO 4 6 g12), (a13, zI K 8 f13), (a14, zR K 512 f14), (a15, zO 2 6 g15), (a16, zI K 10 f16), (a17, zI K 608 f17), (a18, zI K 608 f18), (a19, zI K 608 f19), (a20, zI K 608 f20), (a21, zI K 608 f21), (a1, zJ K 1 f1)] sz)) (vx_X (fun _ : Unit => False) (fun _ _ _ => True) (va_A [(a0, zO 9 9 g0), (a2, zO 4 6 g2), (a3, zO 7 6 g3), (a4, zI K 645 f4), (a5, zI K 645 f5), (a6, zI K 645 f6), (a7, zI K 645 f7), (a8, zI K 1935 f8), (a9, zO 1 18 g9), (a10, zO 3 7 g10), (a11, zI K 8 f11), (a12, zO 4 6 g12), (a13, zI K 8 f13), (a14, zR K 512 f14), (a15, zO 2 6 g15), (a16, zI K 10 f16), (a17, zI K 608 f17), (a18, zI K 608 f18), (a19, zI K 608 f19), (a20, zI K 608 f20), (a21, zI K 608 f21), (a1, zJ K 1 f1)] sz)) 4 4203 (va_A [(a0, zO 9 9 g0), (a2, zO 4 6 g2), (a3, zO 7 6 g3), (a4, zI K 645 f4), (a5, zI K 645 f5), (a6, zI K 645 f6), (a7, zI K 645 f7), (a8, zI K 1935 f8), (a9, zO 1 18 g9), (a10, zO 3 7 g10), (a11, zI K 8 f11), (a12, zO 4 6 g12), (a13, zI K 8 f13), (a14, zR K 512 f14), (a15, zO 2 6 g15), (a16, zI K 10 f16), (a17, zI K 608 f17), (a18, zI K 608 f18), (a19, zI K 608 f19), (a20, zI K 608 f20), (a21, zI K 608 f21), (a1, zJ K 1 f1)] sz) := by
  refine z_hmet (Qc := fun A => (va_Qi (fun (r : Int32) (_ : Nat → Nat) => r = 0) (zB K A (fun u : Nat → Nat => [(a1, zJ K 1 (va_up f1 0 7))])) A)) (XC := fun A => vx_X (fun _ : Unit => False) (fun _ _ _ => True) A) (by decide +kernel) (Nat.le_of_ble_eq_true rfl) ?_
  intro p e s m args below meth c A ls H hx hb hr hg hown hlocks hml hTab hK hP hD hA hS hZ hl
  have hown : s.vm.findClass RL = some m.cls := hown
  have hl : lv_has ls 9 [(0, .ref a0), (1, .int (nI j0)), (2, .int 1), (3, .int x1), (4, .int x2), (5, .int 2), (6, .int 0), (7, .ref a1)] := hl
  refine lv_aload hx hb dL_run_0 (lv_at hl 7 rfl) ?_
  refine lv_iconst (v := 0) hx hb dL_run_2 (by decide) ?_
  refine lv_aload_n hx hb dL_run_3 rfl (lv_at hl 0 rfl) ?_
  refine lv_iload_n hx hb dL_run_4 rfl (lv_at hl 1 rfl) ?_
  refine lv_iload_n hx hb dL_run_5 rfl (lv_at hl 2 rfl) ?_
  refine lv_iload_n hx hb dL_run_6 rfl (lv_at hl 3 rfl) ?_
  refine lv_iload hx hb dL_run_7 (lv_at hl 4 rfl) ?_
  refine lv_iload hx hb dL_run_9 (lv_at hl 5 rfl) ?_
  refine lv_iload hx hb dL_run_11 (lv_at hl 6 rfl) ?_
  refine z_calli [(a0, zO 9 9 g0), (a2, zO 4 6 g2), (a3, zO 7 6 g3), (a4, zI K 645 f4), (a5, zI K 645 f5), (a6, zI K 645 f6), (a7, zI K 645 f7), (a8, zI K 1935 f8), (a9, zO 1 18 g9), (a10, zO 3 7 g10), (a11, zI K 8 f11), (a12, zO 4 6 g12), (a13, zI K 8 f13), (a14, zR K 512 f14), (a15, zO 2 6 g15), (a16, zI K 10 f16), (a17, zI K 608 f17), (a18, zI K 608 f18), (a19, zI K 608 f19), (a20, zI K 608 f20), (a21, zI K 608 f21)] [(a1, zJ K 1 f1)] [0, 1, 2, 3, 4, 5, 6, 7, 8, 9, 10, 11, 12, 13, 14, 15, 16, 17, 18, 19, 20] [21] hP hD hS hA rfl rfl (by decide) (by decide) (by decide +kernel) 4 4203 rfl rfl (fun hPc hDc hF => z_runV (As := [.int (nI j0), .int 1, .int x1, .int x2, .int 2, .int 0]) (rest := [.int 0, .ref a1]) ⟨hx, hb, hml, hown, hg⟩ (cX11_run_12 l K H.size a0 a2 a3 a4 a5 a6 a7 a8 a9 a10 a11 a12 a13 a14 a15 a16 a17 a18 a19 a20 a21 g0 g2 g3 f4 f5 f6 f7 f8 g9 g10 f11 g12 f13 f14 g15 f16 f17 f18 f19 f20 f21 j0 hj0 x1 x2 e0 e1 e2 e3 e4 e5 e6 e7 e8 e9 e10 e11 e12 e13 e14 e15 e16 e17 e18 e19 e20 e21 e22 e23 e24 e25 e26 e27 e28 e29 e30 e31 e32 e33 e34 e35 e36 e37 e38 e39 e40) kV_RL_73 hd_X11_run rfl rfl ⟨(Nat.le_of_ble_eq_true rfl), (Nat.le_of_ble_eq_true rfl)⟩ hK hS hZ hPc hDc hF 0 rfl rfl rfl hl.1 rfl (Nat.le_of_ble_eq_true rfl) dL_run_13 ⟨(Nat.le_of_ble_eq_true rfl), (Nat.le_of_ble_eq_true rfl)⟩) (fun r3 u1 H locs w2 hP hD hS => ?_)
  subst w2
  have hP : va_P K.1 classes [(a1, zJ K 1 f1)] H := hP
  have hD : va_D A [(a1, zJ K 1 f1)] := hD
  refine lv_i2l hx hb dL_run_16 rfl ?_
  refine z_cstl (v := 7) (by decide +kernel) ?_
  refine z_last (j := 0) hx hb hK hP hD hS 0 rfl rfl (Nat.le_of_ble_eq_true rfl) (Nat.le_of_ble_eq_true rfl) dL_run_17 (fun ff4 H locs y5 hP hD hS => ?_)
  have hP : va_P K.1 classes [(a1, zJ K 1 ff4)] H := hP
  have hD : va_D A [(a1, zJ K 1 ff4)] := hD
  refine lv_goto (tgt := 29) hx hb dL_run_18 (by decide) ?_
  refine lv_iconst (v := 0) hx hb dL_run_29 (by decide) ?_
  subst y5
  have hP9 : va_P K.1 classes [(a1, zJ K 1 (va_up f1 0 7))] H := hP.sub [0] rfl
  have hD9 : va_D A [(a1, zJ K 1 (va_up f1 0 7))] := hD.sub [0] (by decide) rfl
  exact z_iret hx hb hr (fun _ => 0) rfl hP9 hD9 hS (Nat.le_of_ble_eq_true rfl) (Nat.le_of_ble_eq_true rfl) hlocks dL_run_30
set_option maxHeartbeats 4000000 in
set_option maxRecDepth 100000 in
theorem cX12_isIn_28 (l : Launch) (K : zK) (sz : Nat) : Met l yX12_isIn (Cond.code yX12_isIn cX12_isIn 3 (some .boolean) :: WG) { frames := 0, cells := 0, slots := 0, locals := 0 } (zPre K [] sz [.int 2, .int 0, .int 600]) (va_Qi (fun (r : Int32) (_ : Nat → Nat) => r = 1) (zB K (va_A [] sz) (fun u : Nat → Nat => [])) (va_A [] sz)) 0 0 (va_A [] sz) := by
  refine z_met (Qc := fun A => (va_Qi (fun (r : Int32) (_ : Nat → Nat) => r = 1) (zB K A (fun u : Nat → Nat => [])) A)) (by decide +kernel) (Nat.le_of_ble_eq_true rfl) ?_
  intro p e s m args below meth c A ls H hx hb hr hg hown hlocks hml hin hK hP hD hA hS hZ hl
  have hown : s.vm.findClass RX12 = some m.cls := hown
  have hl : lv_has ls 3 [(0, .int 2), (1, .int 0), (2, .int 600)] := hl
  refine lv_iload_n hx hb dX12_isIn_0 rfl (lv_at hl 0 rfl) ?_
  refine lv_iload_n hx hb dX12_isIn_1 rfl (lv_at hl 1 rfl) ?_
  refine lv_icmp_lt (tgt := 14) hx hb dX12_isIn_2 (by decide) (fun c => absurd c (by decide)) (fun _ => ?_)
  refine lv_iload_n hx hb dX12_isIn_5 rfl (lv_at hl 0 rfl) ?_
  refine lv_iload_n hx hb dX12_isIn_6 rfl (lv_at hl 2 rfl) ?_
  refine lv_icmp_gt (tgt := 14) hx hb dX12_isIn_7 (by decide) (fun c => absurd c (by decide)) (fun _ => ?_)
  refine lv_iconst (v := 1) hx hb dX12_isIn_10 (by decide) ?_
  refine lv_goto (tgt := 15) hx hb dX12_isIn_11 (by decide) ?_
  have hP9 : va_P K.1 classes [] H := hP.sub [] rfl
  have hD9 : va_D A [] := hD.sub [] (by decide) rfl
  exact z_zret hx hb hr rfl (fun _ => 0) rfl hP9 hD9 hS (Nat.le_of_ble_eq_true rfl) (Nat.le_of_ble_eq_true rfl) hlocks dX12_isIn_15
set_option maxHeartbeats 4000000 in
set_option maxRecDepth 100000 in
theorem cX12_waits_1 (l : Launch) (K : zK) (sz : Nat) (a0 : Nat) (a1 : Nat) (a2 : Nat) (a3 : Nat) (a4 : Nat) (g0 : Nat → Value) (f1 : Nat → Int32) (f2 : Nat → Int32) (f3 : Nat → Int32) (f4 : Nat → Int32) (e0 : g0 73 = (.ref a1)) (e1 : g0 72 = (.int 0)) (e2 : g0 74 = (.ref a2)) (e3 : g0 75 = (.ref a3)) (e4 : g0 63 = (.int (-1))) (e5 : g0 76 = (.ref a4)) (e6 : g0 64 = (.int 0)) : Met l yX12_waits (Cond.code yX12_waits cX12_waits 3 none :: WG) { frames := 0, cells := 0, slots := 0, locals := 0 } (zPre K [(a0, zO 10 83 g0), (a1, zI K 900 f1), (a2, zI K 900 f2), (a3, zI K 900 f3), (a4, zI K 900 f4)] sz [.ref a0, .int 4, .int 1280]) (va_Qv (fun _ : Nat → Nat => True) (zB K (va_A [(a0, zO 10 83 g0), (a1, zI K 900 f1), (a2, zI K 900 f2), (a3, zI K 900 f3), (a4, zI K 900 f4)] sz) (fun u : Nat → Nat => [(a0, zO 10 83 (va_up g0 72 (.int 1))), (a1, zI K 900 (va_up f1 0 4)), (a2, zI K 900 (va_up f2 0 1280)), (a3, zI K 900 (va_up f3 0 (-1))), (a4, zI K 900 (va_up f4 0 0))])) (va_A [(a0, zO 10 83 g0), (a1, zI K 900 f1), (a2, zI K 900 f2), (a3, zI K 900 f3), (a4, zI K 900 f4)] sz)) 0 0 (va_A [(a0, zO 10 83 g0), (a1, zI K 900 f1), (a2, zI K 900 f2), (a3, zI K 900 f3), (a4, zI K 900 f4)] sz) := by
  refine z_met (Qc := fun A => (va_Qv (fun _ : Nat → Nat => True) (zB K A (fun u : Nat → Nat => [(a0, zO 10 83 (va_up g0 72 (.int 1))), (a1, zI K 900 (va_up f1 0 4)), (a2, zI K 900 (va_up f2 0 1280)), (a3, zI K 900 (va_up f3 0 (-1))), (a4, zI K 900 (va_up f4 0 0))])) A)) (by decide +kernel) (Nat.le_of_ble_eq_true rfl) ?_
  intro p e s m args below meth c A ls H hx hb hr hg hown hlocks hml hin hK hP hD hA hS hZ hl
  have hown : s.vm.findClass RX12 = some m.cls := hown
  have hl : lv_has ls 3 [(0, .ref a0), (1, .int 4), (2, .int 1280)] := hl
  refine lv_aload_n hx hb dX12_waits_0 rfl (lv_at hl 0 rfl) ?_
  refine z_get (v := .ref a1) hx hb hg hown hK hP i_X12 rfl 0 rfl 73 (by decide) mt1353 e0 dX12_waits_1 ?_
  refine lv_aload_n hx hb dX12_waits_4 rfl (lv_at hl 0 rfl) ?_
  refine z_get (v := .int 0) hx hb hg hown hK hP i_X12 rfl 0 rfl 72 (by decide) mt1352 e1 dX12_waits_5 ?_
  refine lv_iload_n hx hb dX12_waits_8 rfl (lv_at hl 1 rfl) ?_
  refine z_iast (j := 0) hx hb hK hP hD hS 1 rfl rfl (Nat.le_of_ble_eq_true rfl) (Nat.le_of_ble_eq_true rfl) dX12_waits_9 (fun ff1 H locs y2 hP hD hS => ?_)
  have hP : va_P K.1 classes [(a0, zO 10 83 g0), (a1, zI K 900 ff1), (a2, zI K 900 f2), (a3, zI K 900 f3), (a4, zI K 900 f4)] H := hP
  have hD : va_D A [(a0, zO 10 83 g0), (a1, zI K 900 ff1), (a2, zI K 900 f2), (a3, zI K 900 f3), (a4, zI K 900 f4)] := hD
  refine lv_aload_n hx hb dX12_waits_10 rfl (lv_at hl 0 rfl) ?_
  refine z_get (v := .ref a2) hx hb hg hown hK hP i_X12 rfl 0 rfl 74 (by decide) mt1354 e2 dX12_waits_11 ?_
  refine lv_aload_n hx hb dX12_waits_14 rfl (lv_at hl 0 rfl) ?_
  refine z_get (v := .int 0) hx hb hg hown hK hP i_X12 rfl 0 rfl 72 (by decide) mt1352 e1 dX12_waits_15 ?_
  refine lv_iload_n hx hb dX12_waits_18 rfl (lv_at hl 2 rfl) ?_
  refine z_iast (j := 0) hx hb hK hP hD hS 2 rfl rfl (Nat.le_of_ble_eq_true rfl) (Nat.le_of_ble_eq_true rfl) dX12_waits_19 (fun ff3 H locs y4 hP hD hS => ?_)
  have hP : va_P K.1 classes [(a0, zO 10 83 g0), (a1, zI K 900 ff1), (a2, zI K 900 ff3), (a3, zI K 900 f3), (a4, zI K 900 f4)] H := hP
  have hD : va_D A [(a0, zO 10 83 g0), (a1, zI K 900 ff1), (a2, zI K 900 ff3), (a3, zI K 900 f3), (a4, zI K 900 f4)] := hD
  refine lv_aload_n hx hb dX12_waits_20 rfl (lv_at hl 0 rfl) ?_
  refine z_get (v := .ref a3) hx hb hg hown hK hP i_X12 rfl 0 rfl 75 (by decide) mt1355 e3 dX12_waits_21 ?_
  refine lv_aload_n hx hb dX12_waits_24 rfl (lv_at hl 0 rfl) ?_
  refine z_get (v := .int 0) hx hb hg hown hK hP i_X12 rfl 0 rfl 72 (by decide) mt1352 e1 dX12_waits_25 ?_
  refine lv_aload_n hx hb dX12_waits_28 rfl (lv_at hl 0 rfl) ?_
  refine z_get (v := .int (-1)) hx hb hg hown hK hP i_X12 rfl 0 rfl 63 (by decide) mt1343 e4 dX12_waits_29 ?_
  refine z_iast (j := 0) hx hb hK hP hD hS 3 rfl rfl (Nat.le_of_ble_eq_true rfl) (Nat.le_of_ble_eq_true rfl) dX12_waits_32 (fun ff5 H locs y6 hP hD hS => ?_)
  have hP : va_P K.1 classes [(a0, zO 10 83 g0), (a1, zI K 900 ff1), (a2, zI K 900 ff3), (a3, zI K 900 ff5), (a4, zI K 900 f4)] H := hP
  have hD : va_D A [(a0, zO 10 83 g0), (a1, zI K 900 ff1), (a2, zI K 900 ff3), (a3, zI K 900 ff5), (a4, zI K 900 f4)] := hD
  refine lv_aload_n hx hb dX12_waits_33 rfl (lv_at hl 0 rfl) ?_
  refine z_get (v := .ref a4) hx hb hg hown hK hP i_X12 rfl 0 rfl 76 (by decide) mt1356 e5 dX12_waits_34 ?_
  refine lv_aload_n hx hb dX12_waits_37 rfl (lv_at hl 0 rfl) ?_
  refine z_get (v := .int 0) hx hb hg hown hK hP i_X12 rfl 0 rfl 72 (by decide) mt1352 e1 dX12_waits_38 ?_
  refine lv_aload_n hx hb dX12_waits_41 rfl (lv_at hl 0 rfl) ?_
  refine z_get (v := .int 0) hx hb hg hown hK hP i_X12 rfl 0 rfl 64 (by decide) mt1344 e6 dX12_waits_42 ?_
  refine z_iast (j := 0) hx hb hK hP hD hS 4 rfl rfl (Nat.le_of_ble_eq_true rfl) (Nat.le_of_ble_eq_true rfl) dX12_waits_45 (fun ff7 H locs y8 hP hD hS => ?_)
  have hP : va_P K.1 classes [(a0, zO 10 83 g0), (a1, zI K 900 ff1), (a2, zI K 900 ff3), (a3, zI K 900 ff5), (a4, zI K 900 ff7)] H := hP
  have hD : va_D A [(a0, zO 10 83 g0), (a1, zI K 900 ff1), (a2, zI K 900 ff3), (a3, zI K 900 ff5), (a4, zI K 900 ff7)] := hD
  refine lv_aload_n hx hb dX12_waits_46 rfl (lv_at hl 0 rfl) ?_
  refine lv_dup hx hb dX12_waits_47 rfl ?_
  refine z_get (v := .int 0) hx hb hg hown hK hP i_X12 rfl 0 rfl 72 (by decide) mt1352 e1 dX12_waits_48 ?_
  refine lv_iconst (v := 1) hx hb dX12_waits_51 (by decide) ?_
  refine lv_iadd hx hb dX12_waits_52 ?_
  refine z_cst (v := 1) (by decide +kernel) ?_
  refine z_put hx hb hg hown hK hP hD hS i_X12 rfl tyX12_ok nmX12 0 rfl 72 (by decide) mt1352 rfl rfl rfl dX12_waits_53 (fun gg9 H locs y10 hP hD hS => ?_)
  have hP : va_P K.1 classes [(a0, zO 10 83 gg9), (a1, zI K 900 ff1), (a2, zI K 900 ff3), (a3, zI K 900 ff5), (a4, zI K 900 ff7)] H := hP
  have hD : va_D A [(a0, zO 10 83 gg9), (a1, zI K 900 ff1), (a2, zI K 900 ff3), (a3, zI K 900 ff5), (a4, zI K 900 ff7)] := hD
  subst y10
  subst y8
  subst y6
  subst y4
  subst y2
  have hP9 : va_P K.1 classes [(a0, zO 10 83 (va_up g0 72 (.int 1))), (a1, zI K 900 (va_up f1 0 4)), (a2, zI K 900 (va_up f2 0 1280)), (a3, zI K 900 (va_up f3 0 (-1))), (a4, zI K 900 (va_up f4 0 0))] H := hP.sub [0, 1, 2, 3, 4] rfl
  have hD9 : va_D A [(a0, zO 10 83 (va_up g0 72 (.int 1))), (a1, zI K 900 (va_up f1 0 4)), (a2, zI K 900 (va_up f2 0 1280)), (a3, zI K 900 (va_up f3 0 (-1))), (a4, zI K 900 (va_up f4 0 0))] := hD.sub [0, 1, 2, 3, 4] (by decide) rfl
  exact z_vret hx hb hr (fun _ => 0) trivial hP9 hD9 hS (Nat.le_of_ble_eq_true rfl) (Nat.le_of_ble_eq_true rfl) hlocks dX12_waits_56
set_option maxHeartbeats 4000000 in
set_option maxRecDepth 100000 in
theorem cX12_goesOn_2 (l : Launch) (K : zK) (sz : Nat) (a0 : Nat) (g0 : Nat → Value) : Met l yX12_goesOn (Cond.code yX12_goesOn cX12_goesOn 4 none :: WG) { frames := 0, cells := 0, slots := 0, locals := 0 } (zPre K [(a0, zO 10 83 g0)] sz [.ref a0, .int 1281, .int (-1), .int 0]) (va_Qv (fun _ : Nat → Nat => True) (zB K (va_A [(a0, zO 10 83 g0)] sz) (fun u : Nat → Nat => [(a0, zO 10 83 (va_up (va_up (va_up (va_up g0 62 (.int 1281)) 63 (.int (-1))) 64 (.int 0)) 65 (.int 0)))])) (va_A [(a0, zO 10 83 g0)] sz)) 0 0 (va_A [(a0, zO 10 83 g0)] sz) := by
  refine z_met (Qc := fun A => (va_Qv (fun _ : Nat → Nat => True) (zB K A (fun u : Nat → Nat => [(a0, zO 10 83 (va_up (va_up (va_up (va_up g0 62 (.int 1281)) 63 (.int (-1))) 64 (.int 0)) 65 (.int 0)))])) A)) (by decide +kernel) (Nat.le_of_ble_eq_true rfl) ?_
  intro p e s m args below meth c A ls H hx hb hr hg hown hlocks hml hin hK hP hD hA hS hZ hl
  have hown : s.vm.findClass RX12 = some m.cls := hown
  have hl : lv_has ls 4 [(0, .ref a0), (1, .int 1281), (2, .int (-1)), (3, .int 0)] := hl
  refine lv_aload_n hx hb dX12_goesOn_0 rfl (lv_at hl 0 rfl) ?_
  refine lv_iload_n hx hb dX12_goesOn_1 rfl (lv_at hl 1 rfl) ?_
  refine z_put hx hb hg hown hK hP hD hS i_X12 rfl tyX12_ok nmX12 0 rfl 62 (by decide) mt1342 rfl rfl rfl dX12_goesOn_2 (fun gg1 H locs y2 hP hD hS => ?_)
  have hP : va_P K.1 classes [(a0, zO 10 83 gg1)] H := hP
  have hD : va_D A [(a0, zO 10 83 gg1)] := hD
  refine lv_aload_n hx hb dX12_goesOn_5 rfl (lv_at hl 0 rfl) ?_
  refine lv_iload_n hx hb dX12_goesOn_6 rfl (lv_at hl 2 rfl) ?_
  refine z_put hx hb hg hown hK hP hD hS i_X12 rfl tyX12_ok nmX12 0 rfl 63 (by decide) mt1343 rfl rfl rfl dX12_goesOn_7 (fun gg3 H locs y4 hP hD hS => ?_)
  have hP : va_P K.1 classes [(a0, zO 10 83 gg3)] H := hP
  have hD : va_D A [(a0, zO 10 83 gg3)] := hD
  refine lv_aload_n hx hb dX12_goesOn_10 rfl (lv_at hl 0 rfl) ?_
  refine lv_iload_n hx hb dX12_goesOn_11 rfl (lv_at hl 3 rfl) ?_
  refine z_put hx hb hg hown hK hP hD hS i_X12 rfl tyX12_ok nmX12 0 rfl 64 (by decide) mt1344 rfl rfl rfl dX12_goesOn_12 (fun gg5 H locs y6 hP hD hS => ?_)
  have hP : va_P K.1 classes [(a0, zO 10 83 gg5)] H := hP
  have hD : va_D A [(a0, zO 10 83 gg5)] := hD
  refine lv_aload_n hx hb dX12_goesOn_15 rfl (lv_at hl 0 rfl) ?_
  refine lv_iconst (v := 0) hx hb dX12_goesOn_16 (by decide) ?_
  refine z_put hx hb hg hown hK hP hD hS i_X12 rfl tyX12_ok nmX12 0 rfl 65 (by decide) mt1345 rfl rfl rfl dX12_goesOn_17 (fun gg7 H locs y8 hP hD hS => ?_)
  have hP : va_P K.1 classes [(a0, zO 10 83 gg7)] H := hP
  have hD : va_D A [(a0, zO 10 83 gg7)] := hD
  subst y8
  subst y6
  subst y4
  subst y2
  have hP9 : va_P K.1 classes [(a0, zO 10 83 (va_up (va_up (va_up (va_up g0 62 (.int 1281)) 63 (.int (-1))) 64 (.int 0)) 65 (.int 0)))] H := hP.sub [0] rfl
  have hD9 : va_D A [(a0, zO 10 83 (va_up (va_up (va_up (va_up g0 62 (.int 1281)) 63 (.int (-1))) 64 (.int 0)) 65 (.int 0)))] := hD.sub [0] (by decide) rfl
  exact z_vret hx hb hr (fun _ => 0) trivial hP9 hD9 hS (Nat.le_of_ble_eq_true rfl) (Nat.le_of_ble_eq_true rfl) hlocks dX12_goesOn_20
set_option maxHeartbeats 4000000 in
set_option maxRecDepth 100000 in
theorem cX12_steps_3 (l : Launch) (K : zK) (sz : Nat) (a0 : Nat) (a1 : Nat) (a2 : Nat) (a3 : Nat) (a4 : Nat) (a5 : Nat) (a6 : Nat) (g0 : Nat → Value) (f1 : Nat → Int32) (f2 : Nat → Int32) (f3 : Nat → Int32) (f4 : Nat → Int32) (f5 : Nat → Int32) (f6 : Nat → Int32) (e0 : g0 58 = (.int 0)) (e1 : g0 59 = (.int 600)) (e2 : g0 57 = (.int 0)) (e3 : g0 60 = (.int 2)) (e4 : g0 80 = (.ref a1)) (e5 : g0 64 = (.int 0)) (e6 : f1 6 = 0) (e7 : g0 8 = (.ref a2)) (e8 : g0 62 = (.int 1280)) (e9 : f2 1280 = 4) (e10 : g0 73 = (.ref a3)) (e11 : g0 72 = (.int 0)) (e12 : g0 74 = (.ref a4)) (e13 : g0 75 = (.ref a5)) (e14 : g0 63 = (.int (-1))) (e15 : g0 76 = (.ref a6)) : Met l yX12_steps (Cond.code yX12_steps cX12_steps 1 none :: WG) { frames := 1, cells := 0, slots := 0, locals := 23 } (zPre K [(a0, zO 10 83 g0), (a1, zI K 10 f1), (a2, zI K 1290 f2), (a3, zI K 900 f3), (a4, zI K 900 f4), (a5, zI K 900 f5), (a6, zI K 900 f6)] sz [.ref a0]) (va_Qv (fun _ : Nat → Nat => True) (zB K (va_A [(a0, zO 10 83 g0), (a1, zI K 10 f1), (a2, zI K 1290 f2), (a3, zI K 900 f3), (a4, zI K 900 f4), (a5, zI K 900 f5), (a6, zI K 900 f6)] sz) (fun u : Nat → Nat => [(a0, zO 10 83 (va_up (va_up (va_up (va_up (va_up (va_up g0 58 (.int 1)) 72 (.int 1)) 62 (.int 1281)) 63 (.int (-1))) 64 (.int 0)) 65 (.int 0))), (a1, zI K 10 (va_up f1 6 1)), (a2, zI K 1290 f2), (a3, zI K 900 (va_up f3 0 4)), (a4, zI K 900 (va_up f4 0 1280)), (a5, zI K 900 (va_up f5 0 (-1))), (a6, zI K 900 (va_up f6 0 0))])) (va_A [(a0, zO 10 83 g0), (a1, zI K 10 f1), (a2, zI K 1290 f2), (a3, zI K 900 f3), (a4, zI K 900 f4), (a5, zI K 900 f5), (a6, zI K 900 f6)] sz)) 0 0 (va_A [(a0, zO 10 83 g0), (a1, zI K 10 f1), (a2, zI K 1290 f2), (a3, zI K 900 f3), (a4, zI K 900 f4), (a5, zI K 900 f5), (a6, zI K 900 f6)] sz) := by
  refine z_met (Qc := fun A => (va_Qv (fun _ : Nat → Nat => True) (zB K A (fun u : Nat → Nat => [(a0, zO 10 83 (va_up (va_up (va_up (va_up (va_up (va_up g0 58 (.int 1)) 72 (.int 1)) 62 (.int 1281)) 63 (.int (-1))) 64 (.int 0)) 65 (.int 0))), (a1, zI K 10 (va_up f1 6 1)), (a2, zI K 1290 f2), (a3, zI K 900 (va_up f3 0 4)), (a4, zI K 900 (va_up f4 0 1280)), (a5, zI K 900 (va_up f5 0 (-1))), (a6, zI K 900 (va_up f6 0 0))])) A)) (by decide +kernel) (Nat.le_of_ble_eq_true rfl) ?_
  intro p e s m args below meth c A ls H hx hb hr hg hown hlocks hml hin hK hP hD hA hS hZ hl
  have hown : s.vm.findClass RX12 = some m.cls := hown
  have hl : lv_has ls 1 [(0, .ref a0)] := hl
  refine lv_aload_n hx hb dX12_steps_0 rfl (lv_at hl 0 rfl) ?_
  refine z_get (v := .int 0) hx hb hg hown hK hP i_X12 rfl 0 rfl 58 (by decide) mt1338 e0 dX12_steps_1 ?_
  refine lv_aload_n hx hb dX12_steps_4 rfl (lv_at hl 0 rfl) ?_
  refine z_get (v := .int 600) hx hb hg hown hK hP i_X12 rfl 0 rfl 59 (by decide) mt1339 e1 dX12_steps_5 ?_
  refine lv_icmp_ne (tgt := 18) hx hb dX12_steps_8 (by decide) (fun _ => ?_) (fun c => absurd c (by decide))
  refine lv_aload_n hx hb dX12_steps_18 rfl (lv_at hl 0 rfl) ?_
  refine z_get (v := .int 0) hx hb hg hown hK hP i_X12 rfl 0 rfl 57 (by decide) mt1337 e2 dX12_steps_19 ?_
  refine lv_if_ne (tgt := 45) hx hb dX12_steps_22 (by decide) (fun c => absurd (by decide) c) (fun _ => ?_)
  refine lv_aload_n hx hb dX12_steps_25 rfl (lv_at hl 0 rfl) ?_
  refine z_get (v := .int 0) hx hb hg hown hK hP i_X12 rfl 0 rfl 58 (by decide) mt1338 e0 dX12_steps_26 ?_
  refine lv_iconst (v := 1) hx hb dX12_steps_29 (by decide) ?_
  refine lv_iadd hx hb dX12_steps_30 ?_
  refine z_cst (v := 1) (by decide +kernel) ?_
  refine lv_aload_n hx hb dX12_steps_31 rfl (lv_at hl 0 rfl) ?_
  refine z_get (v := .int 2) hx hb hg hown hK hP i_X12 rfl 0 rfl 60 (by decide) mt1340 e3 dX12_steps_32 ?_
  refine lv_icmp_ne (tgt := 45) hx hb dX12_steps_35 (by decide) (fun _ => ?_) (fun c => absurd c (by decide))
  refine lv_aload_n hx hb dX12_steps_45 rfl (lv_at hl 0 rfl) ?_
  refine lv_dup hx hb dX12_steps_46 rfl ?_
  refine z_get (v := .int 0) hx hb hg hown hK hP i_X12 rfl 0 rfl 58 (by decide) mt1338 e0 dX12_steps_47 ?_
  refine lv_iconst (v := 1) hx hb dX12_steps_50 (by decide) ?_
  refine lv_iadd hx hb dX12_steps_51 ?_
  refine z_cst (v := 1) (by decide +kernel) ?_
  refine z_put hx hb hg hown hK hP hD hS i_X12 rfl tyX12_ok nmX12 0 rfl 58 (by decide) mt1338 rfl rfl rfl dX12_steps_52 (fun gg1 H locs y2 hP hD hS => ?_)
  have hP : va_P K.1 classes [(a0, zO 10 83 gg1), (a1, zI K 10 f1), (a2, zI K 1290 f2), (a3, zI K 900 f3), (a4, zI K 900 f4), (a5, zI K 900 f5), (a6, zI K 900 f6)] H := hP
  have hD : va_D A [(a0, zO 10 83 gg1), (a1, zI K 10 f1), (a2, zI K 1290 f2), (a3, zI K 900 f3), (a4, zI K 900 f4), (a5, zI K 900 f5), (a6, zI K 900 f6)] := hD
  refine lv_aload_n hx hb dX12_steps_55 rfl (lv_at hl 0 rfl) ?_
  refine z_get (v := .ref a1) hx hb hg hown hK hP i_X12 rfl 0 rfl 80 (by decide) mt1360 (zu_of y2 (zu_ne (by decide) e4)) dX12_steps_56 ?_
  refine lv_bipush (v := 6) hx hb dX12_steps_59 (by decide) ?_
  refine lv_aload_n hx hb dX12_steps_61 rfl (lv_at hl 0 rfl) ?_
  refine z_get (v := .int 0) hx hb hg hown hK hP i_X12 rfl 0 rfl 64 (by decide) mt1344 (zu_of y2 (zu_ne (by decide) e5)) dX12_steps_62 ?_
  refine lv_iadd hx hb dX12_steps_65 ?_
  refine z_cst (v := 6) (by decide +kernel) ?_
  refine lv_dup2_11 hx hb dX12_steps_66 rfl rfl ?_
  refine z_iald (v := 0) (j := 6) hx hb hK hP 1 rfl rfl (Nat.le_of_ble_eq_true rfl) (Nat.le_of_ble_eq_true rfl) e6 dX12_steps_67 ?_
  refine lv_aload_n hx hb dX12_steps_68 rfl (lv_at hl 0 rfl) ?_
  refine z_get (v := .int 0) hx hb hg hown hK hP i_X12 rfl 0 rfl 57 (by decide) mt1337 (zu_of y2 (zu_ne (by decide) e2)) dX12_steps_69 ?_
  refine lv_if_eq (tgt := 79) hx hb dX12_steps_72 (by decide) (fun _ => ?_) (fun c => absurd (by decide) c)
  refine lv_iconst (v := 1) hx hb dX12_steps_79 (by decide) ?_
  refine lv_iadd hx hb dX12_steps_80 ?_
  refine z_cst (v := 1) (by decide +kernel) ?_
  refine z_iast (j := 6) hx hb hK hP hD hS 1 rfl rfl (Nat.le_of_ble_eq_true rfl) (Nat.le_of_ble_eq_true rfl) dX12_steps_81 (fun ff3 H locs y4 hP hD hS => ?_)
  have hP : va_P K.1 classes [(a0, zO 10 83 gg1), (a1, zI K 10 ff3), (a2, zI K 1290 f2), (a3, zI K 900 f3), (a4, zI K 900 f4), (a5, zI K 900 f5), (a6, zI K 900 f6)] H := hP
  have hD : va_D A [(a0, zO 10 83 gg1), (a1, zI K 10 ff3), (a2, zI K 1290 f2), (a3, zI K 900 f3), (a4, zI K 900 f4), (a5, zI K 900 f5), (a6, zI K 900 f6)] := hD
  refine lv_aload_n hx hb dX12_steps_82 rfl (lv_at hl 0 rfl) ?_
  refine z_get (v := .ref a2) hx hb hg hown hK hP i_X12 rfl 0 rfl 8 (by decide) mt1288 (zu_of y2 (zu_ne (by decide) e7)) dX12_steps_83 ?_
  refine lv_aload_n hx hb dX12_steps_86 rfl (lv_at hl 0 rfl) ?_
  refine z_get (v := .int 1280) hx hb hg hown hK hP i_X12 rfl 0 rfl 62 (by decide) mt1342 (zu_of y2 (zu_ne (by decide) e8)) dX12_steps_87 ?_
  refine z_iald (v := 4) (j := 1280) hx hb hK hP 2 rfl rfl (Nat.le_of_ble_eq_true rfl) (Nat.le_of_ble_eq_true rfl) e9 dX12_steps_90 ?_
  refine lv_tableIn (off := 235) (tgt := 326) hx hb dX12_steps_91 (by decide) (by decide) (by decide) (by decide) ?_
  refine lv_aload_n hx hb dX12_steps_326 rfl (lv_at hl 0 rfl) ?_
  refine lv_aload_n hx hb dX12_steps_327 rfl (lv_at hl 0 rfl) ?_
  refine z_get (v := .ref a2) hx hb hg hown hK hP i_X12 rfl 0 rfl 8 (by decide) mt1288 (zu_of y2 (zu_ne (by decide) e7)) dX12_steps_328 ?_
  refine lv_aload_n hx hb dX12_steps_331 rfl (lv_at hl 0 rfl) ?_
  refine z_get (v := .int 1280) hx hb hg hown hK hP i_X12 rfl 0 rfl 62 (by decide) mt1342 (zu_of y2 (zu_ne (by decide) e8)) dX12_steps_332 ?_
  refine z_iald (v := 4) (j := 1280) hx hb hK hP 2 rfl rfl (Nat.le_of_ble_eq_true rfl) (Nat.le_of_ble_eq_true rfl) e9 dX12_steps_335 ?_
  refine lv_aload_n hx hb dX12_steps_336 rfl (lv_at hl 0 rfl) ?_
  refine z_get (v := .int 1280) hx hb hg hown hK hP i_X12 rfl 0 rfl 62 (by decide) mt1342 (zu_of y2 (zu_ne (by decide) e8)) dX12_steps_337 ?_
  refine z_callv [(a0, zO 10 83 gg1), (a3, zI K 900 f3), (a4, zI K 900 f4), (a5, zI K 900 f5), (a6, zI K 900 f6)] [(a1, zI K 10 ff3), (a2, zI K 1290 f2)] [0, 3, 4, 5, 6] [1, 2] hP hD hS hA rfl rfl (by decide) (by decide) (by decide +kernel) 0 0 rfl rfl (fun hPc hDc hF => z_runV (As := [.int 4, .int 1280]) (rest := []) ⟨hx, hb, hml, hown, hg⟩ (cX12_waits_1 l K H.size a0 a3 a4 a5 a6 gg1 f3 f4 f5 f6 (zu_of y2 (zu_ne (by decide) e10)) (zu_of y2 (zu_ne (by decide) e11)) (zu_of y2 (zu_ne (by decide) e12)) (zu_of y2 (zu_ne (by decide) e13)) (zu_of y2 (zu_ne (by decide) e14)) (zu_of y2 (zu_ne (by decide) e15)) (zu_of y2 (zu_ne (by decide) e5))) kV_RX12_437 hd_X12_waits rfl rfl ⟨(Nat.le_of_ble_eq_true rfl), (Nat.le_of_ble_eq_true rfl)⟩ hK hS hZ hPc hDc hF 0 rfl rfl rfl hl.1 rfl (Nat.le_of_ble_eq_true rfl) dX12_steps_340 ⟨(Nat.le_of_ble_eq_true rfl), (Nat.le_of_ble_eq_true rfl)⟩) (fun u5 H locs w6 hP hD hS => ?_)
  have hP : va_P K.1 classes [(a1, zI K 10 ff3), (a2, zI K 1290 f2), (a0, zO 10 83 (va_up gg1 72 (.int 1))), (a3, zI K 900 (va_up f3 0 4)), (a4, zI K 900 (va_up f4 0 1280)), (a5, zI K 900 (va_up f5 0 (-1))), (a6, zI K 900 (va_up f6 0 0))] H := hP
  have hD : va_D A [(a1, zI K 10 ff3), (a2, zI K 1290 f2), (a0, zO 10 83 (va_up gg1 72 (.int 1))), (a3, zI K 900 (va_up f3 0 4)), (a4, zI K 900 (va_up f4 0 1280)), (a5, zI K 900 (va_up f5 0 (-1))), (a6, zI K 900 (va_up f6 0 0))] := hD
  refine lv_aload_n hx hb dX12_steps_343 rfl (lv_at hl 0 rfl) ?_
  refine lv_aload_n hx hb dX12_steps_344 rfl (lv_at hl 0 rfl) ?_
  refine z_get (v := .int 1280) hx hb hg hown hK hP i_X12 rfl 2 rfl 62 (by decide) mt1342 (zu_ne (by decide) (zu_of y2 (zu_ne (by decide) e8))) dX12_steps_345 ?_
  refine lv_iconst (v := 1) hx hb dX12_steps_348 (by decide) ?_
  refine lv_iadd hx hb dX12_steps_349 ?_
  refine z_cst (v := 1281) (by decide +kernel) ?_
  refine lv_aload_n hx hb dX12_steps_350 rfl (lv_at hl 0 rfl) ?_
  refine z_get (v := .int (-1)) hx hb hg hown hK hP i_X12 rfl 2 rfl 63 (by decide) mt1343 (zu_ne (by decide) (zu_of y2 (zu_ne (by decide) e14))) dX12_steps_351 ?_
  refine lv_aload_n hx hb dX12_steps_354 rfl (lv_at hl 0 rfl) ?_
  refine z_get (v := .int 0) hx hb hg hown hK hP i_X12 rfl 2 rfl 64 (by decide) mt1344 (zu_ne (by decide) (zu_of y2 (zu_ne (by decide) e5))) dX12_steps_355 ?_
  refine z_callv [(a0, zO 10 83 (va_up gg1 72 (.int 1)))] [(a1, zI K 10 ff3), (a2, zI K 1290 f2), (a3, zI K 900 (va_up f3 0 4)), (a4, zI K 900 (va_up f4 0 1280)), (a5, zI K 900 (va_up f5 0 (-1))), (a6, zI K 900 (va_up f6 0 0))] [2] [0, 1, 3, 4, 5, 6] hP hD hS hA rfl rfl (by decide) (by decide) (by decide +kernel) 0 0 rfl rfl (fun hPc hDc hF => z_runV (As := [.int 1281, .int (-1), .int 0]) (rest := []) ⟨hx, hb, hml, hown, hg⟩ (cX12_goesOn_2 l K H.size a0 (va_up gg1 72 (.int 1))) kV_RX12_404 hd_X12_goesOn rfl rfl ⟨(Nat.le_of_ble_eq_true rfl), (Nat.le_of_ble_eq_true rfl)⟩ hK hS hZ hPc hDc hF 0 rfl rfl rfl hl.1 rfl (Nat.le_of_ble_eq_true rfl) dX12_steps_358 ⟨(Nat.le_of_ble_eq_true rfl), (Nat.le_of_ble_eq_true rfl)⟩) (fun u8 H locs w9 hP hD hS => ?_)
  have hP : va_P K.1 classes [(a1, zI K 10 ff3), (a2, zI K 1290 f2), (a3, zI K 900 (va_up f3 0 4)), (a4, zI K 900 (va_up f4 0 1280)), (a5, zI K 900 (va_up f5 0 (-1))), (a6, zI K 900 (va_up f6 0 0)), (a0, zO 10 83 (va_up (va_up (va_up (va_up (va_up gg1 72 (.int 1)) 62 (.int 1281)) 63 (.int (-1))) 64 (.int 0)) 65 (.int 0)))] H := hP
  have hD : va_D A [(a1, zI K 10 ff3), (a2, zI K 1290 f2), (a3, zI K 900 (va_up f3 0 4)), (a4, zI K 900 (va_up f4 0 1280)), (a5, zI K 900 (va_up f5 0 (-1))), (a6, zI K 900 (va_up f6 0 0)), (a0, zO 10 83 (va_up (va_up (va_up (va_up (va_up gg1 72 (.int 1)) 62 (.int 1281)) 63 (.int (-1))) 64 (.int 0)) 65 (.int 0)))] := hD
  obtain ⟨gg11, y12⟩ : ∃ z, z = ((va_up (va_up (va_up (va_up (va_up gg1 72 (.int 1)) 62 (.int 1281)) 63 (.int (-1))) 64 (.int 0)) 65 (.int 0)) : Nat → Value) := ⟨_, rfl⟩
  rw [← y12] at hP hD
  subst y12
  subst y4
  subst y2
  have hP9 : va_P K.1 classes [(a0, zO 10 83 (va_up (va_up (va_up (va_up (va_up (va_up g0 58 (.int 1)) 72 (.int 1)) 62 (.int 1281)) 63 (.int (-1))) 64 (.int 0)) 65 (.int 0))), (a1, zI K 10 (va_up f1 6 1)), (a2, zI K 1290 f2), (a3, zI K 900 (va_up f3 0 4)), (a4, zI K 900 (va_up f4 0 1280)), (a5, zI K 900 (va_up f5 0 (-1))), (a6, zI K 900 (va_up f6 0 0))] H := hP.sub [6, 0, 1, 2, 3, 4, 5] rfl
  have hD9 : va_D A [(a0, zO 10 83 (va_up (va_up (va_up (va_up (va_up (va_up g0 58 (.int 1)) 72 (.int 1)) 62 (.int 1281)) 63 (.int (-1))) 64 (.int 0)) 65 (.int 0))), (a1, zI K 10 (va_up f1 6 1)), (a2, zI K 1290 f2), (a3, zI K 900 (va_up f3 0 4)), (a4, zI K 900 (va_up f4 0 1280)), (a5, zI K 900 (va_up f5 0 (-1))), (a6, zI K 900 (va_up f6 0 0))] := hD.sub [6, 0, 1, 2, 3, 4, 5] (by decide) rfl
  exact z_vret hx hb hr (fun _ => 0) trivial hP9 hD9 hS (Nat.le_of_ble_eq_true rfl) (Nat.le_of_ble_eq_true rfl) hlocks dX12_steps_361
set_option maxHeartbeats 4000000 in
set_option maxRecDepth 100000 in
theorem cX12_stops_3 (l : Launch) (K : zK) (sz : Nat) (a0 : Nat) (a1 : Nat) (g0 : Nat → Value) (f1 : Nat → Int32) (e0 : g0 72 = (.int 1)) (e1 : g0 73 = (.ref a1)) (e2 : f1 0 = 4) : Met l yX12_stops (Cond.code yX12_stops cX12_stops 2 none :: WG) { frames := 0, cells := 0, slots := 0, locals := 0 } (zPre K [(a0, zO 10 83 g0), (a1, zI K 900 f1)] sz [.ref a0, .int 7]) (va_Qv (fun _ : Nat → Nat => True) (zB K (va_A [(a0, zO 10 83 g0), (a1, zI K 900 f1)] sz) (fun u : Nat → Nat => [(a0, zO 10 83 (va_up (va_up g0 61 (.int 7)) 72 (.int 0))), (a1, zI K 900 f1)])) (va_A [(a0, zO 10 83 g0), (a1, zI K 900 f1)] sz)) 0 0 (va_A [(a0, zO 10 83 g0), (a1, zI K 900 f1)] sz) := by
  refine z_met (Qc := fun A => (va_Qv (fun _ : Nat → Nat => True) (zB K A (fun u : Nat → Nat => [(a0, zO 10 83 (va_up (va_up g0 61 (.int 7)) 72 (.int 0))), (a1, zI K 900 f1)])) A)) (by decide +kernel) (Nat.le_of_ble_eq_true rfl) ?_
  intro p e s m args below meth c A ls H hx hb hr hg hown hlocks hml hin hK hP hD hA hS hZ hl
  have hown : s.vm.findClass RX12 = some m.cls := hown
  have hl : lv_has ls 2 [(0, .ref a0), (1, .int 7)] := hl
  refine lv_aload_n hx hb dX12_stops_0 rfl (lv_at hl 0 rfl) ?_
  refine lv_iload_n hx hb dX12_stops_1 rfl (lv_at hl 1 rfl) ?_
  refine z_put hx hb hg hown hK hP hD hS i_X12 rfl tyX12_ok nmX12 0 rfl 61 (by decide) mt1341 rfl rfl rfl dX12_stops_2 (fun gg1 H locs y2 hP hD hS => ?_)
  have hP : va_P K.1 classes [(a0, zO 10 83 gg1), (a1, zI K 900 f1)] H := hP
  have hD : va_D A [(a0, zO 10 83 gg1), (a1, zI K 900 f1)] := hD
  refine lv_aload_n hx hb dX12_stops_5 rfl (lv_at hl 0 rfl) ?_
  refine z_get (v := .int 1) hx hb hg hown hK hP i_X12 rfl 0 rfl 72 (by decide) mt1352 (zu_of y2 (zu_ne (by decide) e0)) dX12_stops_6 ?_
  refine lv_if_le (tgt := 54) hx hb dX12_stops_9 (by decide) (fun c => absurd c (by decide)) (fun _ => ?_)
  refine lv_aload_n hx hb dX12_stops_12 rfl (lv_at hl 0 rfl) ?_
  refine lv_dup hx hb dX12_stops_13 rfl ?_
  refine z_get (v := .int 1) hx hb hg hown hK hP i_X12 rfl 0 rfl 72 (by decide) mt1352 (zu_of y2 (zu_ne (by decide) e0)) dX12_stops_14 ?_
  refine lv_iconst (v := 1) hx hb dX12_stops_17 (by decide) ?_
  refine lv_isub hx hb dX12_stops_18 ?_
  refine z_cst (v := 0) (by decide +kernel) ?_
  refine z_put hx hb hg hown hK hP hD hS i_X12 rfl tyX12_ok nmX12 0 rfl 72 (by decide) mt1352 rfl rfl rfl dX12_stops_19 (fun gg3 H locs y4 hP hD hS => ?_)
  have hP : va_P K.1 classes [(a0, zO 10 83 gg3), (a1, zI K 900 f1)] H := hP
  have hD : va_D A [(a0, zO 10 83 gg3), (a1, zI K 900 f1)] := hD
  refine lv_aload_n hx hb dX12_stops_22 rfl (lv_at hl 0 rfl) ?_
  refine z_get (v := .ref a1) hx hb hg hown hK hP i_X12 rfl 0 rfl 73 (by decide) mt1353 (zu_of y4 (zu_ne (by decide) (zu_of y2 (zu_ne (by decide) e1)))) dX12_stops_23 ?_
  refine lv_aload_n hx hb dX12_stops_26 rfl (lv_at hl 0 rfl) ?_
  refine z_get (v := .int 0) hx hb hg hown hK hP i_X12 rfl 0 rfl 72 (by decide) mt1352 (zu_of y4 zu_eq) dX12_stops_27 ?_
  refine z_iald (v := 4) (j := 0) hx hb hK hP 1 rfl rfl (Nat.le_of_ble_eq_true rfl) (Nat.le_of_ble_eq_true rfl) e2 dX12_stops_30 ?_
  refine lv_bipush (v := 16) hx hb dX12_stops_31 (by decide) ?_
  refine lv_icmp_ne (tgt := 5) hx hb dX12_stops_33 (by decide) (fun _ => ?_) (fun c => absurd c (by decide))
  refine lv_aload_n hx hb dX12_stops_5 rfl (lv_at hl 0 rfl) ?_
  refine z_get (v := .int 0) hx hb hg hown hK hP i_X12 rfl 0 rfl 72 (by decide) mt1352 (zu_of y4 zu_eq) dX12_stops_6 ?_
  refine lv_if_le (tgt := 54) hx hb dX12_stops_9 (by decide) (fun _ => ?_) (fun c => absurd (by decide) c)
  subst y4
  subst y2
  have hP9 : va_P K.1 classes [(a0, zO 10 83 (va_up (va_up g0 61 (.int 7)) 72 (.int 0))), (a1, zI K 900 f1)] H := hP.sub [0, 1] rfl
  have hD9 : va_D A [(a0, zO 10 83 (va_up (va_up g0 61 (.int 7)) 72 (.int 0))), (a1, zI K 900 f1)] := hD.sub [0, 1] (by decide) rfl
  exact z_vret hx hb hr (fun _ => 0) trivial hP9 hD9 hS (Nat.le_of_ble_eq_true rfl) (Nat.le_of_ble_eq_true rfl) hlocks dX12_stops_54
set_option maxHeartbeats 4000000 in
set_option maxRecDepth 100000 in
theorem cX12_steps_4 (l : Launch) (K : zK) (sz : Nat) (a0 : Nat) (a1 : Nat) (g0 : Nat → Value) (f1 : Nat → Int32) (e0 : g0 58 = (.int 1)) (e1 : g0 59 = (.int 600)) (e2 : g0 57 = (.int 0)) (e3 : g0 60 = (.int 2)) (e4 : g0 72 = (.int 1)) (e5 : g0 73 = (.ref a1)) (e6 : f1 0 = 4) : Met l yX12_steps (Cond.code yX12_steps cX12_steps 1 none :: WG) { frames := 1, cells := 0, slots := 0, locals := 21 } (zPre K [(a0, zO 10 83 g0), (a1, zI K 900 f1)] sz [.ref a0]) (va_Qv (fun _ : Nat → Nat => True) (zB K (va_A [(a0, zO 10 83 g0), (a1, zI K 900 f1)] sz) (fun u : Nat → Nat => [(a0, zO 10 83 (va_up (va_up g0 61 (.int 7)) 72 (.int 0))), (a1, zI K 900 f1)])) (va_A [(a0, zO 10 83 g0), (a1, zI K 900 f1)] sz)) 0 0 (va_A [(a0, zO 10 83 g0), (a1, zI K 900 f1)] sz) := by
  refine z_met (Qc := fun A => (va_Qv (fun _ : Nat → Nat => True) (zB K A (fun u : Nat → Nat => [(a0, zO 10 83 (va_up (va_up g0 61 (.int 7)) 72 (.int 0))), (a1, zI K 900 f1)])) A)) (by decide +kernel) (Nat.le_of_ble_eq_true rfl) ?_
  intro p e s m args below meth c A ls H hx hb hr hg hown hlocks hml hin hK hP hD hA hS hZ hl
  have hown : s.vm.findClass RX12 = some m.cls := hown
  have hl : lv_has ls 1 [(0, .ref a0)] := hl
  refine lv_aload_n hx hb dX12_steps_0 rfl (lv_at hl 0 rfl) ?_
  refine z_get (v := .int 1) hx hb hg hown hK hP i_X12 rfl 0 rfl 58 (by decide) mt1338 e0 dX12_steps_1 ?_
  refine lv_aload_n hx hb dX12_steps_4 rfl (lv_at hl 0 rfl) ?_
  refine z_get (v := .int 600) hx hb hg hown hK hP i_X12 rfl 0 rfl 59 (by decide) mt1339 e1 dX12_steps_5 ?_
  refine lv_icmp_ne (tgt := 18) hx hb dX12_steps_8 (by decide) (fun _ => ?_) (fun c => absurd c (by decide))
  refine lv_aload_n hx hb dX12_steps_18 rfl (lv_at hl 0 rfl) ?_
  refine z_get (v := .int 0) hx hb hg hown hK hP i_X12 rfl 0 rfl 57 (by decide) mt1337 e2 dX12_steps_19 ?_
  refine lv_if_ne (tgt := 45) hx hb dX12_steps_22 (by decide) (fun c => absurd (by decide) c) (fun _ => ?_)
  refine lv_aload_n hx hb dX12_steps_25 rfl (lv_at hl 0 rfl) ?_
  refine z_get (v := .int 1) hx hb hg hown hK hP i_X12 rfl 0 rfl 58 (by decide) mt1338 e0 dX12_steps_26 ?_
  refine lv_iconst (v := 1) hx hb dX12_steps_29 (by decide) ?_
  refine lv_iadd hx hb dX12_steps_30 ?_
  refine z_cst (v := 2) (by decide +kernel) ?_
  refine lv_aload_n hx hb dX12_steps_31 rfl (lv_at hl 0 rfl) ?_
  refine z_get (v := .int 2) hx hb hg hown hK hP i_X12 rfl 0 rfl 60 (by decide) mt1340 e3 dX12_steps_32 ?_
  refine lv_icmp_ne (tgt := 45) hx hb dX12_steps_35 (by decide) (fun c => absurd (by decide) c) (fun _ => ?_)
  refine lv_aload_n hx hb dX12_steps_38 rfl (lv_at hl 0 rfl) ?_
  refine lv_bipush (v := 7) hx hb dX12_steps_39 (by decide) ?_
  refine z_callv [(a0, zO 10 83 g0), (a1, zI K 900 f1)] [] [0, 1] [] hP hD hS hA rfl rfl (by decide) (by decide) (by decide +kernel) 0 0 rfl rfl (fun hPc hDc hF => z_runV (As := [.int 7]) (rest := []) ⟨hx, hb, hml, hown, hg⟩ (cX12_stops_3 l K H.size a0 a1 g0 f1 e4 e5 e6) kV_RX12_434 hd_X12_stops rfl rfl ⟨(Nat.le_of_ble_eq_true rfl), (Nat.le_of_ble_eq_true rfl)⟩ hK hS hZ hPc hDc hF 0 rfl rfl rfl hl.1 rfl (Nat.le_of_ble_eq_true rfl) dX12_steps_41 ⟨(Nat.le_of_ble_eq_true rfl), (Nat.le_of_ble_eq_true rfl)⟩) (fun u1 H locs w2 hP hD hS => ?_)
  have hP : va_P K.1 classes [(a0, zO 10 83 (va_up (va_up g0 61 (.int 7)) 72 (.int 0))), (a1, zI K 900 f1)] H := hP
  have hD : va_D A [(a0, zO 10 83 (va_up (va_up g0 61 (.int 7)) 72 (.int 0))), (a1, zI K 900 f1)] := hD
  obtain ⟨gg4, y5⟩ : ∃ z, z = ((va_up (va_up g0 61 (.int 7)) 72 (.int 0)) : Nat → Value) := ⟨_, rfl⟩
  rw [← y5] at hP hD
  subst y5
  have hP9 : va_P K.1 classes [(a0, zO 10 83 (va_up (va_up g0 61 (.int 7)) 72 (.int 0))), (a1, zI K 900 f1)] H := hP.sub [0, 1] rfl
  have hD9 : va_D A [(a0, zO 10 83 (va_up (va_up g0 61 (.int 7)) 72 (.int 0))), (a1, zI K 900 f1)] := hD.sub [0, 1] (by decide) rfl
  exact z_vret hx hb hr (fun _ => 0) trivial hP9 hD9 hS (Nat.le_of_ble_eq_true rfl) (Nat.le_of_ble_eq_true rfl) hlocks dX12_steps_44
set_option maxHeartbeats 4000000 in
set_option maxRecDepth 100000 in
theorem cX12_finds_3 (l : Launch) (K : zK) (sz : Nat) (a0 : Nat) (a1 : Nat) (a2 : Nat) (a3 : Nat) (a4 : Nat) (a5 : Nat) (a6 : Nat) (g0 : Nat → Value) (f1 : Nat → Int32) (f2 : Nat → Int32) (f3 : Nat → Int32) (f4 : Nat → Int32) (f5 : Nat → Int32) (f6 : Nat → Int32) (e0 : g0 72 = (.int 0)) (e1 : g0 65 = (.int 0)) (e2 : g0 58 = (.int 0)) (e3 : g0 59 = (.int 600)) (e4 : g0 57 = (.int 0)) (e5 : g0 60 = (.int 2)) (e6 : g0 80 = (.ref a1)) (e7 : g0 64 = (.int 0)) (e8 : f1 6 = 0) (e9 : g0 8 = (.ref a2)) (e10 : g0 62 = (.int 1280)) (e11 : f2 1280 = 4) (e12 : g0 73 = (.ref a3)) (e13 : g0 74 = (.ref a4)) (e14 : g0 75 = (.ref a5)) (e15 : g0 63 = (.int (-1))) (e16 : g0 76 = (.ref a6)) : Met l yX12_finds (Cond.code yX12_finds cX12_finds 1 none :: WG) { frames := 2, cells := 0, slots := 0, locals := 43 } (zPre K [(a0, zO 10 83 g0), (a1, zI K 10 f1), (a2, zI K 1290 f2), (a3, zI K 900 f3), (a4, zI K 900 f4), (a5, zI K 900 f5), (a6, zI K 900 f6)] sz [.ref a0]) (va_Qv (fun _ : Nat → Nat => True) (zB K (va_A [(a0, zO 10 83 g0), (a1, zI K 10 f1), (a2, zI K 1290 f2), (a3, zI K 900 f3), (a4, zI K 900 f4), (a5, zI K 900 f5), (a6, zI K 900 f6)] sz) (fun u : Nat → Nat => [(a0, zO 10 83 (va_up (va_up (va_up (va_up (va_up (va_up (va_up (va_up (va_up g0 61 (.int (-1))) 58 (.int 1)) 72 (.int 1)) 62 (.int 1281)) 63 (.int (-1))) 64 (.int 0)) 65 (.int 0)) 61 (.int 7)) 72 (.int 0))), (a1, zI K 10 (va_up f1 6 1)), (a2, zI K 1290 f2), (a3, zI K 900 (va_up f3 0 4)), (a4, zI K 900 (va_up f4 0 1280)), (a5, zI K 900 (va_up f5 0 (-1))), (a6, zI K 900 (va_up f6 0 0))])) (va_A [(a0, zO 10 83 g0), (a1, zI K 10 f1), (a2, zI K 1290 f2), (a3, zI K 900 f3), (a4, zI K 900 f4), (a5, zI K 900 f5), (a6, zI K 900 f6)] sz)) 0 0 (va_A [(a0, zO 10 83 g0), (a1, zI K 10 f1), (a2, zI K 1290 f2), (a3, zI K 900 f3), (a4, zI K 900 f4), (a5, zI K 900 f5), (a6, zI K 900 f6)] sz) := by
  refine z_met (Qc := fun A => (va_Qv (fun _ : Nat → Nat => True) (zB K A (fun u : Nat → Nat => [(a0, zO 10 83 (va_up (va_up (va_up (va_up (va_up (va_up (va_up (va_up (va_up g0 61 (.int (-1))) 58 (.int 1)) 72 (.int 1)) 62 (.int 1281)) 63 (.int (-1))) 64 (.int 0)) 65 (.int 0)) 61 (.int 7)) 72 (.int 0))), (a1, zI K 10 (va_up f1 6 1)), (a2, zI K 1290 f2), (a3, zI K 900 (va_up f3 0 4)), (a4, zI K 900 (va_up f4 0 1280)), (a5, zI K 900 (va_up f5 0 (-1))), (a6, zI K 900 (va_up f6 0 0))])) A)) (by decide +kernel) (Nat.le_of_ble_eq_true rfl) ?_
  intro p e s m args below meth c A ls H hx hb hr hg hown hlocks hml hin hK hP hD hA hS hZ hl
  have hown : s.vm.findClass RX12 = some m.cls := hown
  have hl : lv_has ls 1 [(0, .ref a0)] := hl
  refine lv_aload_n hx hb dX12_finds_0 rfl (lv_at hl 0 rfl) ?_
  refine lv_iconst (v := (-1)) hx hb dX12_finds_1 (by decide) ?_
  refine z_put hx hb hg hown hK hP hD hS i_X12 rfl tyX12_ok nmX12 0 rfl 61 (by decide) mt1341 rfl rfl rfl dX12_finds_2 (fun gg1 H locs y2 hP hD hS => ?_)
  have hP : va_P K.1 classes [(a0, zO 10 83 gg1), (a1, zI K 10 f1), (a2, zI K 1290 f2), (a3, zI K 900 f3), (a4, zI K 900 f4), (a5, zI K 900 f5), (a6, zI K 900 f6)] H := hP
  have hD : va_D A [(a0, zO 10 83 gg1), (a1, zI K 10 f1), (a2, zI K 1290 f2), (a3, zI K 900 f3), (a4, zI K 900 f4), (a5, zI K 900 f5), (a6, zI K 900 f6)] := hD
  refine lv_aload_n hx hb dX12_finds_5 rfl (lv_at hl 0 rfl) ?_
  refine z_get (v := .int (-1)) hx hb hg hown hK hP i_X12 rfl 0 rfl 61 (by decide) mt1341 (zu_of y2 zu_eq) dX12_finds_6 ?_
  refine lv_iconst (v := (-1)) hx hb dX12_finds_9 (by decide) ?_
  refine lv_icmp_ne (tgt := 48) hx hb dX12_finds_10 (by decide) (fun c => absurd (by decide) c) (fun _ => ?_)
  refine lv_aload_n hx hb dX12_finds_13 rfl (lv_at hl 0 rfl) ?_
  refine z_get (v := .int 0) hx hb hg hown hK hP i_X12 rfl 0 rfl 72 (by decide) mt1352 (zu_of y2 (zu_ne (by decide) e0)) dX12_finds_14 ?_
  refine lv_if_gt (tgt := 27) hx hb dX12_finds_17 (by decide) (fun c => absurd c (by decide)) (fun _ => ?_)
  refine lv_aload_n hx hb dX12_finds_20 rfl (lv_at hl 0 rfl) ?_
  refine z_get (v := .int 0) hx hb hg hown hK hP i_X12 rfl 0 rfl 65 (by decide) mt1345 (zu_of y2 (zu_ne (by decide) e1)) dX12_finds_21 ?_
  refine lv_if_ne (tgt := 48) hx hb dX12_finds_24 (by decide) (fun c => absurd (by decide) c) (fun _ => ?_)
  refine lv_aload_n hx hb dX12_finds_27 rfl (lv_at hl 0 rfl) ?_
  refine z_get (v := .int 0) hx hb hg hown hK hP i_X12 rfl 0 rfl 65 (by decide) mt1345 (zu_of y2 (zu_ne (by decide) e1)) dX12_finds_28 ?_
  refine lv_if_eq (tgt := 41) hx hb dX12_finds_31 (by decide) (fun _ => ?_) (fun c => absurd (by decide) c)
  refine lv_aload_n hx hb dX12_finds_41 rfl (lv_at hl 0 rfl) ?_
  refine z_callv [(a0, zO 10 83 gg1), (a1, zI K 10 f1), (a2, zI K 1290 f2), (a3, zI K 900 f3), (a4, zI K 900 f4), (a5, zI K 900 f5), (a6, zI K 900 f6)] [] [0, 1, 2, 3, 4, 5, 6] [] hP hD hS hA rfl rfl (by decide) (by decide) (by decide +kernel) 0 0 rfl rfl (fun hPc hDc hF => z_runV (As := []) (rest := []) ⟨hx, hb, hml, hown, hg⟩ (cX12_steps_3 l K H.size a0 a1 a2 a3 a4 a5 a6 gg1 f1 f2 f3 f4 f5 f6 (zu_of y2 (zu_ne (by decide) e2)) (zu_of y2 (zu_ne (by decide) e3)) (zu_of y2 (zu_ne (by decide) e4)) (zu_of y2 (zu_ne (by decide) e5)) (zu_of y2 (zu_ne (by decide) e6)) (zu_of y2 (zu_ne (by decide) e7)) e8 (zu_of y2 (zu_ne (by decide) e9)) (zu_of y2 (zu_ne (by decide) e10)) e11 (zu_of y2 (zu_ne (by decide) e12)) (zu_of y2 (zu_ne (by decide) e0)) (zu_of y2 (zu_ne (by decide) e13)) (zu_of y2 (zu_ne (by decide) e14)) (zu_of y2 (zu_ne (by decide) e15)) (zu_of y2 (zu_ne (by decide) e16))) kV_RX12_476 hd_X12_steps rfl rfl ⟨(Nat.le_of_ble_eq_true rfl), (Nat.le_of_ble_eq_true rfl)⟩ hK hS hZ hPc hDc hF 0 rfl rfl rfl hl.1 rfl (Nat.le_of_ble_eq_true rfl) dX12_finds_42 ⟨(Nat.le_of_ble_eq_true rfl), (Nat.le_of_ble_eq_true rfl)⟩) (fun u3 H locs w4 hP hD hS => ?_)
  have hP : va_P K.1 classes [(a0, zO 10 83 (va_up (va_up (va_up (va_up (va_up (va_up gg1 58 (.int 1)) 72 (.int 1)) 62 (.int 1281)) 63 (.int (-1))) 64 (.int 0)) 65 (.int 0))), (a1, zI K 10 (va_up f1 6 1)), (a2, zI K 1290 f2), (a3, zI K 900 (va_up f3 0 4)), (a4, zI K 900 (va_up f4 0 1280)), (a5, zI K 900 (va_up f5 0 (-1))), (a6, zI K 900 (va_up f6 0 0))] H := hP
  have hD : va_D A [(a0, zO 10 83 (va_up (va_up (va_up (va_up (va_up (va_up gg1 58 (.int 1)) 72 (.int 1)) 62 (.int 1281)) 63 (.int (-1))) 64 (.int 0)) 65 (.int 0))), (a1, zI K 10 (va_up f1 6 1)), (a2, zI K 1290 f2), (a3, zI K 900 (va_up f3 0 4)), (a4, zI K 900 (va_up f4 0 1280)), (a5, zI K 900 (va_up f5 0 (-1))), (a6, zI K 900 (va_up f6 0 0))] := hD
  obtain ⟨gg6, y7⟩ : ∃ z, z = ((va_up (va_up (va_up (va_up (va_up (va_up gg1 58 (.int 1)) 72 (.int 1)) 62 (.int 1281)) 63 (.int (-1))) 64 (.int 0)) 65 (.int 0)) : Nat → Value) := ⟨_, rfl⟩
  rw [← y7] at hP hD
  refine lv_goto (tgt := 5) hx hb dX12_finds_45 (by decide) ?_
  refine lv_aload_n hx hb dX12_finds_5 rfl (lv_at hl 0 rfl) ?_
  refine z_get (v := .int (-1)) hx hb hg hown hK hP i_X12 rfl 0 rfl 61 (by decide) mt1341 (zu_of y7 (zu_ne (by decide) (zu_ne (by decide) (zu_ne (by decide) (zu_ne (by decide) (zu_ne (by decide) (zu_ne (by decide) (zu_of y2 zu_eq)))))))) dX12_finds_6 ?_
  refine lv_iconst (v := (-1)) hx hb dX12_finds_9 (by decide) ?_
  refine lv_icmp_ne (tgt := 48) hx hb dX12_finds_10 (by decide) (fun c => absurd (by decide) c) (fun _ => ?_)
  refine lv_aload_n hx hb dX12_finds_13 rfl (lv_at hl 0 rfl) ?_
  refine z_get (v := .int 1) hx hb hg hown hK hP i_X12 rfl 0 rfl 72 (by decide) mt1352 (zu_of y7 (zu_ne (by decide) (zu_ne (by decide) (zu_ne (by decide) (zu_ne (by decide) zu_eq))))) dX12_finds_14 ?_
  refine lv_if_gt (tgt := 27) hx hb dX12_finds_17 (by decide) (fun _ => ?_) (fun c => absurd (by decide) c)
  refine lv_aload_n hx hb dX12_finds_27 rfl (lv_at hl 0 rfl) ?_
  refine z_get (v := .int 0) hx hb hg hown hK hP i_X12 rfl 0 rfl 65 (by decide) mt1345 (zu_of y7 zu_eq) dX12_finds_28 ?_
  refine lv_if_eq (tgt := 41) hx hb dX12_finds_31 (by decide) (fun _ => ?_) (fun c => absurd (by decide) c)
  refine lv_aload_n hx hb dX12_finds_41 rfl (lv_at hl 0 rfl) ?_
  refine z_callv [(a0, zO 10 83 gg6), (a3, zI K 900 (va_up f3 0 4))] [(a1, zI K 10 (va_up f1 6 1)), (a2, zI K 1290 f2), (a4, zI K 900 (va_up f4 0 1280)), (a5, zI K 900 (va_up f5 0 (-1))), (a6, zI K 900 (va_up f6 0 0))] [0, 3] [1, 2, 4, 5, 6] hP hD hS hA rfl rfl (by decide) (by decide) (by decide +kernel) 0 0 rfl rfl (fun hPc hDc hF => z_runV (As := []) (rest := []) ⟨hx, hb, hml, hown, hg⟩ (cX12_steps_4 l K H.size a0 a3 gg6 (va_up f3 0 4) (zu_of y7 (zu_ne (by decide) (zu_ne (by decide) (zu_ne (by decide) (zu_ne (by decide) (zu_ne (by decide) zu_eq)))))) (zu_of y7 (zu_ne (by decide) (zu_ne (by decide) (zu_ne (by decide) (zu_ne (by decide) (zu_ne (by decide) (zu_ne (by decide) (zu_of y2 (zu_ne (by decide) e3))))))))) (zu_of y7 (zu_ne (by decide) (zu_ne (by decide) (zu_ne (by decide) (zu_ne (by decide) (zu_ne (by decide) (zu_ne (by decide) (zu_of y2 (zu_ne (by decide) e4))))))))) (zu_of y7 (zu_ne (by decide) (zu_ne (by decide) (zu_ne (by decide) (zu_ne (by decide) (zu_ne (by decide) (zu_ne (by decide) (zu_of y2 (zu_ne (by decide) e5))))))))) (zu_of y7 (zu_ne (by decide) (zu_ne (by decide) (zu_ne (by decide) (zu_ne (by decide) zu_eq))))) (zu_of y7 (zu_ne (by decide) (zu_ne (by decide) (zu_ne (by decide) (zu_ne (by decide) (zu_ne (by decide) (zu_ne (by decide) (zu_of y2 (zu_ne (by decide) e12))))))))) zu_eq) kV_RX12_476 hd_X12_steps rfl rfl ⟨(Nat.le_of_ble_eq_true rfl), (Nat.le_of_ble_eq_true rfl)⟩ hK hS hZ hPc hDc hF 0 rfl rfl rfl hl.1 rfl (Nat.le_of_ble_eq_true rfl) dX12_finds_42 ⟨(Nat.le_of_ble_eq_true rfl), (Nat.le_of_ble_eq_true rfl)⟩) (fun u8 H locs w9 hP hD hS => ?_)
  have hP : va_P K.1 classes [(a1, zI K 10 (va_up f1 6 1)), (a2, zI K 1290 f2), (a4, zI K 900 (va_up f4 0 1280)), (a5, zI K 900 (va_up f5 0 (-1))), (a6, zI K 900 (va_up f6 0 0)), (a0, zO 10 83 (va_up (va_up gg6 61 (.int 7)) 72 (.int 0))), (a3, zI K 900 (va_up f3 0 4))] H := hP
  have hD : va_D A [(a1, zI K 10 (va_up f1 6 1)), (a2, zI K 1290 f2), (a4, zI K 900 (va_up f4 0 1280)), (a5, zI K 900 (va_up f5 0 (-1))), (a6, zI K 900 (va_up f6 0 0)), (a0, zO 10 83 (va_up (va_up gg6 61 (.int 7)) 72 (.int 0))), (a3, zI K 900 (va_up f3 0 4))] := hD
  obtain ⟨gg11, y12⟩ : ∃ z, z = ((va_up (va_up gg6 61 (.int 7)) 72 (.int 0)) : Nat → Value) := ⟨_, rfl⟩
  rw [← y12] at hP hD
  refine lv_goto (tgt := 5) hx hb dX12_finds_45 (by decide) ?_
  refine lv_aload_n hx hb dX12_finds_5 rfl (lv_at hl 0 rfl) ?_
  refine z_get (v := .int 7) hx hb hg hown hK hP i_X12 rfl 5 rfl 61 (by decide) mt1341 (zu_of y12 (zu_ne (by decide) zu_eq)) dX12_finds_6 ?_
  refine lv_iconst (v := (-1)) hx hb dX12_finds_9 (by decide) ?_
  refine lv_icmp_ne (tgt := 48) hx hb dX12_finds_10 (by decide) (fun _ => ?_) (fun c => absurd c (by decide))
  subst y12
  subst y7
  subst y2
  have hP9 : va_P K.1 classes [(a0, zO 10 83 (va_up (va_up (va_up (va_up (va_up (va_up (va_up (va_up (va_up g0 61 (.int (-1))) 58 (.int 1)) 72 (.int 1)) 62 (.int 1281)) 63 (.int (-1))) 64 (.int 0)) 65 (.int 0)) 61 (.int 7)) 72 (.int 0))), (a1, zI K 10 (va_up f1 6 1)), (a2, zI K 1290 f2), (a3, zI K 900 (va_up f3 0 4)), (a4, zI K 900 (va_up f4 0 1280)), (a5, zI K 900 (va_up f5 0 (-1))), (a6, zI K 900 (va_up f6 0 0))] H := hP.sub [5, 0, 1, 6, 2, 3, 4] rfl
  have hD9 : va_D A [(a0, zO 10 83 (va_up (va_up (va_up (va_up (va_up (va_up (va_up (va_up (va_up g0 61 (.int (-1))) 58 (.int 1)) 72 (.int 1)) 62 (.int 1281)) 63 (.int (-1))) 64 (.int 0)) 65 (.int 0)) 61 (.int 7)) 72 (.int 0))), (a1, zI K 10 (va_up f1 6 1)), (a2, zI K 1290 f2), (a3, zI K 900 (va_up f3 0 4)), (a4, zI K 900 (va_up f4 0 1280)), (a5, zI K 900 (va_up f5 0 (-1))), (a6, zI K 900 (va_up f6 0 0))] := hD.sub [5, 0, 1, 6, 2, 3, 4] (by decide) rfl
  exact z_vret hx hb hr (fun _ => 0) trivial hP9 hD9 hS (Nat.le_of_ble_eq_true rfl) (Nat.le_of_ble_eq_true rfl) hlocks dX12_finds_48
