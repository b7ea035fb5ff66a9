/-! calls of the law's cases [0, 1, 2, 3, 4, 5, 6, 7, 8, 9, 10, 11, 12, 13, 14, 15, 16, 18] (printed by wip/p1/walk.py) -/
set_option maxHeartbeats 4000000 in
set_option maxRecDepth 100000 in
theorem cX11_tell_4 (l : Launch) (K : zK) (sz : Nat) (a0 : Nat) (a1 : Nat) (a2 : Nat) (a3 : Nat) (a4 : Nat) (a5 : Nat) (a6 : Nat) (a7 : Nat) (a8 : Nat) (g0 : Nat → Value) (g1 : Nat → Value) (f2 : Nat → Int32) (f3 : Nat → Int32) (f4 : Nat → Int32) (f5 : Nat → Int32) (f6 : Nat → Int32) (f7 : Nat → Int32) (f8 : Nat → Int32) (j0 : Nat) (hj0 : j0 < 4) (e0 : g0 0 = (.ref a1)) (e1 : g1 0 = (.ref a2)) (e2 : g1 5 = (.int 0)) (e3 : g1 1 = (.ref a3)) (e4 : g1 2 = (.ref a4)) (e5 : g1 3 = (.ref a5)) (e6 : g1 4 = (.ref a6)) (e7 : g0 1 = (.ref a7)) (e8 : g0 2 = (.ref a8)) : Met l yX11_tell (Cond.code yX11_tell cX11_tell 13 (some .int) :: WG) { frames := 2, cells := 0, slots := 0, locals := 46 } (zPre K [(a0, zO 9 9 g0), (a1, zO 7 6 g1), (a2, zI K 200 f2), (a3, zI K 200 f3), (a4, zI K 200 f4), (a5, zI K 200 f5), (a6, zI K 600 f6), (a7, zI K 200 f7), (a8, zI K 200 f8)] sz [.ref a0, .int 7, .int (nI j0), .int 0, .int 0, .int (-1), .int (-1), .int (-1)]) (va_Qi (fun (r : Int32) (_ : Nat → Nat) => r = 0) (zB K (va_A [(a0, zO 9 9 g0), (a1, zO 7 6 g1), (a2, zI K 200 f2), (a3, zI K 200 f3), (a4, zI K 200 f4), (a5, zI K 200 f5), (a6, zI K 600 f6), (a7, zI K 200 f7), (a8, zI K 200 f8)] sz) (fun u : Nat → Nat => [(a0, zO 9 9 g0), (a1, zO 7 6 (va_up g1 5 (.int 1))), (a2, zI K 200 (va_up f2 0 7)), (a3, zI K 200 (va_up f3 0 (nI j0))), (a4, zI K 200 (va_up f4 0 0)), (a5, zI K 200 (va_up f5 0 0)), (a6, zI K 600 (va_up (va_up (va_up (va_up (va_up (va_up f6 0 (-1)) 1 (-1)) 2 (-1)) 0 (-1)) 1 (-1)) 2 (-1))), (a7, zI K 200 (va_up f7 0 1)), (a8, zI K 200 (va_up f8 0 0))])) (va_A [(a0, zO 9 9 g0), (a1, zO 7 6 g1), (a2, zI K 200 f2), (a3, zI K 200 f3), (a4, zI K 200 f4), (a5, zI K 200 f5), (a6, zI K 600 f6), (a7, zI K 200 f7), (a8, zI K 200 f8)] sz)) 0 0 (va_A [(a0, zO 9 9 g0), (a1, zO 7 6 g1), (a2, zI K 200 f2), (a3, zI K 200 f3), (a4, zI K 200 f4), (a5, zI K 200 f5), (a6, zI K 600 f6), (a7, zI K 200 f7), (a8, zI K 200 f8)] sz) := by
  refine z_met (Qc := fun A => (va_Qi (fun (r : Int32) (_ : Nat → Nat) => r = 0) (zB K A (fun u : Nat → Nat => [(a0, zO 9 9 g0), (a1, zO 7 6 (va_up g1 5 (.int 1))), (a2, zI K 200 (va_up f2 0 7)), (a3, zI K 200 (va_up f3 0 (nI j0))), (a4, zI K 200 (va_up f4 0 0)), (a5, zI K 200 (va_up f5 0 0)), (a6, zI K 600 (va_up (va_up (va_up (va_up (va_up (va_up f6 0 (-1)) 1 (-1)) 2 (-1)) 0 (-1)) 1 (-1)) 2 (-1))), (a7, zI K 200 (va_up f7 0 1)), (a8, zI K 200 (va_up f8 0 0))])) A)) (by decide +kernel) (Nat.le_of_ble_eq_true rfl) ?_
  intro p e s m args below meth c A ls H hx hb hr hg hown hlocks hml hin hK hP hD hA hS hZ hl
  have hown : s.vm.findClass RX11 = some m.cls := hown
  have hl : lv_has ls 13 [(0, .ref a0), (1, .int 7), (2, .int (nI j0)), (3, .int 0), (4, .int 0), (5, .int (-1)), (6, .int (-1)), (7, .int (-1))] := hl
  refine lv_aload_n hx hb dX11_tell_0 rfl (lv_at hl 0 rfl) ?_
  refine z_get (v := .ref a1) hx hb hg hown hK hP i_X11 rfl 0 rfl 0 (by decide) mt304 e0 dX11_tell_1 ?_
  refine lv_iconst (v := 1) hx hb dX11_tell_4 (by decide) ?_
  refine z_calli [(a1, zO 7 6 g1), (a2, zI K 200 f2)] [(a0, zO 9 9 g0), (a3, zI K 200 f3), (a4, zI K 200 f4), (a5, zI K 200 f5), (a6, zI K 600 f6), (a7, zI K 200 f7), (a8, zI K 200 f8)] [1, 2] [0, 3, 4, 5, 6, 7, 8] hP hD hS hA rfl rfl (by decide) (by decide) (by decide +kernel) 0 0 rfl rfl (fun hPc hDc hF => z_runV (As := [.int 1]) (rest := []) ⟨hx, hb, hml, hown, hg⟩ (cX9_reserve_2 l K H.size a1 a2 g1 f2 e1 e2) kV_RX11_198 hd_X9_reserve rfl rfl ⟨(Nat.le_of_ble_eq_true rfl), (Nat.le_of_ble_eq_true rfl)⟩ hK hS hZ hPc hDc hF 0 rfl rfl rfl hl.1 rfl (Nat.le_of_ble_eq_true rfl) dX11_tell_5 ⟨(Nat.le_of_ble_eq_true rfl), (Nat.le_of_ble_eq_true rfl)⟩) (fun r3 u1 H locs w2 hP hD hS => ?_)
  subst w2
  have hP : va_P K.1 classes [(a0, zO 9 9 g0), (a3, zI K 200 f3), (a4, zI K 200 f4), (a5, zI K 200 f5), (a6, zI K 600 f6), (a7, zI K 200 f7), (a8, zI K 200 f8), (a1, zO 7 6 (va_up g1 5 (.int 1))), (a2, zI K 200 f2)] H := hP
  have hD : va_D A [(a0, zO 9 9 g0), (a3, zI K 200 f3), (a4, zI K 200 f4), (a5, zI K 200 f5), (a6, zI K 600 f6), (a7, zI K 200 f7), (a8, zI K 200 f8), (a1, zO 7 6 (va_up g1 5 (.int 1))), (a2, zI K 200 f2)] := hD
  refine lv_istore (lv' := [(8, .int 0), (0, .ref a0), (1, .int 7), (2, .int (nI j0)), (3, .int 0), (4, .int 0), (5, .int (-1)), (6, .int (-1)), (7, .int (-1))]) hx hb dX11_tell_8 hl (by decide) rfl (fun ls hl => ?_)
  refine lv_iload hx hb dX11_tell_10 (lv_at hl 0 rfl) ?_
  refine lv_iconst (v := (-1)) hx hb dX11_tell_12 (by decide) ?_
  refine lv_icmp_ne (tgt := 26) hx hb dX11_tell_13 (by decide) (fun _ => ?_) (fun c => absurd c (by decide))
  refine lv_aload_n hx hb dX11_tell_26 rfl (lv_at hl 1 rfl) ?_
  refine z_get (v := .ref a1) hx hb hg hown hK hP i_X11 rfl 0 rfl 0 (by decide) mt304 e0 dX11_tell_27 ?_
  refine lv_iload hx hb dX11_tell_30 (lv_at hl 0 rfl) ?_
  refine lv_iload_n hx hb dX11_tell_32 rfl (lv_at hl 2 rfl) ?_
  refine lv_iload_n hx hb dX11_tell_33 rfl (lv_at hl 3 rfl) ?_
  refine lv_iload_n hx hb dX11_tell_34 rfl (lv_at hl 4 rfl) ?_
  refine lv_iload hx hb dX11_tell_35 (lv_at hl 5 rfl) ?_
  refine z_callv [(a1, zO 7 6 (va_up g1 5 (.int 1))), (a2, zI K 200 f2), (a3, zI K 200 f3), (a4, zI K 200 f4), (a5, zI K 200 f5), (a6, zI K 600 f6)] [(a0, zO 9 9 g0), (a7, zI K 200 f7), (a8, zI K 200 f8)] [7, 8, 1, 2, 3, 4] [0, 5, 6] hP hD hS hA rfl rfl (by decide) (by decide) (by decide +kernel) 0 0 rfl rfl (fun hPc hDc hF => z_runV (As := [.int 0, .int 7, .int (nI j0), .int 0, .int 0]) (rest := []) ⟨hx, hb, hml, hown, hg⟩ (cX9_set_4 l K H.size a1 a2 a3 a4 a5 a6 (va_up g1 5 (.int 1)) f2 f3 f4 f5 f6 j0 hj0 zu_eq (zu_ne (by decide) e1) (zu_ne (by decide) e3) (zu_ne (by decide) e4) (zu_ne (by decide) e5) (zu_ne (by decide) e6)) kV_RX11_203 hd_X9_set rfl rfl ⟨(Nat.le_of_ble_eq_true rfl), (Nat.le_of_ble_eq_true rfl)⟩ hK hS hZ hPc hDc hF 0 rfl rfl rfl hl.1 rfl (Nat.le_of_ble_eq_true rfl) dX11_tell_37 ⟨(Nat.le_of_ble_eq_true rfl), (Nat.le_of_ble_eq_true rfl)⟩) (fun u4 H locs w5 hP hD hS => ?_)
  have hP : va_P K.1 classes [(a0, zO 9 9 g0), (a7, zI K 200 f7), (a8, zI K 200 f8), (a1, zO 7 6 (va_up g1 5 (.int 1))), (a2, zI K 200 (va_up f2 0 7)), (a3, zI K 200 (va_up f3 0 (nI j0))), (a4, zI K 200 (va_up f4 0 0)), (a5, zI K 200 (va_up f5 0 0)), (a6, zI K 600 (va_up (va_up (va_up f6 0 (-1)) 1 (-1)) 2 (-1)))] H := hP
  have hD : va_D A [(a0, zO 9 9 g0), (a7, zI K 200 f7), (a8, zI K 200 f8), (a1, zO 7 6 (va_up g1 5 (.int 1))), (a2, zI K 200 (va_up f2 0 7)), (a3, zI K 200 (va_up f3 0 (nI j0))), (a4, zI K 200 (va_up f4 0 0)), (a5, zI K 200 (va_up f5 0 0)), (a6, zI K 600 (va_up (va_up (va_up f6 0 (-1)) 1 (-1)) 2 (-1)))] := hD
  obtain ⟨ff7, y8⟩ : ∃ z, z = ((va_up (va_up (va_up f6 0 (-1)) 1 (-1)) 2 (-1)) : Nat → Int32) := ⟨_, rfl⟩
  rw [← y8] at hP hD
  refine lv_aload_n hx hb dX11_tell_40 rfl (lv_at hl 1 rfl) ?_
  refine z_get (v := .ref a1) hx hb hg hown hK hP i_X11 rfl 0 rfl 0 (by decide) mt304 e0 dX11_tell_41 ?_
  refine lv_iload hx hb dX11_tell_44 (lv_at hl 0 rfl) ?_
  refine lv_iload hx hb dX11_tell_46 (lv_at hl 6 rfl) ?_
  refine lv_iload hx hb dX11_tell_48 (lv_at hl 7 rfl) ?_
  refine lv_iload hx hb dX11_tell_50 (lv_at hl 8 rfl) ?_
  refine z_callv [(a1, zO 7 6 (va_up g1 5 (.int 1))), (a6, zI K 600 ff7)] [(a0, zO 9 9 g0), (a7, zI K 200 f7), (a8, zI K 200 f8), (a2, zI K 200 (va_up f2 0 7)), (a3, zI K 200 (va_up f3 0 (nI j0))), (a4, zI K 200 (va_up f4 0 0)), (a5, zI K 200 (va_up f5 0 0))] [3, 8] [0, 1, 2, 4, 5, 6, 7] hP hD hS hA rfl rfl (by decide) (by decide) (by decide +kernel) 0 0 rfl rfl (fun hPc hDc hF => z_runV (As := [.int 0, .int (-1), .int (-1), .int (-1)]) (rest := []) ⟨hx, hb, hml, hown, hg⟩ (cX9_join_1 l K H.size a1 a6 (va_up g1 5 (.int 1)) ff7 zu_eq (zu_ne (by decide) e6)) kV_RX11_207 hd_X9_join rfl rfl ⟨(Nat.le_of_ble_eq_true rfl), (Nat.le_of_ble_eq_true rfl)⟩ hK hS hZ hPc hDc hF 0 rfl rfl rfl hl.1 rfl (Nat.le_of_ble_eq_true rfl) dX11_tell_52 ⟨(Nat.le_of_ble_eq_true rfl), (Nat.le_of_ble_eq_true rfl)⟩) (fun u9 H locs w10 hP hD hS => ?_)
  have hP : va_P K.1 classes [(a0, zO 9 9 g0), (a7, zI K 200 f7), (a8, zI K 200 f8), (a2, zI K 200 (va_up f2 0 7)), (a3, zI K 200 (va_up f3 0 (nI j0))), (a4, zI K 200 (va_up f4 0 0)), (a5, zI K 200 (va_up f5 0 0)), (a1, zO 7 6 (va_up g1 5 (.int 1))), (a6, zI K 600 (va_up (va_up (va_up ff7 0 (-1)) 1 (-1)) 2 (-1)))] H := hP
  have hD : va_D A [(a0, zO 9 9 g0), (a7, zI K 200 f7), (a8, zI K 200 f8), (a2, zI K 200 (va_up f2 0 7)), (a3, zI K 200 (va_up f3 0 (nI j0))), (a4, zI K 200 (va_up f4 0 0)), (a5, zI K 200 (va_up f5 0 0)), (a1, zO 7 6 (va_up g1 5 (.int 1))), (a6, zI K 600 (va_up (va_up (va_up ff7 0 (-1)) 1 (-1)) 2 (-1)))] := hD
  obtain ⟨ff12, y13⟩ : ∃ z, z = ((va_up (va_up (va_up ff7 0 (-1)) 1 (-1)) 2 (-1)) : Nat → Int32) := ⟨_, rfl⟩
  rw [← y13] at hP hD
  refine lv_iconst (v := 1) hx hb dX11_tell_55 (by decide) ?_
  refine lv_istore (lv' := [(9, .int 1), (8, .int 0), (0, .ref a0), (1, .int 7), (2, .int (nI j0)), (3, .int 0), (4, .int 0), (5, .int (-1)), (6, .int (-1)), (7, .int (-1))]) hx hb dX11_tell_56 hl (by decide) rfl (fun ls hl => ?_)
  refine lv_iload_n hx hb dX11_tell_58 rfl (lv_at hl 3 rfl) ?_
  refine lv_iconst (v := 1) hx hb dX11_tell_59 (by decide) ?_
  refine lv_icmp_eq (tgt := 69) hx hb dX11_tell_60 (by decide) (fun c => absurd c (by decide)) (fun _ => ?_)
  refine lv_iload_n hx hb dX11_tell_63 rfl (lv_at hl 3 rfl) ?_
  refine lv_bipush (v := 14) hx hb dX11_tell_64 (by decide) ?_
  refine lv_icmp_ne (tgt := 75) hx hb dX11_tell_66 (by decide) (fun _ => ?_) (fun c => absurd c (by decide))
  refine lv_iconst (v := 0) hx hb dX11_tell_75 (by decide) ?_
  refine lv_istore (lv' := [(10, .int 0), (9, .int 1), (8, .int 0), (0, .ref a0), (1, .int 7), (2, .int (nI j0)), (3, .int 0), (4, .int 0), (5, .int (-1)), (6, .int (-1)), (7, .int (-1))]) hx hb dX11_tell_76 hl (by decide) rfl (fun ls hl => ?_)
  refine lv_iconst (v := 0) hx hb dX11_tell_78 (by decide) ?_
  refine lv_istore (lv' := [(11, .int 0), (10, .int 0), (9, .int 1), (8, .int 0), (0, .ref a0), (1, .int 7), (2, .int (nI j0)), (3, .int 0), (4, .int 0), (5, .int (-1)), (6, .int (-1)), (7, .int (-1))]) hx hb dX11_tell_79 hl (by decide) rfl (fun ls hl => ?_)
  refine lv_iload hx hb dX11_tell_81 (lv_at hl 0 rfl) ?_
  refine lv_iconst (v := 3) hx hb dX11_tell_83 (by decide) ?_
  refine lv_icmp_ge (tgt := 156) hx hb dX11_tell_84 (by decide) (fun c => absurd c (by decide)) (fun _ => ?_)
  refine lv_aload_n hx hb dX11_tell_87 rfl (lv_at hl 4 rfl) ?_
  refine z_get (v := .ref a1) hx hb hg hown hK hP i_X11 rfl 0 rfl 0 (by decide) mt304 e0 dX11_tell_88 ?_
  refine lv_iload hx hb dX11_tell_91 (lv_at hl 3 rfl) ?_
  refine lv_iload hx hb dX11_tell_93 (lv_at hl 0 rfl) ?_
  refine z_calli [(a1, zO 7 6 (va_up g1 5 (.int 1))), (a6, zI K 600 ff12)] [(a0, zO 9 9 g0), (a7, zI K 200 f7), (a8, zI K 200 f8), (a2, zI K 200 (va_up f2 0 7)), (a3, zI K 200 (va_up f3 0 (nI j0))), (a4, zI K 200 (va_up f4 0 0)), (a5, zI K 200 (va_up f5 0 0))] [7, 8] [0, 1, 2, 3, 4, 5, 6] hP hD hS hA rfl rfl (by decide) (by decide) (by decide +kernel) 0 0 rfl rfl (fun hPc hDc hF => z_runV (As := [.int 0, .int 0]) (rest := []) ⟨hx, hb, hml, hown, hg⟩ (cX9_part_1 l K H.size a1 a6 (va_up g1 5 (.int 1)) ff12 zu_eq (zu_ne (by decide) e6) (zu_of y13 (zu_ne (by decide) (zu_ne (by decide) zu_eq)))) kV_RX11_211 hd_X9_part rfl rfl ⟨(Nat.le_of_ble_eq_true rfl), (Nat.le_of_ble_eq_true rfl)⟩ hK hS hZ hPc hDc hF 0 rfl rfl rfl hl.1 rfl (Nat.le_of_ble_eq_true rfl) dX11_tell_95 ⟨(Nat.le_of_ble_eq_true rfl), (Nat.le_of_ble_eq_true rfl)⟩) (fun r16 u14 H locs w15 hP hD hS => ?_)
  subst w15
  have hP : va_P K.1 classes [(a0, zO 9 9 g0), (a7, zI K 200 f7), (a8, zI K 200 f8), (a2, zI K 200 (va_up f2 0 7)), (a3, zI K 200 (va_up f3 0 (nI j0))), (a4, zI K 200 (va_up f4 0 0)), (a5, zI K 200 (va_up f5 0 0)), (a1, zO 7 6 (va_up g1 5 (.int 1))), (a6, zI K 600 ff12)] H := hP
  have hD : va_D A [(a0, zO 9 9 g0), (a7, zI K 200 f7), (a8, zI K 200 f8), (a2, zI K 200 (va_up f2 0 7)), (a3, zI K 200 (va_up f3 0 (nI j0))), (a4, zI K 200 (va_up f4 0 0)), (a5, zI K 200 (va_up f5 0 0)), (a1, zO 7 6 (va_up g1 5 (.int 1))), (a6, zI K 600 ff12)] := hD
  refine lv_istore (lv' := [(12, .int (-1)), (11, .int 0), (10, .int 0), (9, .int 1), (8, .int 0), (0, .ref a0), (1, .int 7), (2, .int (nI j0)), (3, .int 0), (4, .int 0), (5, .int (-1)), (6, .int (-1)), (7, .int (-1))]) hx hb dX11_tell_98 hl (by decide) rfl (fun ls hl => ?_)
  refine lv_iload hx hb dX11_tell_100 (lv_at hl 0 rfl) ?_
  refine lv_if_lt (tgt := 150) hx hb dX11_tell_102 (by decide) (fun _ => ?_) (fun c => absurd (by decide) c)
  refine lv_iinc (v := 1) (lv' := [(11, .int 1), (12, .int (-1)), (10, .int 0), (9, .int 1), (8, .int 0), (0, .ref a0), (1, .int 7), (2, .int (nI j0)), (3, .int 0), (4, .int 0), (5, .int (-1)), (6, .int (-1)), (7, .int (-1))]) hx hb dX11_tell_150 hl (k := 1) rfl (by decide +kernel) (by decide) rfl (fun ls hl => ?_)
  refine lv_goto (tgt := 81) hx hb dX11_tell_153 (by decide) ?_
  refine lv_iload hx hb dX11_tell_81 (lv_at hl 0 rfl) ?_
  refine lv_iconst (v := 3) hx hb dX11_tell_83 (by decide) ?_
  refine lv_icmp_ge (tgt := 156) hx hb dX11_tell_84 (by decide) (fun c => absurd c (by decide)) (fun _ => ?_)
  refine lv_aload_n hx hb dX11_tell_87 rfl (lv_at hl 5 rfl) ?_
  refine z_get (v := .ref a1) hx hb hg hown hK hP i_X11 rfl 0 rfl 0 (by decide) mt304 e0 dX11_tell_88 ?_
  refine lv_iload hx hb dX11_tell_91 (lv_at hl 4 rfl) ?_
  refine lv_iload hx hb dX11_tell_93 (lv_at hl 0 rfl) ?_
  refine z_calli [(a1, zO 7 6 (va_up g1 5 (.int 1))), (a6, zI K 600 ff12)] [(a0, zO 9 9 g0), (a7, zI K 200 f7), (a8, zI K 200 f8), (a2, zI K 200 (va_up f2 0 7)), (a3, zI K 200 (va_up f3 0 (nI j0))), (a4, zI K 200 (va_up f4 0 0)), (a5, zI K 200 (va_up f5 0 0))] [7, 8] [0, 1, 2, 3, 4, 5, 6] hP hD hS hA rfl rfl (by decide) (by decide) (by decide +kernel) 0 0 rfl rfl (fun hPc hDc hF => z_runV (As := [.int 0, .int 1]) (rest := []) ⟨hx, hb, hml, hown, hg⟩ (cX9_part_2 l K H.size a1 a6 (va_up g1 5 (.int 1)) ff12 zu_eq (zu_ne (by decide) e6) (zu_of y13 (zu_ne (by decide) zu_eq))) kV_RX11_211 hd_X9_part rfl rfl ⟨(Nat.le_of_ble_eq_true rfl), (Nat.le_of_ble_eq_true rfl)⟩ hK hS hZ hPc hDc hF 0 rfl rfl rfl hl.1 rfl (Nat.le_of_ble_eq_true rfl) dX11_tell_95 ⟨(Nat.le_of_ble_eq_true rfl), (Nat.le_of_ble_eq_true rfl)⟩) (fun r19 u17 H locs w18 hP hD hS => ?_)
  subst w18
  have hP : va_P K.1 classes [(a0, zO 9 9 g0), (a7, zI K 200 f7), (a8, zI K 200 f8), (a2, zI K 200 (va_up f2 0 7)), (a3, zI K 200 (va_up f3 0 (nI j0))), (a4, zI K 200 (va_up f4 0 0)), (a5, zI K 200 (va_up f5 0 0)), (a1, zO 7 6 (va_up g1 5 (.int 1))), (a6, zI K 600 ff12)] H := hP
  have hD : va_D A [(a0, zO 9 9 g0), (a7, zI K 200 f7), (a8, zI K 200 f8), (a2, zI K 200 (va_up f2 0 7)), (a3, zI K 200 (va_up f3 0 (nI j0))), (a4, zI K 200 (va_up f4 0 0)), (a5, zI K 200 (va_up f5 0 0)), (a1, zO 7 6 (va_up g1 5 (.int 1))), (a6, zI K 600 ff12)] := hD
  refine lv_istore (lv' := [(12, .int (-1)), (11, .int 1), (10, .int 0), (9, .int 1), (8, .int 0), (0, .ref a0), (1, .int 7), (2, .int (nI j0)), (3, .int 0), (4, .int 0), (5, .int (-1)), (6, .int (-1)), (7, .int (-1))]) hx hb dX11_tell_98 hl (by decide) rfl (fun ls hl => ?_)
  refine lv_iload hx hb dX11_tell_100 (lv_at hl 0 rfl) ?_
  refine lv_if_lt (tgt := 150) hx hb dX11_tell_102 (by decide) (fun _ => ?_) (fun c => absurd (by decide) c)
  refine lv_iinc (v := 2) (lv' := [(11, .int 2), (12, .int (-1)), (10, .int 0), (9, .int 1), (8, .int 0), (0, .ref a0), (1, .int 7), (2, .int (nI j0)), (3, .int 0), (4, .int 0), (5, .int (-1)), (6, .int (-1)), (7, .int (-1))]) hx hb dX11_tell_150 hl (k := 1) rfl (by decide +kernel) (by decide) rfl (fun ls hl => ?_)
  refine lv_goto (tgt := 81) hx hb dX11_tell_153 (by decide) ?_
  refine lv_iload hx hb dX11_tell_81 (lv_at hl 0 rfl) ?_
  refine lv_iconst (v := 3) hx hb dX11_tell_83 (by decide) ?_
  refine lv_icmp_ge (tgt := 156) hx hb dX11_tell_84 (by decide) (fun c => absurd c (by decide)) (fun _ => ?_)
  refine lv_aload_n hx hb dX11_tell_87 rfl (lv_at hl 5 rfl) ?_
  refine z_get (v := .ref a1) hx hb hg hown hK hP i_X11 rfl 0 rfl 0 (by decide) mt304 e0 dX11_tell_88 ?_
  refine lv_iload hx hb dX11_tell_91 (lv_at hl 4 rfl) ?_
  refine lv_iload hx hb dX11_tell_93 (lv_at hl 0 rfl) ?_
  refine z_calli [(a1, zO 7 6 (va_up g1 5 (.int 1))), (a6, zI K 600 ff12)] [(a0, zO 9 9 g0), (a7, zI K 200 f7), (a8, zI K 200 f8), (a2, zI K 200 (va_up f2 0 7)), (a3, zI K 200 (va_up f3 0 (nI j0))), (a4, zI K 200 (va_up f4 0 0)), (a5, zI K 200 (va_up f5 0 0))] [7, 8] [0, 1, 2, 3, 4, 5, 6] hP hD hS hA rfl rfl (by decide) (by decide) (by decide +kernel) 0 0 rfl rfl (fun hPc hDc hF => z_runV (As := [.int 0, .int 2]) (rest := []) ⟨hx, hb, hml, hown, hg⟩ (cX9_part_3 l K H.size a1 a6 (va_up g1 5 (.int 1)) ff12 zu_eq (zu_ne (by decide) e6) (zu_of y13 zu_eq)) kV_RX11_211 hd_X9_part rfl rfl ⟨(Nat.le_of_ble_eq_true rfl), (Nat.le_of_ble_eq_true rfl)⟩ hK hS hZ hPc hDc hF 0 rfl rfl rfl hl.1 rfl (Nat.le_of_ble_eq_true rfl) dX11_tell_95 ⟨(Nat.le_of_ble_eq_true rfl), (Nat.le_of_ble_eq_true rfl)⟩) (fun r22 u20 H locs w21 hP hD hS => ?_)
  subst w21
  have hP : va_P K.1 classes [(a0, zO 9 9 g0), (a7, zI K 200 f7), (a8, zI K 200 f8), (a2, zI K 200 (va_up f2 0 7)), (a3, zI K 200 (va_up f3 0 (nI j0))), (a4, zI K 200 (va_up f4 0 0)), (a5, zI K 200 (va_up f5 0 0)), (a1, zO 7 6 (va_up g1 5 (.int 1))), (a6, zI K 600 ff12)] H := hP
  have hD : va_D A [(a0, zO 9 9 g0), (a7, zI K 200 f7), (a8, zI K 200 f8), (a2, zI K 200 (va_up f2 0 7)), (a3, zI K 200 (va_up f3 0 (nI j0))), (a4, zI K 200 (va_up f4 0 0)), (a5, zI K 200 (va_up f5 0 0)), (a1, zO 7 6 (va_up g1 5 (.int 1))), (a6, zI K 600 ff12)] := hD
  refine lv_istore (lv' := [(12, .int (-1)), (11, .int 2), (10, .int 0), (9, .int 1), (8, .int 0), (0, .ref a0), (1, .int 7), (2, .int (nI j0)), (3, .int 0), (4, .int 0), (5, .int (-1)), (6, .int (-1)), (7, .int (-1))]) hx hb dX11_tell_98 hl (by decide) rfl (fun ls hl => ?_)
  refine lv_iload hx hb dX11_tell_100 (lv_at hl 0 rfl) ?_
  refine lv_if_lt (tgt := 150) hx hb dX11_tell_102 (by decide) (fun _ => ?_) (fun c => absurd (by decide) c)
  refine lv_iinc (v := 3) (lv' := [(11, .int 3), (12, .int (-1)), (10, .int 0), (9, .int 1), (8, .int 0), (0, .ref a0), (1, .int 7), (2, .int (nI j0)), (3, .int 0), (4, .int 0), (5, .int (-1)), (6, .int (-1)), (7, .int (-1))]) hx hb dX11_tell_150 hl (k := 1) rfl (by decide +kernel) (by decide) rfl (fun ls hl => ?_)
  refine lv_goto (tgt := 81) hx hb dX11_tell_153 (by decide) ?_
  refine lv_iload hx hb dX11_tell_81 (lv_at hl 0 rfl) ?_
  refine lv_iconst (v := 3) hx hb dX11_tell_83 (by decide) ?_
  refine lv_icmp_ge (tgt := 156) hx hb dX11_tell_84 (by decide) (fun _ => ?_) (fun c => absurd (by decide) c)
  refine lv_aload_n hx hb dX11_tell_156 rfl (lv_at hl 5 rfl) ?_
  refine z_get (v := .ref a7) hx hb hg hown hK hP i_X11 rfl 0 rfl 1 (by decide) mt305 e7 dX11_tell_157 ?_
  refine lv_iload hx hb dX11_tell_160 (lv_at hl 4 rfl) ?_
  refine lv_iload hx hb dX11_tell_162 (lv_at hl 3 rfl) ?_
  refine lv_bipush (v := 81) hx hb dX11_tell_164 (by decide) ?_
  refine va_mmin hx hb (by rw [hml]; exact hl.1.symm) hown (hg _ mt485) (hg _ mt486) (hg _ mt15) (hg _ mt487) (Nat.le_of_ble_eq_true rfl) (Nat.le_of_ble_eq_true rfl) (Nat.le_of_ble_eq_true rfl) (Nat.le_of_ble_eq_true rfl) dX11_tell_166 ?_
  refine z_cst (v := 1) (by decide +kernel) ?_
  refine z_iast (j := 0) hx hb hK hP hD hS 1 rfl rfl (Nat.le_of_ble_eq_true rfl) (Nat.le_of_ble_eq_true rfl) dX11_tell_169 (fun ff23 H locs y24 hP hD hS => ?_)
  have hP : va_P K.1 classes [(a0, zO 9 9 g0), (a7, zI K 200 ff23), (a8, zI K 200 f8), (a2, zI K 200 (va_up f2 0 7)), (a3, zI K 200 (va_up f3 0 (nI j0))), (a4, zI K 200 (va_up f4 0 0)), (a5, zI K 200 (va_up f5 0 0)), (a1, zO 7 6 (va_up g1 5 (.int 1))), (a6, zI K 600 ff12)] H := hP
  have hD : va_D A [(a0, zO 9 9 g0), (a7, zI K 200 ff23), (a8, zI K 200 f8), (a2, zI K 200 (va_up f2 0 7)), (a3, zI K 200 (va_up f3 0 (nI j0))), (a4, zI K 200 (va_up f4 0 0)), (a5, zI K 200 (va_up f5 0 0)), (a1, zO 7 6 (va_up g1 5 (.int 1))), (a6, zI K 600 ff12)] := hD
  refine lv_aload_n hx hb dX11_tell_170 rfl (lv_at hl 5 rfl) ?_
  refine z_get (v := .ref a8) hx hb hg hown hK hP i_X11 rfl 0 rfl 2 (by decide) mt306 e8 dX11_tell_171 ?_
  refine lv_iload hx hb dX11_tell_174 (lv_at hl 4 rfl) ?_
  refine lv_iload hx hb dX11_tell_176 (lv_at hl 2 rfl) ?_
  refine z_iast (j := 0) hx hb hK hP hD hS 2 rfl rfl (Nat.le_of_ble_eq_true rfl) (Nat.le_of_ble_eq_true rfl) dX11_tell_178 (fun ff25 H locs y26 hP hD hS => ?_)
  have hP : va_P K.1 classes [(a0, zO 9 9 g0), (a7, zI K 200 ff23), (a8, zI K 200 ff25), (a2, zI K 200 (va_up f2 0 7)), (a3, zI K 200 (va_up f3 0 (nI j0))), (a4, zI K 200 (va_up f4 0 0)), (a5, zI K 200 (va_up f5 0 0)), (a1, zO 7 6 (va_up g1 5 (.int 1))), (a6, zI K 600 ff12)] H := hP
  have hD : va_D A [(a0, zO 9 9 g0), (a7, zI K 200 ff23), (a8, zI K 200 ff25), (a2, zI K 200 (va_up f2 0 7)), (a3, zI K 200 (va_up f3 0 (nI j0))), (a4, zI K 200 (va_up f4 0 0)), (a5, zI K 200 (va_up f5 0 0)), (a1, zO 7 6 (va_up g1 5 (.int 1))), (a6, zI K 600 ff12)] := hD
  refine lv_iload hx hb dX11_tell_179 (lv_at hl 4 rfl) ?_
  subst y26
  subst y24
  subst y13
  subst y8
  have hP9 : va_P K.1 classes [(a0, zO 9 9 g0), (a1, zO 7 6 (va_up g1 5 (.int 1))), (a2, zI K 200 (va_up f2 0 7)), (a3, zI K 200 (va_up f3 0 (nI j0))), (a4, zI K 200 (va_up f4 0 0)), (a5, zI K 200 (va_up f5 0 0)), (a6, zI K 600 (va_up (va_up (va_up (va_up (va_up (va_up f6 0 (-1)) 1 (-1)) 2 (-1)) 0 (-1)) 1 (-1)) 2 (-1))), (a7, zI K 200 (va_up f7 0 1)), (a8, zI K 200 (va_up f8 0 0))] H := hP.sub [0, 7, 3, 4, 5, 6, 8, 1, 2] rfl
  have hD9 : va_D A [(a0, zO 9 9 g0), (a1, zO 7 6 (va_up g1 5 (.int 1))), (a2, zI K 200 (va_up f2 0 7)), (a3, zI K 200 (va_up f3 0 (nI j0))), (a4, zI K 200 (va_up f4 0 0)), (a5, zI K 200 (va_up f5 0 0)), (a6, zI K 600 (va_up (va_up (va_up (va_up (va_up (va_up f6 0 (-1)) 1 (-1)) 2 (-1)) 0 (-1)) 1 (-1)) 2 (-1))), (a7, zI K 200 (va_up f7 0 1)), (a8, zI K 200 (va_up f8 0 0))] := hD.sub [0, 7, 3, 4, 5, 6, 8, 1, 2] (by decide) rfl
  exact z_iret hx hb hr (fun _ => 0) rfl hP9 hD9 hS (Nat.le_of_ble_eq_true rfl) (Nat.le_of_ble_eq_true rfl) hlocks dX11_tell_181
set_option maxHeartbeats 4000000 in
set_option maxRecDepth 100000 in
theorem cX11_con_2 (l : Launch) (K : zK) (sz : Nat) (a0 : Nat) (a1 : Nat) (a2 : Nat) (a3 : Nat) (a4 : Nat) (a5 : Nat) (a6 : Nat) (a7 : Nat) (a8 : Nat) (g0 : Nat → Value) (g1 : Nat → Value) (f2 : Nat → Int32) (f3 : Nat → Int32) (f4 : Nat → Int32) (f5 : Nat → Int32) (f6 : Nat → Int32) (f7 : Nat → Int32) (f8 : Nat → Int32) (j0 : Nat) (hj0 : j0 < 4) (e0 : g0 0 = (.ref a1)) (e1 : g1 0 = (.ref a2)) (e2 : g1 5 = (.int 0)) (e3 : g1 1 = (.ref a3)) (e4 : g1 2 = (.ref a4)) (e5 : g1 3 = (.ref a5)) (e6 : g1 4 = (.ref a6)) (e7 : g0 1 = (.ref a7)) (e8 : g0 2 = (.ref a8)) : Met l yX11_con (Cond.code yX11_con cX11_con 4 (some .int) :: WG) { frames := 3, cells := 0, slots := 0, locals := 78 } (zPre K [(a0, zO 9 9 g0), (a1, zO 7 6 g1), (a2, zI K 200 f2), (a3, zI K 200 f3), (a4, zI K 200 f4), (a5, zI K 200 f5), (a6, zI K 600 f6), (a7, zI K 200 f7), (a8, zI K 200 f8)] sz [.ref a0, .int (nI j0), .int (-1), .int (-1)]) (va_Qi (fun (r : Int32) (_ : Nat → Nat) => r = 0) (zB K (va_A [(a0, zO 9 9 g0), (a1, zO 7 6 g1), (a2, zI K 200 f2), (a3, zI K 200 f3), (a4, zI K 200 f4), (a5, zI K 200 f5), (a6, zI K 600 f6), (a7, zI K 200 f7), (a8, zI K 200 f8)] sz) (fun u : Nat → Nat => [])) (va_A [(a0, zO 9 9 g0), (a1, zO 7 6 g1), (a2, zI K 200 f2), (a3, zI K 200 f3), (a4, zI K 200 f4), (a5, zI K 200 f5), (a6, zI K 600 f6), (a7, zI K 200 f7), (a8, zI K 200 f8)] sz)) 0 0 (va_A [(a0, zO 9 9 g0), (a1, zO 7 6 g1), (a2, zI K 200 f2), (a3, zI K 200 f3), (a4, zI K 200 f4), (a5, zI K 200 f5), (a6, zI K 600 f6), (a7, zI K 200 f7), (a8, zI K 200 f8)] sz) := by
  refine z_met (Qc := fun A => (va_Qi (fun (r : Int32) (_ : Nat → Nat) => r = 0) (zB K A (fun u : Nat → Nat => [])) A)) (by decide +kernel) (Nat.le_of_ble_eq_true rfl) ?_
  intro p e s m args below meth c A ls H hx hb hr hg hown hlocks hml hin hK hP hD hA hS hZ hl
  have hown : s.vm.findClass RX11 = some m.cls := hown
  have hl : lv_has ls 4 [(0, .ref a0), (1, .int (nI j0)), (2, .int (-1)), (3, .int (-1))] := hl
  refine lv_iload_n hx hb dX11_con_0 rfl (lv_at hl 2 rfl) ?_
  refine lv_iconst (v := (-1)) hx hb dX11_con_1 (by decide) ?_
  refine lv_icmp_eq (tgt := 10) hx hb dX11_con_2 (by decide) (fun _ => ?_) (fun c => absurd (by decide) c)
  refine lv_iload_n hx hb dX11_con_10 rfl (lv_at hl 3 rfl) ?_
  refine lv_iconst (v := (-1)) hx hb dX11_con_11 (by decide) ?_
  refine lv_icmp_eq (tgt := 20) hx hb dX11_con_12 (by decide) (fun _ => ?_) (fun c => absurd (by decide) c)
  refine lv_aload_n hx hb dX11_con_20 rfl (lv_at hl 0 rfl) ?_
  refine lv_iload_n hx hb dX11_con_21 rfl (lv_at hl 1 rfl) ?_
  refine lv_iconst (v := 4) hx hb dX11_con_22 (by decide) ?_
  refine z_callv [(a0, zO 9 9 g0)] [(a1, zO 7 6 g1), (a2, zI K 200 f2), (a3, zI K 200 f3), (a4, zI K 200 f4), (a5, zI K 200 f5), (a6, zI K 600 f6), (a7, zI K 200 f7), (a8, zI K 200 f8)] [0] [1, 2, 3, 4, 5, 6, 7, 8] hP hD hS hA rfl rfl (by decide) (by decide) (by decide +kernel) 0 0 rfl rfl (fun hPc hDc hF => z_runV (As := [.int (nI j0), .int 4]) (rest := []) ⟨hx, hb, hml, hown, hg⟩ (cX11_checkRange_8 l K H.size a0 g0 j0 hj0) kV_RX11_72 hd_X11_checkRange rfl rfl ⟨(Nat.le_of_ble_eq_true rfl), (Nat.le_of_ble_eq_true rfl)⟩ hK hS hZ hPc hDc hF 0 rfl rfl rfl hl.1 rfl (Nat.le_of_ble_eq_true rfl) dX11_con_23 ⟨(Nat.le_of_ble_eq_true rfl), (Nat.le_of_ble_eq_true rfl)⟩) (fun u1 H locs w2 hP hD hS => ?_)
  have hP : va_P K.1 classes [(a1, zO 7 6 g1), (a2, zI K 200 f2), (a3, zI K 200 f3), (a4, zI K 200 f4), (a5, zI K 200 f5), (a6, zI K 600 f6), (a7, zI K 200 f7), (a8, zI K 200 f8), (a0, zO 9 9 g0)] H := hP
  have hD : va_D A [(a1, zO 7 6 g1), (a2, zI K 200 f2), (a3, zI K 200 f3), (a4, zI K 200 f4), (a5, zI K 200 f5), (a6, zI K 600 f6), (a7, zI K 200 f7), (a8, zI K 200 f8), (a0, zO 9 9 g0)] := hD
  refine lv_iload_n hx hb dX11_con_26 rfl (lv_at hl 2 rfl) ?_
  refine lv_iconst (v := (-1)) hx hb dX11_con_27 (by decide) ?_
  refine lv_icmp_eq (tgt := 36) hx hb dX11_con_28 (by decide) (fun _ => ?_) (fun c => absurd (by decide) c)
  refine lv_iload_n hx hb dX11_con_36 rfl (lv_at hl 3 rfl) ?_
  refine lv_iconst (v := (-1)) hx hb dX11_con_37 (by decide) ?_
  refine lv_icmp_eq (tgt := 46) hx hb dX11_con_38 (by decide) (fun _ => ?_) (fun c => absurd (by decide) c)
  refine lv_iload_n hx hb dX11_con_46 rfl (lv_at hl 2 rfl) ?_
  refine lv_iconst (v := (-1)) hx hb dX11_con_47 (by decide) ?_
  refine lv_icmp_ne (tgt := 66) hx hb dX11_con_48 (by decide) (fun c => absurd (by decide) c) (fun _ => ?_)
  refine lv_iload_n hx hb dX11_con_51 rfl (lv_at hl 3 rfl) ?_
  refine lv_iconst (v := (-1)) hx hb dX11_con_52 (by decide) ?_
  refine lv_icmp_eq (tgt := 66) hx hb dX11_con_53 (by decide) (fun _ => ?_) (fun c => absurd (by decide) c)
  refine lv_aload_n hx hb dX11_con_66 rfl (lv_at hl 0 rfl) ?_
  refine lv_bipush (v := 7) hx hb dX11_con_67 (by decide) ?_
  refine lv_iload_n hx hb dX11_con_69 rfl (lv_at hl 1 rfl) ?_
  refine lv_iconst (v := 0) hx hb dX11_con_70 (by decide) ?_
  refine lv_iconst (v := 0) hx hb dX11_con_71 (by decide) ?_
  refine lv_iload_n hx hb dX11_con_72 rfl (lv_at hl 2 rfl) ?_
  refine lv_iload_n hx hb dX11_con_73 rfl (lv_at hl 3 rfl) ?_
  refine lv_iconst (v := (-1)) hx hb dX11_con_74 (by decide) ?_
  refine z_calli [(a0, zO 9 9 g0), (a1, zO 7 6 g1), (a2, zI K 200 f2), (a3, zI K 200 f3), (a4, zI K 200 f4), (a5, zI K 200 f5), (a6, zI K 600 f6), (a7, zI K 200 f7), (a8, zI K 200 f8)] [] [8, 0, 1, 2, 3, 4, 5, 6, 7] [] hP hD hS hA rfl rfl (by decide) (by decide) (by decide +kernel) 0 0 rfl rfl (fun hPc hDc hF => z_runV (As := [.int 7, .int (nI j0), .int 0, .int 0, .int (-1), .int (-1), .int (-1)]) (rest := []) ⟨hx, hb, hml, hown, hg⟩ (cX11_tell_4 l K H.size a0 a1 a2 a3 a4 a5 a6 a7 a8 g0 g1 f2 f3 f4 f5 f6 f7 f8 j0 hj0 e0 e1 e2 e3 e4 e5 e6 e7 e8) kV_RX11_68 hd_X11_tell rfl rfl ⟨(Nat.le_of_ble_eq_true rfl), (Nat.le_of_ble_eq_true rfl)⟩ hK hS hZ hPc hDc hF 0 rfl rfl rfl hl.1 rfl (Nat.le_of_ble_eq_true rfl) dX11_con_75 ⟨(Nat.le_of_ble_eq_true rfl), (Nat.le_of_ble_eq_true rfl)⟩) (fun r6 u4 H locs w5 hP hD hS => ?_)
  subst w5
  have hP : va_P K.1 classes [(a0, zO 9 9 g0), (a1, zO 7 6 (va_up g1 5 (.int 1))), (a2, zI K 200 (va_up f2 0 7)), (a3, zI K 200 (va_up f3 0 (nI j0))), (a4, zI K 200 (va_up f4 0 0)), (a5, zI K 200 (va_up f5 0 0)), (a6, zI K 600 (va_up (va_up (va_up (va_up (va_up (va_up f6 0 (-1)) 1 (-1)) 2 (-1)) 0 (-1)) 1 (-1)) 2 (-1))), (a7, zI K 200 (va_up f7 0 1)), (a8, zI K 200 (va_up f8 0 0))] H := hP
  have hD : va_D A [(a0, zO 9 9 g0), (a1, zO 7 6 (va_up g1 5 (.int 1))), (a2, zI K 200 (va_up f2 0 7)), (a3, zI K 200 (va_up f3 0 (nI j0))), (a4, zI K 200 (va_up f4 0 0)), (a5, zI K 200 (va_up f5 0 0)), (a6, zI K 600 (va_up (va_up (va_up (va_up (va_up (va_up f6 0 (-1)) 1 (-1)) 2 (-1)) 0 (-1)) 1 (-1)) 2 (-1))), (a7, zI K 200 (va_up f7 0 1)), (a8, zI K 200 (va_up f8 0 0))] := hD
  obtain ⟨ff7, y8⟩ : ∃ z, z = ((va_up (va_up (va_up (va_up (va_up (va_up f6 0 (-1)) 1 (-1)) 2 (-1)) 0 (-1)) 1 (-1)) 2 (-1)) : Nat → Int32) := ⟨_, rfl⟩
  rw [← y8] at hP hD
  subst y8
  have hP9 : va_P K.1 classes [] H := hP.sub [] rfl
  have hD9 : va_D A [] := hD.sub [] (by decide) rfl
  exact z_iret hx hb hr (fun _ => 0) rfl hP9 hD9 hS (Nat.le_of_ble_eq_true rfl) (Nat.le_of_ble_eq_true rfl) hlocks dX11_con_78
set_option maxHeartbeats 4000000 in
set_option maxRecDepth 100000 in
theorem cL_con_2 (l : Launch) (hl9 : l.stackTraces = false) (K : zK) (sz : Nat) (a0 : Nat) (a1 : Nat) (a2 : Nat) (a3 : Nat) (a4 : Nat) (a5 : Nat) (a6 : Nat) (a7 : Nat) (a8 : Nat) (a9 : Nat) (g0 : Nat → Value) (g2 : Nat → Value) (f3 : Nat → Int32) (f4 : Nat → Int32) (f5 : Nat → Int32) (f6 : Nat → Int32) (f7 : Nat → Int32) (f8 : Nat → Int32) (f9 : Nat → Int32) (f1 : Nat → Int64) (j0 : Nat) (hj0 : j0 < 4) (e0 : g0 0 = (.ref a2)) (e1 : g2 0 = (.ref a3)) (e2 : g2 5 = (.int 0)) (e3 : g2 1 = (.ref a4)) (e4 : g2 2 = (.ref a5)) (e5 : g2 3 = (.ref a6)) (e6 : g2 4 = (.ref a7)) (e7 : g0 1 = (.ref a8)) (e8 : g0 2 = (.ref a9)) : vx_Met l yL_con (Cond.codeWith yL_con cL_con 6 (some .int) [(0, 12, 15, 27), (0, 12, 19, 18), (0, 12, 23, 13)] :: WG) { frames := 4, cells := 0, slots := 0, locals := 101 } (zPre K [(a0, zO 9 9 g0), (a2, zO 7 6 g2), (a3, zI K 200 f3), (a4, zI K 200 f4), (a5, zI K 200 f5), (a6, zI K 200 f6), (a7, zI K 600 f7), (a8, zI K 200 f8), (a9, zI K 200 f9), (a1, zJ K 1 f1)] sz [.ref a0, .int (nI j0), .int (-1), .int (-1), .ref a1]) (va_Qi (fun (r : Int32) (_ : Nat → Nat) => r = 0) (zB K (va_A [(a0, zO 9 9 g0), (a2, zO 7 6 g2), (a3, zI K 200 f3), (a4, zI K 200 f4), (a5, zI K 200 f5), (a6, zI K 200 f6), (a7, zI K 600 f7), (a8, zI K 200 f8), (a9, zI K 200 f9), (a1, zJ K 1 f1)] sz) (fun u : Nat → Nat => [(a1, zJ K 1 (va_up f1 0 0))])) (va_A [(a0, zO 9 9 g0), (a2, zO 7 6 g2), (a3, zI K 200 f3), (a4, zI K 200 f4), (a5, zI K 200 f5), (a6, zI K 200 f6), (a7, zI K 600 f7), (a8, zI K 200 f8), (a9, zI K 200 f9), (a1, zJ K 1 f1)] sz)) (vx_X (fun _ : Unit => False) (fun _ _ _ => True) (va_A [(a0, zO 9 9 g0), (a2, zO 7 6 g2), (a3, zI K 200 f3), (a4, zI K 200 f4), (a5, zI K 200 f5), (a6, zI K 200 f6), (a7, zI K 600 f7), (a8, zI K 200 f8), (a9, zI K 200 f9), (a1, zJ K 1 f1)] sz)) 0 0 (va_A [(a0, zO 9 9 g0), (a2, zO 7 6 g2), (a3, zI K 200 f3), (a4, zI K 200 f4), (a5, zI K 200 f5), (a6, zI K 200 f6), (a7, zI K 600 f7), (a8, zI K 200 f8), (a9, zI K 200 f9), (a1, zJ K 1 f1)] sz) := by
  refine z_hmet (Qc := fun A => (va_Qi (fun (r : Int32) (_ : Nat → Nat) => r = 0) (zB K A (fun u : Nat → Nat => [(a1, zJ K 1 (va_up f1 0 0))])) A)) (XC := fun A => vx_X (fun _ : Unit => False) (fun _ _ _ => True) A) (by decide +kernel) (Nat.le_of_ble_eq_true rfl) ?_
  intro p e s m args below meth c A ls H hx hb hr hg hown hlocks hml hTab hK hP hD hA hS hZ hl
  have hown : s.vm.findClass RL = some m.cls := hown
  have hl : lv_has ls 6 [(0, .ref a0), (1, .int (nI j0)), (2, .int (-1)), (3, .int (-1)), (4, .ref a1)] := hl
  refine lv_aload hx hb dL_con_0 (lv_at hl 4 rfl) ?_
  refine lv_iconst (v := 0) hx hb dL_con_2 (by decide) ?_
  refine lv_aload_n hx hb dL_con_3 rfl (lv_at hl 0 rfl) ?_
  refine lv_iload_n hx hb dL_con_4 rfl (lv_at hl 1 rfl) ?_
  refine lv_iload_n hx hb dL_con_5 rfl (lv_at hl 2 rfl) ?_
  refine lv_iload_n hx hb dL_con_6 rfl (lv_at hl 3 rfl) ?_
  refine z_calli [(a0, zO 9 9 g0), (a2, zO 7 6 g2), (a3, zI K 200 f3), (a4, zI K 200 f4), (a5, zI K 200 f5), (a6, zI K 200 f6), (a7, zI K 600 f7), (a8, zI K 200 f8), (a9, zI K 200 f9)] [(a1, zJ K 1 f1)] [0, 1, 2, 3, 4, 5, 6, 7, 8] [9] hP hD hS hA rfl rfl (by decide) (by decide) (by decide +kernel) 0 0 rfl rfl (fun hPc hDc hF => z_runV (As := [.int (nI j0), .int (-1), .int (-1)]) (rest := [.int 0, .ref a1]) ⟨hx, hb, hml, hown, hg⟩ (cX11_con_2 l K H.size a0 a2 a3 a4 a5 a6 a7 a8 a9 g0 g2 f3 f4 f5 f6 f7 f8 f9 j0 hj0 e0 e1 e2 e3 e4 e5 e6 e7 e8) kV_RL_36 hd_X11_con rfl rfl ⟨(Nat.le_of_ble_eq_true rfl), (Nat.le_of_ble_eq_true rfl)⟩ hK hS hZ hPc hDc hF 0 rfl rfl rfl hl.1 rfl (Nat.le_of_ble_eq_true rfl) dL_con_7 ⟨(Nat.le_of_ble_eq_true rfl), (Nat.le_of_ble_eq_true rfl)⟩) (fun r3 u1 H locs w2 hP hD hS => ?_)
  subst w2
  have hP : va_P K.1 classes [(a1, zJ K 1 f1)] H := hP
  have hD : va_D A [(a1, zJ K 1 f1)] := hD
  refine lv_i2l hx hb dL_con_10 rfl ?_
  refine z_cstl (v := 0) (by decide +kernel) ?_
  refine z_last (j := 0) hx hb hK hP hD hS 0 rfl rfl (Nat.le_of_ble_eq_true rfl) (Nat.le_of_ble_eq_true rfl) dL_con_11 (fun ff4 H locs y5 hP hD hS => ?_)
  have hP : va_P K.1 classes [(a1, zJ K 1 ff4)] H := hP
  have hD : va_D A [(a1, zJ K 1 ff4)] := hD
  refine lv_goto (tgt := 27) hx hb dL_con_12 (by decide) ?_
  refine lv_iconst (v := 0) hx hb dL_con_27 (by decide) ?_
  subst y5
  have hP9 : va_P K.1 classes [(a1, zJ K 1 (va_up f1 0 0))] H := hP.sub [0] rfl
  have hD9 : va_D A [(a1, zJ K 1 (va_up f1 0 0))] := hD.sub [0] (by decide) rfl
  exact z_iret hx hb hr (fun _ => 0) rfl hP9 hD9 hS (Nat.le_of_ble_eq_true rfl) (Nat.le_of_ble_eq_true rfl) hlocks dL_con_28
set_option maxHeartbeats 4000000 in
set_option maxRecDepth 100000 in
theorem cX12_isIn_10 (l : Launch) (K : zK) (sz : Nat) (j0 : Nat) (hj0 : j0 < 4) : Met l yX12_isIn (Cond.code yX12_isIn cX12_isIn 3 (some .boolean) :: WG) { frames := 0, cells := 0, slots := 0, locals := 0 } (zPre K [] sz [.int (nI j0), .int 0, .int 3]) (va_Qi (fun (r : Int32) (_ : Nat → Nat) => r = 1) (zB K (va_A [] sz) (fun u : Nat → Nat => [])) (va_A [] sz)) 0 0 (va_A [] sz) := by
  refine z_met (Qc := fun A => (va_Qi (fun (r : Int32) (_ : Nat → Nat) => r = 1) (zB K A (fun u : Nat → Nat => [])) A)) (by decide +kernel) (Nat.le_of_ble_eq_true rfl) ?_
  intro p e s m args below meth c A ls H hx hb hr hg hown hlocks hml hin hK hP hD hA hS hZ hl
  have hown : s.vm.findClass RX12 = some m.cls := hown
  have hl : lv_has ls 3 [(0, .int (nI j0)), (1, .int 0), (2, .int 3)] := hl
  refine lv_iload_n hx hb dX12_isIn_0 rfl (lv_at hl 0 rfl) ?_
  refine lv_iload_n hx hb dX12_isIn_1 rfl (lv_at hl 1 rfl) ?_
  refine lv_icmp_lt (tgt := 14) hx hb dX12_isIn_2 (by decide) (fun c => absurd c ((by decide : ∀ j, j < 4 → ¬ ((nI j) < (0 : Int32))) j0 hj0)) (fun _ => ?_)
  refine lv_iload_n hx hb dX12_isIn_5 rfl (lv_at hl 0 rfl) ?_
  refine lv_iload_n hx hb dX12_isIn_6 rfl (lv_at hl 2 rfl) ?_
  refine lv_icmp_gt (tgt := 14) hx hb dX12_isIn_7 (by decide) (fun c => absurd c ((by decide : ∀ j, j < 4 → ¬ ((3 : Int32) < (nI j))) j0 hj0)) (fun _ => ?_)
  refine lv_iconst (v := 1) hx hb dX12_isIn_10 (by decide) ?_
  refine lv_goto (tgt := 15) hx hb dX12_isIn_11 (by decide) ?_
  have hP9 : va_P K.1 classes [] H := hP.sub [] rfl
  have hD9 : va_D A [] := hD.sub [] (by decide) rfl
  exact z_zret hx hb hr rfl (fun _ => 0) rfl hP9 hD9 hS (Nat.le_of_ble_eq_true rfl) (Nat.le_of_ble_eq_true rfl) hlocks dX12_isIn_15
set_option maxHeartbeats 4000000 in
set_option maxRecDepth 100000 in
theorem cX12_mayTell_4 (l : Launch) (K : zK) (sz : Nat) (a0 : Nat) (g0 : Nat → Value) (e0 : g0 0 = (.int 0)) : Met l yX12_mayTell (Cond.code yX12_mayTell cX12_mayTell 3 (some .boolean) :: WG) { frames := 1, cells := 0, slots := 0, locals := 21 } (zPre K [(a0, zO 10 83 g0)] sz [.ref a0, .int 1, .int 1]) (va_Qi (fun (r : Int32) (_ : Nat → Nat) => r = 1) (zB K (va_A [(a0, zO 10 83 g0)] sz) (fun u : Nat → Nat => [(a0, zO 10 83 (va_up g0 81 (.int 0)))])) (va_A [(a0, zO 10 83 g0)] sz)) 0 0 (va_A [(a0, zO 10 83 g0)] sz) := by
  refine z_met (Qc := fun A => (va_Qi (fun (r : Int32) (_ : Nat → Nat) => r = 1) (zB K A (fun u : Nat → Nat => [(a0, zO 10 83 (va_up g0 81 (.int 0)))])) A)) (by decide +kernel) (Nat.le_of_ble_eq_true rfl) ?_
  intro p e s m args below meth c A ls H hx hb hr hg hown hlocks hml hin hK hP hD hA hS hZ hl
  have hown : s.vm.findClass RX12 = some m.cls := hown
  have hl : lv_has ls 3 [(0, .ref a0), (1, .int 1), (2, .int 1)] := hl
  refine lv_aload_n hx hb dX12_mayTell_0 rfl (lv_at hl 0 rfl) ?_
  refine lv_iload_n hx hb dX12_mayTell_1 rfl (lv_at hl 1 rfl) ?_
  refine lv_if_ne (tgt := 9) hx hb dX12_mayTell_2 (by decide) (fun _ => ?_) (fun c => absurd c (by decide))
  refine lv_iload_n hx hb dX12_mayTell_9 rfl (lv_at hl 2 rfl) ?_
  refine lv_if_ne (tgt := 17) hx hb dX12_mayTell_10 (by decide) (fun _ => ?_) (fun c => absurd c (by decide))
  refine lv_aload_n hx hb dX12_mayTell_17 rfl (lv_at hl 0 rfl) ?_
  refine z_get (v := .int 0) hx hb hg hown hK hP i_X12 rfl 0 rfl 0 (by decide) mt1280 e0 dX12_mayTell_18 ?_
  refine lv_sipush (v := 200) hx hb dX12_mayTell_21 (by decide) ?_
  refine lv_icmp_ne (tgt := 31) hx hb dX12_mayTell_24 (by decide) (fun _ => ?_) (fun c => absurd c (by decide))
  refine lv_iconst (v := 0) hx hb dX12_mayTell_31 (by decide) ?_
  refine z_calli [(a0, zO 10 83 g0)] [] [0] [] hP hD hS hA rfl rfl (by decide) (by decide) (by decide +kernel) 0 0 rfl rfl (fun hPc hDc hF => z_runV (As := [.int 0]) (rest := []) ⟨hx, hb, hml, hown, hg⟩ (cX12_can_1 l K H.size a0 g0) kV_RX12_182 hd_X12_can rfl rfl ⟨(Nat.le_of_ble_eq_true rfl), (Nat.le_of_ble_eq_true rfl)⟩ hK hS hZ hPc hDc hF 0 rfl rfl rfl hl.1 rfl (Nat.le_of_ble_eq_true rfl) dX12_mayTell_32 ⟨(Nat.le_of_ble_eq_true rfl), (Nat.le_of_ble_eq_true rfl)⟩) (fun r3 u1 H locs w2 hP hD hS => ?_)
  subst w2
  have hP : va_P K.1 classes [(a0, zO 10 83 (va_up g0 81 (.int 0)))] H := hP
  have hD : va_D A [(a0, zO 10 83 (va_up g0 81 (.int 0)))] := hD
  have hP9 : va_P K.1 classes [(a0, zO 10 83 (va_up g0 81 (.int 0)))] H := hP.sub [0] rfl
  have hD9 : va_D A [(a0, zO 10 83 (va_up g0 81 (.int 0)))] := hD.sub [0] (by decide) rfl
  exact z_zret hx hb hr rfl (fun _ => 0) rfl hP9 hD9 hS (Nat.le_of_ble_eq_true rfl) (Nat.le_of_ble_eq_true rfl) hlocks dX12_mayTell_35
set_option maxHeartbeats 4000000 in
set_option maxRecDepth 100000 in
theorem cX12_tells_4 (l : Launch) (K : zK) (sz : Nat) (a0 : Nat) (a1 : Nat) (a2 : Nat) (a3 : Nat) (a4 : Nat) (a5 : Nat) (a6 : Nat) (a7 : Nat) (g0 : Nat → Value) (f1 : Nat → Int32) (f2 : Nat → Int32) (f3 : Nat → Int32) (f4 : Nat → Int32) (f5 : Nat → Int32) (f6 : Nat → Int32) (f7 : Nat → Int32) (j0 : Nat) (hj0 : j0 < 4) (e0 : g0 1 = (.ref a1)) (e1 : g0 0 = (.int 0)) (e2 : g0 2 = (.ref a2)) (e3 : g0 3 = (.ref a3)) (e4 : g0 4 = (.ref a4)) (e5 : g0 6 = (.ref a5)) (e6 : g0 5 = (.ref a6)) (e7 : g0 7 = (.ref a7)) : Met l yX12_tells (Cond.code yX12_tells cX12_tells 11 (some .int) :: WG) { frames := 0, cells := 0, slots := 0, locals := 0 } (zPre K [(a0, zO 10 83 g0), (a1, zI K 200 f1), (a2, zI K 200 f2), (a3, zI K 200 f3), (a4, zI K 200 f4), (a5, zI K 600 f5), (a6, zI K 200 f6), (a7, zI K 200 f7)] sz [.ref a0, .int 7, .int (nI j0), .int 0, .int (-1), .int (-1), .int (-1)]) (va_Qi (fun (r : Int32) (_ : Nat → Nat) => r = 0) (zB K (va_A [(a0, zO 10 83 g0), (a1, zI K 200 f1), (a2, zI K 200 f2), (a3, zI K 200 f3), (a4, zI K 200 f4), (a5, zI K 600 f5), (a6, zI K 200 f6), (a7, zI K 200 f7)] sz) (fun u : Nat → Nat => [(a0, zO 10 83 (va_up g0 0 (.int 1))), (a1, zI K 200 (va_up f1 0 7)), (a2, zI K 200 (va_up f2 0 (nI j0))), (a3, zI K 200 (va_up f3 0 0)), (a4, zI K 200 (va_up f4 0 0)), (a5, zI K 600 (va_up (va_up (va_up f5 0 (-1)) 1 (-1)) 2 (-1))), (a6, zI K 200 (va_up f6 0 0)), (a7, zI K 200 (va_up f7 0 1))])) (va_A [(a0, zO 10 83 g0), (a1, zI K 200 f1), (a2, zI K 200 f2), (a3, zI K 200 f3), (a4, zI K 200 f4), (a5, zI K 600 f5), (a6, zI K 200 f6), (a7, zI K 200 f7)] sz)) 0 0 (va_A [(a0, zO 10 83 g0), (a1, zI K 200 f1), (a2, zI K 200 f2), (a3, zI K 200 f3), (a4, zI K 200 f4), (a5, zI K 600 f5), (a6, zI K 200 f6), (a7, zI K 200 f7)] sz) := by
  refine z_met (Qc := fun A => (va_Qi (fun (r : Int32) (_ : Nat → Nat) => r = 0) (zB K A (fun u : Nat → Nat => [(a0, zO 10 83 (va_up g0 0 (.int 1))), (a1, zI K 200 (va_up f1 0 7)), (a2, zI K 200 (va_up f2 0 (nI j0))), (a3, zI K 200 (va_up f3 0 0)), (a4, zI K 200 (va_up f4 0 0)), (a5, zI K 600 (va_up (va_up (va_up f5 0 (-1)) 1 (-1)) 2 (-1))), (a6, zI K 200 (va_up f6 0 0)), (a7, zI K 200 (va_up f7 0 1))])) A)) (by decide +kernel) (Nat.le_of_ble_eq_true rfl) ?_
  intro p e s m args below meth c A ls H hx hb hr hg hown hlocks hml hin hK hP hD hA hS hZ hl
  have hown : s.vm.findClass RX12 = some m.cls := hown
  have hl : lv_has ls 11 [(0, .ref a0), (1, .int 7), (2, .int (nI j0)), (3, .int 0), (4, .int (-1)), (5, .int (-1)), (6, .int (-1))] := hl
  refine lv_aload_n hx hb dX12_tells_0 rfl (lv_at hl 0 rfl) ?_
  refine z_get (v := .ref a1) hx hb hg hown hK hP i_X12 rfl 0 rfl 1 (by decide) mt1281 e0 dX12_tells_1 ?_
  refine lv_aload_n hx hb dX12_tells_4 rfl (lv_at hl 0 rfl) ?_
  refine z_get (v := .int 0) hx hb hg hown hK hP i_X12 rfl 0 rfl 0 (by decide) mt1280 e1 dX12_tells_5 ?_
  refine lv_iload_n hx hb dX12_tells_8 rfl (lv_at hl 1 rfl) ?_
  refine z_iast (j := 0) hx hb hK hP hD hS 1 rfl rfl (Nat.le_of_ble_eq_true rfl) (Nat.le_of_ble_eq_true rfl) dX12_tells_9 (fun ff1 H locs y2 hP hD hS => ?_)
  have hP : va_P K.1 classes [(a0, zO 10 83 g0), (a1, zI K 200 ff1), (a2, zI K 200 f2), (a3, zI K 200 f3), (a4, zI K 200 f4), (a5, zI K 600 f5), (a6, zI K 200 f6), (a7, zI K 200 f7)] H := hP
  have hD : va_D A [(a0, zO 10 83 g0), (a1, zI K 200 ff1), (a2, zI K 200 f2), (a3, zI K 200 f3), (a4, zI K 200 f4), (a5, zI K 600 f5), (a6, zI K 200 f6), (a7, zI K 200 f7)] := hD
  refine lv_aload_n hx hb dX12_tells_10 rfl (lv_at hl 0 rfl) ?_
  refine z_get (v := .ref a2) hx hb hg hown hK hP i_X12 rfl 0 rfl 2 (by decide) mt1282 e2 dX12_tells_11 ?_
  refine lv_aload_n hx hb dX12_tells_14 rfl (lv_at hl 0 rfl) ?_
  refine z_get (v := .int 0) hx hb hg hown hK hP i_X12 rfl 0 rfl 0 (by decide) mt1280 e1 dX12_tells_15 ?_
  refine lv_iload_n hx hb dX12_tells_18 rfl (lv_at hl 2 rfl) ?_
  refine z_iast (j := 0) hx hb hK hP hD hS 2 rfl rfl (Nat.le_of_ble_eq_true rfl) (Nat.le_of_ble_eq_true rfl) dX12_tells_19 (fun ff3 H locs y4 hP hD hS => ?_)
  have hP : va_P K.1 classes [(a0, zO 10 83 g0), (a1, zI K 200 ff1), (a2, zI K 200 ff3), (a3, zI K 200 f3), (a4, zI K 200 f4), (a5, zI K 600 f5), (a6, zI K 200 f6), (a7, zI K 200 f7)] H := hP
  have hD : va_D A [(a0, zO 10 83 g0), (a1, zI K 200 ff1), (a2, zI K 200 ff3), (a3, zI K 200 f3), (a4, zI K 200 f4), (a5, zI K 600 f5), (a6, zI K 200 f6), (a7, zI K 200 f7)] := hD
  refine lv_aload_n hx hb dX12_tells_20 rfl (lv_at hl 0 rfl) ?_
  refine z_get (v := .ref a3) hx hb hg hown hK hP i_X12 rfl 0 rfl 3 (by decide) mt1283 e3 dX12_tells_21 ?_
  refine lv_aload_n hx hb dX12_tells_24 rfl (lv_at hl 0 rfl) ?_
  refine z_get (v := .int 0) hx hb hg hown hK hP i_X12 rfl 0 rfl 0 (by decide) mt1280 e1 dX12_tells_25 ?_
  refine lv_iload_n hx hb dX12_tells_28 rfl (lv_at hl 3 rfl) ?_
  refine z_iast (j := 0) hx hb hK hP hD hS 3 rfl rfl (Nat.le_of_ble_eq_true rfl) (Nat.le_of_ble_eq_true rfl) dX12_tells_29 (fun ff5 H locs y6 hP hD hS => ?_)
  have hP : va_P K.1 classes [(a0, zO 10 83 g0), (a1, zI K 200 ff1), (a2, zI K 200 ff3), (a3, zI K 200 ff5), (a4, zI K 200 f4), (a5, zI K 600 f5), (a6, zI K 200 f6), (a7, zI K 200 f7)] H := hP
  have hD : va_D A [(a0, zO 10 83 g0), (a1, zI K 200 ff1), (a2, zI K 200 ff3), (a3, zI K 200 ff5), (a4, zI K 200 f4), (a5, zI K 600 f5), (a6, zI K 200 f6), (a7, zI K 200 f7)] := hD
  refine lv_aload_n hx hb dX12_tells_30 rfl (lv_at hl 0 rfl) ?_
  refine z_get (v := .ref a4) hx hb hg hown hK hP i_X12 rfl 0 rfl 4 (by decide) mt1284 e4 dX12_tells_31 ?_
  refine lv_aload_n hx hb dX12_tells_34 rfl (lv_at hl 0 rfl) ?_
  refine z_get (v := .int 0) hx hb hg hown hK hP i_X12 rfl 0 rfl 0 (by decide) mt1280 e1 dX12_tells_35 ?_
  refine lv_iconst (v := 0) hx hb dX12_tells_38 (by decide) ?_
  refine z_iast (j := 0) hx hb hK hP hD hS 4 rfl rfl (Nat.le_of_ble_eq_true rfl) (Nat.le_of_ble_eq_true rfl) dX12_tells_39 (fun ff7 H locs y8 hP hD hS => ?_)
  have hP : va_P K.1 classes [(a0, zO 10 83 g0), (a1, zI K 200 ff1), (a2, zI K 200 ff3), (a3, zI K 200 ff5), (a4, zI K 200 ff7), (a5, zI K 600 f5), (a6, zI K 200 f6), (a7, zI K 200 f7)] H := hP
  have hD : va_D A [(a0, zO 10 83 g0), (a1, zI K 200 ff1), (a2, zI K 200 ff3), (a3, zI K 200 ff5), (a4, zI K 200 ff7), (a5, zI K 600 f5), (a6, zI K 200 f6), (a7, zI K 200 f7)] := hD
  refine lv_aload_n hx hb dX12_tells_40 rfl (lv_at hl 0 rfl) ?_
  refine z_get (v := .ref a5) hx hb hg hown hK hP i_X12 rfl 0 rfl 6 (by decide) mt1286 e5 dX12_tells_41 ?_
  refine lv_iconst (v := 3) hx hb dX12_tells_44 (by decide) ?_
  refine lv_aload_n hx hb dX12_tells_45 rfl (lv_at hl 0 rfl) ?_
  refine z_get (v := .int 0) hx hb hg hown hK hP i_X12 rfl 0 rfl 0 (by decide) mt1280 e1 dX12_tells_46 ?_
  refine lv_imul hx hb dX12_tells_49 ?_
  refine z_cst (v := 0) (by decide +kernel) ?_
  refine lv_iload hx hb dX12_tells_50 (lv_at hl 4 rfl) ?_
  refine z_iast (j := 0) hx hb hK hP hD hS 5 rfl rfl (Nat.le_of_ble_eq_true rfl) (Nat.le_of_ble_eq_true rfl) dX12_tells_52 (fun ff9 H locs y10 hP hD hS => ?_)
  have hP : va_P K.1 classes [(a0, zO 10 83 g0), (a1, zI K 200 ff1), (a2, zI K 200 ff3), (a3, zI K 200 ff5), (a4, zI K 200 ff7), (a5, zI K 600 ff9), (a6, zI K 200 f6), (a7, zI K 200 f7)] H := hP
  have hD : va_D A [(a0, zO 10 83 g0), (a1, zI K 200 ff1), (a2, zI K 200 ff3), (a3, zI K 200 ff5), (a4, zI K 200 ff7), (a5, zI K 600 ff9), (a6, zI K 200 f6), (a7, zI K 200 f7)] := hD
  refine lv_aload_n hx hb dX12_tells_53 rfl (lv_at hl 0 rfl) ?_
  refine z_get (v := .ref a5) hx hb hg hown hK hP i_X12 rfl 0 rfl 6 (by decide) mt1286 e5 dX12_tells_54 ?_
  refine lv_iconst (v := 3) hx hb dX12_tells_57 (by decide) ?_
  refine lv_aload_n hx hb dX12_tells_58 rfl (lv_at hl 0 rfl) ?_
  refine z_get (v := .int 0) hx hb hg hown hK hP i_X12 rfl 0 rfl 0 (by decide) mt1280 e1 dX12_tells_59 ?_
  refine lv_imul hx hb dX12_tells_62 ?_
  refine z_cst (v := 0) (by decide +kernel) ?_
  refine lv_iconst (v := 1) hx hb dX12_tells_63 (by decide) ?_
  refine lv_iadd hx hb dX12_tells_64 ?_
  refine z_cst (v := 1) (by decide +kernel) ?_
  refine lv_iload hx hb dX12_tells_65 (lv_at hl 5 rfl) ?_
  refine z_iast (j := 1) hx hb hK hP hD hS 5 rfl rfl (Nat.le_of_ble_eq_true rfl) (Nat.le_of_ble_eq_true rfl) dX12_tells_67 (fun ff11 H locs y12 hP hD hS => ?_)
  have hP : va_P K.1 classes [(a0, zO 10 83 g0), (a1, zI K 200 ff1), (a2, zI K 200 ff3), (a3, zI K 200 ff5), (a4, zI K 200 ff7), (a5, zI K 600 ff11), (a6, zI K 200 f6), (a7, zI K 200 f7)] H := hP
  have hD : va_D A [(a0, zO 10 83 g0), (a1, zI K 200 ff1), (a2, zI K 200 ff3), (a3, zI K 200 ff5), (a4, zI K 200 ff7), (a5, zI K 600 ff11), (a6, zI K 200 f6), (a7, zI K 200 f7)] := hD
  refine lv_aload_n hx hb dX12_tells_68 rfl (lv_at hl 0 rfl) ?_
  refine z_get (v := .ref a5) hx hb hg hown hK hP i_X12 rfl 0 rfl 6 (by decide) mt1286 e5 dX12_tells_69 ?_
  refine lv_iconst (v := 3) hx hb dX12_tells_72 (by decide) ?_
  refine lv_aload_n hx hb dX12_tells_73 rfl (lv_at hl 0 rfl) ?_
  refine z_get (v := .int 0) hx hb hg hown hK hP i_X12 rfl 0 rfl 0 (by decide) mt1280 e1 dX12_tells_74 ?_
  refine lv_imul hx hb dX12_tells_77 ?_
  refine z_cst (v := 0) (by decide +kernel) ?_
  refine lv_iconst (v := 2) hx hb dX12_tells_78 (by decide) ?_
  refine lv_iadd hx hb dX12_tells_79 ?_
  refine z_cst (v := 2) (by decide +kernel) ?_
  refine lv_iload hx hb dX12_tells_80 (lv_at hl 6 rfl) ?_
  refine z_iast (j := 2) hx hb hK hP hD hS 5 rfl rfl (Nat.le_of_ble_eq_true rfl) (Nat.le_of_ble_eq_true rfl) dX12_tells_82 (fun ff13 H locs y14 hP hD hS => ?_)
  have hP : va_P K.1 classes [(a0, zO 10 83 g0), (a1, zI K 200 ff1), (a2, zI K 200 ff3), (a3, zI K 200 ff5), (a4, zI K 200 ff7), (a5, zI K 600 ff13), (a6, zI K 200 f6), (a7, zI K 200 f7)] H := hP
  have hD : va_D A [(a0, zO 10 83 g0), (a1, zI K 200 ff1), (a2, zI K 200 ff3), (a3, zI K 200 ff5), (a4, zI K 200 ff7), (a5, zI K 600 ff13), (a6, zI K 200 f6), (a7, zI K 200 f7)] := hD
  refine lv_iconst (v := 1) hx hb dX12_tells_83 (by decide) ?_
  refine lv_istore (lv' := [(7, .int 1), (0, .ref a0), (1, .int 7), (2, .int (nI j0)), (3, .int 0), (4, .int (-1)), (5, .int (-1)), (6, .int (-1))]) hx hb dX12_tells_84 hl (by decide) rfl (fun ls hl => ?_)
  refine lv_iconst (v := 0) hx hb dX12_tells_86 (by decide) ?_
  refine lv_istore (lv' := [(8, .int 0), (7, .int 1), (0, .ref a0), (1, .int 7), (2, .int (nI j0)), (3, .int 0), (4, .int (-1)), (5, .int (-1)), (6, .int (-1))]) hx hb dX12_tells_87 hl (by decide) rfl (fun ls hl => ?_)
  refine lv_iconst (v := 0) hx hb dX12_tells_89 (by decide) ?_
  refine lv_istore (lv' := [(9, .int 0), (8, .int 0), (7, .int 1), (0, .ref a0), (1, .int 7), (2, .int (nI j0)), (3, .int 0), (4, .int (-1)), (5, .int (-1)), (6, .int (-1))]) hx hb dX12_tells_90 hl (by decide) rfl (fun ls hl => ?_)
  refine lv_iload hx hb dX12_tells_92 (lv_at hl 0 rfl) ?_
  refine lv_iconst (v := 3) hx hb dX12_tells_94 (by decide) ?_
  refine lv_icmp_ge (tgt := 158) hx hb dX12_tells_95 (by decide) (fun c => absurd c (by decide)) (fun _ => ?_)
  refine lv_aload_n hx hb dX12_tells_98 rfl (lv_at hl 3 rfl) ?_
  refine z_get (v := .ref a5) hx hb hg hown hK hP i_X12 rfl 0 rfl 6 (by decide) mt1286 e5 dX12_tells_99 ?_
  refine lv_iconst (v := 3) hx hb dX12_tells_102 (by decide) ?_
  refine lv_aload_n hx hb dX12_tells_103 rfl (lv_at hl 3 rfl) ?_
  refine z_get (v := .int 0) hx hb hg hown hK hP i_X12 rfl 0 rfl 0 (by decide) mt1280 e1 dX12_tells_104 ?_
  refine lv_imul hx hb dX12_tells_107 ?_
  refine z_cst (v := 0) (by decide +kernel) ?_
  refine lv_iload hx hb dX12_tells_108 (lv_at hl 0 rfl) ?_
  refine lv_iadd hx hb dX12_tells_110 ?_
  refine z_cst (v := 0) (by decide +kernel) ?_
  refine z_iald (v := (-1)) (j := 0) hx hb hK hP 5 rfl rfl (Nat.le_of_ble_eq_true rfl) (Nat.le_of_ble_eq_true rfl) (zu_of y14 (zu_ne (by decide) (zu_of y12 (zu_ne (by decide) (zu_of y10 zu_eq))))) dX12_tells_111 ?_
  refine lv_istore (lv' := [(10, .int (-1)), (9, .int 0), (8, .int 0), (7, .int 1), (0, .ref a0), (1, .int 7), (2, .int (nI j0)), (3, .int 0), (4, .int (-1)), (5, .int (-1)), (6, .int (-1))]) hx hb dX12_tells_112 hl (by decide) rfl (fun ls hl => ?_)
  refine lv_iload hx hb dX12_tells_114 (lv_at hl 2 rfl) ?_
  refine lv_iload hx hb dX12_tells_116 (lv_at hl 0 rfl) ?_
  refine lv_iconst (v := (-1)) hx hb dX12_tells_118 (by decide) ?_
  refine lv_icmp_ne (tgt := 126) hx hb dX12_tells_119 (by decide) (fun c => absurd (by decide) c) (fun _ => ?_)
  refine lv_iconst (v := 0) hx hb dX12_tells_122 (by decide) ?_
  refine lv_goto (tgt := 127) hx hb dX12_tells_123 (by decide) ?_
  refine lv_iadd hx hb dX12_tells_127 ?_
  refine z_cst (v := 0) (by decide +kernel) ?_
  refine lv_istore (lv' := [(8, .int 0), (10, .int (-1)), (9, .int 0), (7, .int 1), (0, .ref a0), (1, .int 7), (2, .int (nI j0)), (3, .int 0), (4, .int (-1)), (5, .int (-1)), (6, .int (-1))]) hx hb dX12_tells_128 hl (by decide) rfl (fun ls hl => ?_)
  refine lv_iload hx hb dX12_tells_130 (lv_at hl 3 rfl) ?_
  refine lv_iload hx hb dX12_tells_132 (lv_at hl 1 rfl) ?_
  refine lv_iconst (v := (-1)) hx hb dX12_tells_134 (by decide) ?_
  refine lv_icmp_ne (tgt := 142) hx hb dX12_tells_135 (by decide) (fun c => absurd (by decide) c) (fun _ => ?_)
  refine lv_iconst (v := 0) hx hb dX12_tells_138 (by decide) ?_
  refine lv_goto (tgt := 149) hx hb dX12_tells_139 (by decide) ?_
  refine lv_iadd hx hb dX12_tells_149 ?_
  refine z_cst (v := 1) (by decide +kernel) ?_
  refine lv_istore (lv' := [(7, .int 1), (8, .int 0), (10, .int (-1)), (9, .int 0), (0, .ref a0), (1, .int 7), (2, .int (nI j0)), (3, .int 0), (4, .int (-1)), (5, .int (-1)), (6, .int (-1))]) hx hb dX12_tells_150 hl (by decide) rfl (fun ls hl => ?_)
  refine lv_iinc (v := 1) (lv' := [(9, .int 1), (7, .int 1), (8, .int 0), (10, .int (-1)), (0, .ref a0), (1, .int 7), (2, .int (nI j0)), (3, .int 0), (4, .int (-1)), (5, .int (-1)), (6, .int (-1))]) hx hb dX12_tells_152 hl (k := 3) rfl (by decide +kernel) (by decide) rfl (fun ls hl => ?_)
  refine lv_goto (tgt := 92) hx hb dX12_tells_155 (by decide) ?_
  refine lv_iload hx hb dX12_tells_92 (lv_at hl 0 rfl) ?_
  refine lv_iconst (v := 3) hx hb dX12_tells_94 (by decide) ?_
  refine lv_icmp_ge (tgt := 158) hx hb dX12_tells_95 (by decide) (fun c => absurd c (by decide)) (fun _ => ?_)
  refine lv_aload_n hx hb dX12_tells_98 rfl (lv_at hl 4 rfl) ?_
  refine z_get (v := .ref a5) hx hb hg hown hK hP i_X12 rfl 0 rfl 6 (by decide) mt1286 e5 dX12_tells_99 ?_
  refine lv_iconst (v := 3) hx hb dX12_tells_102 (by decide) ?_
  refine lv_aload_n hx hb dX12_tells_103 rfl (lv_at hl 4 rfl) ?_
  refine z_get (v := .int 0) hx hb hg hown hK hP i_X12 rfl 0 rfl 0 (by decide) mt1280 e1 dX12_tells_104 ?_
  refine lv_imul hx hb dX12_tells_107 ?_
  refine z_cst (v := 0) (by decide +kernel) ?_
  refine lv_iload hx hb dX12_tells_108 (lv_at hl 0 rfl) ?_
  refine lv_iadd hx hb dX12_tells_110 ?_
  refine z_cst (v := 1) (by decide +kernel) ?_
  refine z_iald (v := (-1)) (j := 1) hx hb hK hP 5 rfl rfl (Nat.le_of_ble_eq_true rfl) (Nat.le_of_ble_eq_true rfl) (zu_of y14 (zu_ne (by decide) (zu_of y12 zu_eq))) dX12_tells_111 ?_
  refine lv_istore (lv' := [(10, .int (-1)), (9, .int 1), (7, .int 1), (8, .int 0), (0, .ref a0), (1, .int 7), (2, .int (nI j0)), (3, .int 0), (4, .int (-1)), (5, .int (-1)), (6, .int (-1))]) hx hb dX12_tells_112 hl (by decide) rfl (fun ls hl => ?_)
  refine lv_iload hx hb dX12_tells_114 (lv_at hl 3 rfl) ?_
  refine lv_iload hx hb dX12_tells_116 (lv_at hl 0 rfl) ?_
  refine lv_iconst (v := (-1)) hx hb dX12_tells_118 (by decide) ?_
  refine lv_icmp_ne (tgt := 126) hx hb dX12_tells_119 (by decide) (fun c => absurd (by decide) c) (fun _ => ?_)
  refine lv_iconst (v := 0) hx hb dX12_tells_122 (by decide) ?_
  refine lv_goto (tgt := 127) hx hb dX12_tells_123 (by decide) ?_
  refine lv_iadd hx hb dX12_tells_127 ?_
  refine z_cst (v := 0) (by decide +kernel) ?_
  refine lv_istore (lv' := [(8, .int 0), (10, .int (-1)), (9, .int 1), (7, .int 1), (0, .ref a0), (1, .int 7), (2, .int (nI j0)), (3, .int 0), (4, .int (-1)), (5, .int (-1)), (6, .int (-1))]) hx hb dX12_tells_128 hl (by decide) rfl (fun ls hl => ?_)
  refine lv_iload hx hb dX12_tells_130 (lv_at hl 3 rfl) ?_
  refine lv_iload hx hb dX12_tells_132 (lv_at hl 1 rfl) ?_
  refine lv_iconst (v := (-1)) hx hb dX12_tells_134 (by decide) ?_
  refine lv_icmp_ne (tgt := 142) hx hb dX12_tells_135 (by decide) (fun c => absurd (by decide) c) (fun _ => ?_)
  refine lv_iconst (v := 0) hx hb dX12_tells_138 (by decide) ?_
  refine lv_goto (tgt := 149) hx hb dX12_tells_139 (by decide) ?_
  refine lv_iadd hx hb dX12_tells_149 ?_
  refine z_cst (v := 1) (by decide +kernel) ?_
  refine lv_istore (lv' := [(7, .int 1), (8, .int 0), (10, .int (-1)), (9, .int 1), (0, .ref a0), (1, .int 7), (2, .int (nI j0)), (3, .int 0), (4, .int (-1)), (5, .int (-1)), (6, .int (-1))]) hx hb dX12_tells_150 hl (by decide) rfl (fun ls hl => ?_)
  refine lv_iinc (v := 2) (lv' := [(9, .int 2), (7, .int 1), (8, .int 0), (10, .int (-1)), (0, .ref a0), (1, .int 7), (2, .int (nI j0)), (3, .int 0), (4, .int (-1)), (5, .int (-1)), (6, .int (-1))]) hx hb dX12_tells_152 hl (k := 3) rfl (by decide +kernel) (by decide) rfl (fun ls hl => ?_)
  refine lv_goto (tgt := 92) hx hb dX12_tells_155 (by decide) ?_
  refine lv_iload hx hb dX12_tells_92 (lv_at hl 0 rfl) ?_
  refine lv_iconst (v := 3) hx hb dX12_tells_94 (by decide) ?_
  refine lv_icmp_ge (tgt := 158) hx hb dX12_tells_95 (by decide) (fun c => absurd c (by decide)) (fun _ => ?_)
  refine lv_aload_n hx hb dX12_tells_98 rfl (lv_at hl 4 rfl) ?_
  refine z_get (v := .ref a5) hx hb hg hown hK hP i_X12 rfl 0 rfl 6 (by decide) mt1286 e5 dX12_tells_99 ?_
  refine lv_iconst (v := 3) hx hb dX12_tells_102 (by decide) ?_
  refine lv_aload_n hx hb dX12_tells_103 rfl (lv_at hl 4 rfl) ?_
  refine z_get (v := .int 0) hx hb hg hown hK hP i_X12 rfl 0 rfl 0 (by decide) mt1280 e1 dX12_tells_104 ?_
  refine lv_imul hx hb dX12_tells_107 ?_
  refine z_cst (v := 0) (by decide +kernel) ?_
  refine lv_iload hx hb dX12_tells_108 (lv_at hl 0 rfl) ?_
  refine lv_iadd hx hb dX12_tells_110 ?_
  refine z_cst (v := 2) (by decide +kernel) ?_
  refine z_iald (v := (-1)) (j := 2) hx hb hK hP 5 rfl rfl (Nat.le_of_ble_eq_true rfl) (Nat.le_of_ble_eq_true rfl) (zu_of y14 zu_eq) dX12_tells_111 ?_
  refine lv_istore (lv' := [(10, .int (-1)), (9, .int 2), (7, .int 1), (8, .int 0), (0, .ref a0), (1, .int 7), (2, .int (nI j0)), (3, .int 0), (4, .int (-1)), (5, .int (-1)), (6, .int (-1))]) hx hb dX12_tells_112 hl (by decide) rfl (fun ls hl => ?_)
  refine lv_iload hx hb dX12_tells_114 (lv_at hl 3 rfl) ?_
  refine lv_iload hx hb dX12_tells_116 (lv_at hl 0 rfl) ?_
  refine lv_iconst (v := (-1)) hx hb dX12_tells_118 (by decide) ?_
  refine lv_icmp_ne (tgt := 126) hx hb dX12_tells_119 (by decide) (fun c => absurd (by decide) c) (fun _ => ?_)
  refine lv_iconst (v := 0) hx hb dX12_tells_122 (by decide) ?_
  refine lv_goto (tgt := 127) hx hb dX12_tells_123 (by decide) ?_
  refine lv_iadd hx hb dX12_tells_127 ?_
  refine z_cst (v := 0) (by decide +kernel) ?_
  refine lv_istore (lv' := [(8, .int 0), (10, .int (-1)), (9, .int 2), (7, .int 1), (0, .ref a0), (1, .int 7), (2, .int (nI j0)), (3, .int 0), (4, .int (-1)), (5, .int (-1)), (6, .int (-1))]) hx hb dX12_tells_128 hl (by decide) rfl (fun ls hl => ?_)
  refine lv_iload hx hb dX12_tells_130 (lv_at hl 3 rfl) ?_
  refine lv_iload hx hb dX12_tells_132 (lv_at hl 1 rfl) ?_
  refine lv_iconst (v := (-1)) hx hb dX12_tells_134 (by decide) ?_
  refine lv_icmp_ne (tgt := 142) hx hb dX12_tells_135 (by decide) (fun c => absurd (by decide) c) (fun _ => ?_)
  refine lv_iconst (v := 0) hx hb dX12_tells_138 (by decide) ?_
  refine lv_goto (tgt := 149) hx hb dX12_tells_139 (by decide) ?_
  refine lv_iadd hx hb dX12_tells_149 ?_
  refine z_cst (v := 1) (by decide +kernel) ?_
  refine lv_istore (lv' := [(7, .int 1), (8, .int 0), (10, .int (-1)), (9, .int 2), (0, .ref a0), (1, .int 7), (2, .int (nI j0)), (3, .int 0), (4, .int (-1)), (5, .int (-1)), (6, .int (-1))]) hx hb dX12_tells_150 hl (by decide) rfl (fun ls hl => ?_)
  refine lv_iinc (v := 3) (lv' := [(9, .int 3), (7, .int 1), (8, .int 0), (10, .int (-1)), (0, .ref a0), (1, .int 7), (2, .int (nI j0)), (3, .int 0), (4, .int (-1)), (5, .int (-1)), (6, .int (-1))]) hx hb dX12_tells_152 hl (k := 3) rfl (by decide +kernel) (by decide) rfl (fun ls hl => ?_)
  refine lv_goto (tgt := 92) hx hb dX12_tells_155 (by decide) ?_
  refine lv_iload hx hb dX12_tells_92 (lv_at hl 0 rfl) ?_
  refine lv_iconst (v := 3) hx hb dX12_tells_94 (by decide) ?_
  refine lv_icmp_ge (tgt := 158) hx hb dX12_tells_95 (by decide) (fun _ => ?_) (fun c => absurd (by decide) c)
  refine lv_aload_n hx hb dX12_tells_158 rfl (lv_at hl 4 rfl) ?_
  refine z_get (v := .ref a6) hx hb hg hown hK hP i_X12 rfl 0 rfl 5 (by decide) mt1285 e6 dX12_tells_159 ?_
  refine lv_aload_n hx hb dX12_tells_162 rfl (lv_at hl 4 rfl) ?_
  refine z_get (v := .int 0) hx hb hg hown hK hP i_X12 rfl 0 rfl 0 (by decide) mt1280 e1 dX12_tells_163 ?_
  refine lv_iload hx hb dX12_tells_166 (lv_at hl 2 rfl) ?_
  refine z_iast (j := 0) hx hb hK hP hD hS 6 rfl rfl (Nat.le_of_ble_eq_true rfl) (Nat.le_of_ble_eq_true rfl) dX12_tells_168 (fun ff15 H locs y16 hP hD hS => ?_)
  have hP : va_P K.1 classes [(a0, zO 10 83 g0), (a1, zI K 200 ff1), (a2, zI K 200 ff3), (a3, zI K 200 ff5), (a4, zI K 200 ff7), (a5, zI K 600 ff13), (a6, zI K 200 ff15), (a7, zI K 200 f7)] H := hP
  have hD : va_D A [(a0, zO 10 83 g0), (a1, zI K 200 ff1), (a2, zI K 200 ff3), (a3, zI K 200 ff5), (a4, zI K 200 ff7), (a5, zI K 600 ff13), (a6, zI K 200 ff15), (a7, zI K 200 f7)] := hD
  refine lv_aload_n hx hb dX12_tells_169 rfl (lv_at hl 4 rfl) ?_
  refine z_get (v := .ref a7) hx hb hg hown hK hP i_X12 rfl 0 rfl 7 (by decide) mt1287 e7 dX12_tells_170 ?_
  refine lv_aload_n hx hb dX12_tells_173 rfl (lv_at hl 4 rfl) ?_
  refine z_get (v := .int 0) hx hb hg hown hK hP i_X12 rfl 0 rfl 0 (by decide) mt1280 e1 dX12_tells_174 ?_
  refine lv_iload hx hb dX12_tells_177 (lv_at hl 1 rfl) ?_
  refine lv_sipush (v := 1000) hx hb dX12_tells_179 (by decide) ?_
  refine lv_icmp_le (tgt := 191) hx hb dX12_tells_182 (by decide) (fun _ => ?_) (fun c => absurd (by decide) c)
  refine lv_iload hx hb dX12_tells_191 (lv_at hl 1 rfl) ?_
  refine z_iast (j := 0) hx hb hK hP hD hS 7 rfl rfl (Nat.le_of_ble_eq_true rfl) (Nat.le_of_ble_eq_true rfl) dX12_tells_193 (fun ff17 H locs y18 hP hD hS => ?_)
  have hP : va_P K.1 classes [(a0, zO 10 83 g0), (a1, zI K 200 ff1), (a2, zI K 200 ff3), (a3, zI K 200 ff5), (a4, zI K 200 ff7), (a5, zI K 600 ff13), (a6, zI K 200 ff15), (a7, zI K 200 ff17)] H := hP
  have hD : va_D A [(a0, zO 10 83 g0), (a1, zI K 200 ff1), (a2, zI K 200 ff3), (a3, zI K 200 ff5), (a4, zI K 200 ff7), (a5, zI K 600 ff13), (a6, zI K 200 ff15), (a7, zI K 200 ff17)] := hD
  refine lv_aload_n hx hb dX12_tells_194 rfl (lv_at hl 4 rfl) ?_
  refine lv_dup hx hb dX12_tells_195 rfl ?_
  refine z_get (v := .int 0) hx hb hg hown hK hP i_X12 rfl 0 rfl 0 (by decide) mt1280 e1 dX12_tells_196 ?_
  refine lv_iconst (v := 1) hx hb dX12_tells_199 (by decide) ?_
  refine lv_iadd hx hb dX12_tells_200 ?_
  refine z_cst (v := 1) (by decide +kernel) ?_
  refine z_put hx hb hg hown hK hP hD hS i_X12 rfl tyX12_ok nmX12 0 rfl 0 (by decide) mt1280 rfl rfl rfl dX12_tells_201 (fun gg19 H locs y20 hP hD hS => ?_)
  have hP : va_P K.1 classes [(a0, zO 10 83 gg19), (a1, zI K 200 ff1), (a2, zI K 200 ff3), (a3, zI K 200 ff5), (a4, zI K 200 ff7), (a5, zI K 600 ff13), (a6, zI K 200 ff15), (a7, zI K 200 ff17)] H := hP
  have hD : va_D A [(a0, zO 10 83 gg19), (a1, zI K 200 ff1), (a2, zI K 200 ff3), (a3, zI K 200 ff5), (a4, zI K 200 ff7), (a5, zI K 600 ff13), (a6, zI K 200 ff15), (a7, zI K 200 ff17)] := hD
  refine lv_aload_n hx hb dX12_tells_204 rfl (lv_at hl 4 rfl) ?_
  refine z_get (v := .int 1) hx hb hg hown hK hP i_X12 rfl 0 rfl 0 (by decide) mt1280 (zu_of y20 zu_eq) dX12_tells_205 ?_
  refine lv_iconst (v := 1) hx hb dX12_tells_208 (by decide) ?_
  refine lv_isub hx hb dX12_tells_209 ?_
  refine z_cst (v := 0) (by decide +kernel) ?_
  subst y20
  subst y18
  subst y16
  subst y14
  subst y12
  subst y10
  subst y8
  subst y6
  subst y4
  subst y2
  have hP9 : va_P K.1 classes [(a0, zO 10 83 (va_up g0 0 (.int 1))), (a1, zI K 200 (va_up f1 0 7)), (a2, zI K 200 (va_up f2 0 (nI j0))), (a3, zI K 200 (va_up f3 0 0)), (a4, zI K 200 (va_up f4 0 0)), (a5, zI K 600 (va_up (va_up (va_up f5 0 (-1)) 1 (-1)) 2 (-1))), (a6, zI K 200 (va_up f6 0 0)), (a7, zI K 200 (va_up f7 0 1))] H := hP.sub [0, 1, 2, 3, 4, 5, 6, 7] rfl
  have hD9 : va_D A [(a0, zO 10 83 (va_up g0 0 (.int 1))), (a1, zI K 200 (va_up f1 0 7)), (a2, zI K 200 (va_up f2 0 (nI j0))), (a3, zI K 200 (va_up f3 0 0)), (a4, zI K 200 (va_up f4 0 0)), (a5, zI K 600 (va_up (va_up (va_up f5 0 (-1)) 1 (-1)) 2 (-1))), (a6, zI K 200 (va_up f6 0 0)), (a7, zI K 200 (va_up f7 0 1))] := hD.sub [0, 1, 2, 3, 4, 5, 6, 7] (by decide) rfl
  exact z_iret hx hb hr (fun _ => 0) rfl hP9 hD9 hS (Nat.le_of_ble_eq_true rfl) (Nat.le_of_ble_eq_true rfl) hlocks dX12_tells_210
set_option maxHeartbeats 4000000 in
set_option maxRecDepth 100000 in
theorem cX12_con_2 (l : Launch) (K : zK) (sz : Nat) (a0 : Nat) (a1 : Nat) (a2 : Nat) (a3 : Nat) (a4 : Nat) (a5 : Nat) (a6 : Nat) (a7 : Nat) (g0 : Nat → Value) (f1 : Nat → Int32) (f2 : Nat → Int32) (f3 : Nat → Int32) (f4 : Nat → Int32) (f5 : Nat → Int32) (f6 : Nat → Int32) (f7 : Nat → Int32) (j0 : Nat) (hj0 : j0 < 4) (e0 : g0 0 = (.int 0)) (e1 : g0 1 = (.ref a1)) (e2 : g0 2 = (.ref a2)) (e3 : g0 3 = (.ref a3)) (e4 : g0 4 = (.ref a4)) (e5 : g0 6 = (.ref a5)) (e6 : g0 5 = (.ref a6)) (e7 : g0 7 = (.ref a7)) : Met l yX12_con (Cond.code yX12_con cX12_con 6 (some .int) :: WG) { frames := 2, cells := 0, slots := 0, locals := 43 } (zPre K [(a0, zO 10 83 g0), (a1, zI K 200 f1), (a2, zI K 200 f2), (a3, zI K 200 f3), (a4, zI K 200 f4), (a5, zI K 600 f5), (a6, zI K 200 f6), (a7, zI K 200 f7)] sz [.ref a0, .int (nI j0), .int (-1), .int (-1)]) (va_Qi (fun (r : Int32) (_ : Nat → Nat) => r = 0) (zB K (va_A [(a0, zO 10 83 g0), (a1, zI K 200 f1), (a2, zI K 200 f2), (a3, zI K 200 f3), (a4, zI K 200 f4), (a5, zI K 600 f5), (a6, zI K 200 f6), (a7, zI K 200 f7)] sz) (fun u : Nat → Nat => [(a0, zO 10 83 (va_up (va_up g0 81 (.int 0)) 0 (.int 1)))])) (va_A [(a0, zO 10 83 g0), (a1, zI K 200 f1), (a2, zI K 200 f2), (a3, zI K 200 f3), (a4, zI K 200 f4), (a5, zI K 600 f5), (a6, zI K 200 f6), (a7, zI K 200 f7)] sz)) 0 0 (va_A [(a0, zO 10 83 g0), (a1, zI K 200 f1), (a2, zI K 200 f2), (a3, zI K 200 f3), (a4, zI K 200 f4), (a5, zI K 600 f5), (a6, zI K 200 f6), (a7, zI K 200 f7)] sz) := by
  refine z_met (Qc := fun A => (va_Qi (fun (r : Int32) (_ : Nat → Nat) => r = 0) (zB K A (fun u : Nat → Nat => [(a0, zO 10 83 (va_up (va_up g0 81 (.int 0)) 0 (.int 1)))])) A)) (by decide +kernel) (Nat.le_of_ble_eq_true rfl) ?_
  intro p e s m args below meth c A ls H hx hb hr hg hown hlocks hml hin hK hP hD hA hS hZ hl
  have hown : s.vm.findClass RX12 = some m.cls := hown
  have hl : lv_has ls 6 [(0, .ref a0), (1, .int (nI j0)), (2, .int (-1)), (3, .int (-1))] := hl
  refine lv_iload_n hx hb dX12_con_0 rfl (lv_at hl 2 rfl) ?_
  refine lv_iconst (v := (-1)) hx hb dX12_con_1 (by decide) ?_
  refine lv_icmp_eq (tgt := 13) hx hb dX12_con_2 (by decide) (fun _ => ?_) (fun c => absurd (by decide) c)
  refine lv_iload_n hx hb dX12_con_13 rfl (lv_at hl 3 rfl) ?_
  refine lv_iconst (v := (-1)) hx hb dX12_con_14 (by decide) ?_
  refine lv_icmp_eq (tgt := 26) hx hb dX12_con_15 (by decide) (fun _ => ?_) (fun c => absurd (by decide) c)
  refine lv_iconst (v := 1) hx hb dX12_con_26 (by decide) ?_
  refine lv_goto (tgt := 31) hx hb dX12_con_27 (by decide) ?_
  refine lv_istore (lv' := [(4, .int 1), (0, .ref a0), (1, .int (nI j0)), (2, .int (-1)), (3, .int (-1))]) hx hb dX12_con_31 hl (by decide) rfl (fun ls hl => ?_)
  refine lv_iload hx hb dX12_con_33 (lv_at hl 0 rfl) ?_
  refine lv_if_eq (tgt := 85) hx hb dX12_con_35 (by decide) (fun c => absurd c (by decide)) (fun _ => ?_)
  refine lv_iload_n hx hb dX12_con_38 rfl (lv_at hl 2 rfl) ?_
  refine lv_iconst (v := 0) hx hb dX12_con_39 (by decide) ?_
  refine lv_iconst (v := 3) hx hb dX12_con_40 (by decide) ?_
  refine z_calli [] [(a0, zO 10 83 g0), (a1, zI K 200 f1), (a2, zI K 200 f2), (a3, zI K 200 f3), (a4, zI K 200 f4), (a5, zI K 600 f5), (a6, zI K 200 f6), (a7, zI K 200 f7)] [] [0, 1, 2, 3, 4, 5, 6, 7] hP hD hS hA rfl rfl (by decide) (by decide) (by decide +kernel) 0 0 rfl rfl (fun hPc hDc hF => z_runS (As := [.int (nI j0), .int 0, .int 3]) (rest := []) ⟨hx, hb, hml, hown, hg⟩ (cX12_isIn_10 l K H.size j0 hj0) kS_RX12_175 hd_X12_isIn rfl rfl ⟨(Nat.le_of_ble_eq_true rfl), (Nat.le_of_ble_eq_true rfl)⟩ hK hS hZ hPc hDc hF rfl hl.1 rfl (Nat.le_of_ble_eq_true rfl) dX12_con_41 ⟨(Nat.le_of_ble_eq_true rfl), (Nat.le_of_ble_eq_true rfl)⟩) (fun r3 u1 H locs w2 hP hD hS => ?_)
  subst w2
  have hP : va_P K.1 classes [(a0, zO 10 83 g0), (a1, zI K 200 f1), (a2, zI K 200 f2), (a3, zI K 200 f3), (a4, zI K 200 f4), (a5, zI K 600 f5), (a6, zI K 200 f6), (a7, zI K 200 f7)] H := hP
  have hD : va_D A [(a0, zO 10 83 g0), (a1, zI K 200 f1), (a2, zI K 200 f2), (a3, zI K 200 f3), (a4, zI K 200 f4), (a5, zI K 600 f5), (a6, zI K 200 f6), (a7, zI K 200 f7)] := hD
  refine lv_if_eq (tgt := 85) hx hb dX12_con_44 (by decide) (fun c => absurd c (by decide)) (fun _ => ?_)
  refine lv_iload_n hx hb dX12_con_47 rfl (lv_at hl 3 rfl) ?_
  refine lv_iconst (v := (-1)) hx hb dX12_con_48 (by decide) ?_
  refine lv_icmp_ne (tgt := 60) hx hb dX12_con_49 (by decide) (fun c => absurd (by decide) c) (fun _ => ?_)
  refine lv_iload_n hx hb dX12_con_52 rfl (lv_at hl 4 rfl) ?_
  refine lv_iconst (v := (-1)) hx hb dX12_con_53 (by decide) ?_
  refine lv_icmp_ne (tgt := 85) hx hb dX12_con_54 (by decide) (fun c => absurd (by decide) c) (fun _ => ?_)
  refine lv_goto (tgt := 81) hx hb dX12_con_57 (by decide) ?_
  refine lv_iconst (v := 1) hx hb dX12_con_81 (by decide) ?_
  refine lv_goto (tgt := 86) hx hb dX12_con_82 (by decide) ?_
  refine lv_istore (lv' := [(5, .int 1), (4, .int 1), (0, .ref a0), (1, .int (nI j0)), (2, .int (-1)), (3, .int (-1))]) hx hb dX12_con_86 hl (by decide) rfl (fun ls hl => ?_)
  refine lv_aload_n hx hb dX12_con_88 rfl (lv_at hl 2 rfl) ?_
  refine lv_iload hx hb dX12_con_89 (lv_at hl 1 rfl) ?_
  refine lv_iload hx hb dX12_con_91 (lv_at hl 0 rfl) ?_
  refine z_calli [(a0, zO 10 83 g0)] [(a1, zI K 200 f1), (a2, zI K 200 f2), (a3, zI K 200 f3), (a4, zI K 200 f4), (a5, zI K 600 f5), (a6, zI K 200 f6), (a7, zI K 200 f7)] [0] [1, 2, 3, 4, 5, 6, 7] hP hD hS hA rfl rfl (by decide) (by decide) (by decide +kernel) 0 0 rfl rfl (fun hPc hDc hF => z_runV (As := [.int 1, .int 1]) (rest := []) ⟨hx, hb, hml, hown, hg⟩ (cX12_mayTell_4 l K H.size a0 g0 e0) kV_RX12_203 hd_X12_mayTell rfl rfl ⟨(Nat.le_of_ble_eq_true rfl), (Nat.le_of_ble_eq_true rfl)⟩ hK hS hZ hPc hDc hF 0 rfl rfl rfl hl.1 rfl (Nat.le_of_ble_eq_true rfl) dX12_con_93 ⟨(Nat.le_of_ble_eq_true rfl), (Nat.le_of_ble_eq_true rfl)⟩) (fun r6 u4 H locs w5 hP hD hS => ?_)
  subst w5
  have hP : va_P K.1 classes [(a1, zI K 200 f1), (a2, zI K 200 f2), (a3, zI K 200 f3), (a4, zI K 200 f4), (a5, zI K 600 f5), (a6, zI K 200 f6), (a7, zI K 200 f7), (a0, zO 10 83 (va_up g0 81 (.int 0)))] H := hP
  have hD : va_D A [(a1, zI K 200 f1), (a2, zI K 200 f2), (a3, zI K 200 f3), (a4, zI K 200 f4), (a5, zI K 600 f5), (a6, zI K 200 f6), (a7, zI K 200 f7), (a0, zO 10 83 (va_up g0 81 (.int 0)))] := hD
  refine lv_if_eq (tgt := 113) hx hb dX12_con_96 (by decide) (fun c => absurd c (by decide)) (fun _ => ?_)
  refine lv_aload_n hx hb dX12_con_99 rfl (lv_at hl 2 rfl) ?_
  refine lv_bipush (v := 7) hx hb dX12_con_100 (by decide) ?_
  refine lv_iload_n hx hb dX12_con_102 rfl (lv_at hl 3 rfl) ?_
  refine lv_iconst (v := 0) hx hb dX12_con_103 (by decide) ?_
  refine lv_iload_n hx hb dX12_con_104 rfl (lv_at hl 4 rfl) ?_
  refine lv_iload_n hx hb dX12_con_105 rfl (lv_at hl 5 rfl) ?_
  refine lv_iconst (v := (-1)) hx hb dX12_con_106 (by decide) ?_
  refine z_calli [(a0, zO 10 83 (va_up g0 81 (.int 0))), (a1, zI K 200 f1), (a2, zI K 200 f2), (a3, zI K 200 f3), (a4, zI K 200 f4), (a5, zI K 600 f5), (a6, zI K 200 f6), (a7, zI K 200 f7)] [] [7, 0, 1, 2, 3, 4, 5, 6] [] hP hD hS hA rfl rfl (by decide) (by decide) (by decide +kernel) 0 0 rfl rfl (fun hPc hDc hF => z_runV (As := [.int 7, .int (nI j0), .int 0, .int (-1), .int (-1), .int (-1)]) (rest := []) ⟨hx, hb, hml, hown, hg⟩ (cX12_tells_4 l K H.size a0 a1 a2 a3 a4 a5 a6 a7 (va_up g0 81 (.int 0)) f1 f2 f3 f4 f5 f6 f7 j0 hj0 (zu_ne (by decide) e1) (zu_ne (by decide) e0) (zu_ne (by decide) e2) (zu_ne (by decide) e3) (zu_ne (by decide) e4) (zu_ne (by decide) e5) (zu_ne (by decide) e6) (zu_ne (by decide) e7)) kV_RX12_186 hd_X12_tells rfl rfl ⟨(Nat.le_of_ble_eq_true rfl), (Nat.le_of_ble_eq_true rfl)⟩ hK hS hZ hPc hDc hF 0 rfl rfl rfl hl.1 rfl (Nat.le_of_ble_eq_true rfl) dX12_con_107 ⟨(Nat.le_of_ble_eq_true rfl), (Nat.le_of_ble_eq_true rfl)⟩) (fun r9 u7 H locs w8 hP hD hS => ?_)
  subst w8
  have hP : va_P K.1 classes [(a0, zO 10 83 (va_up (va_up g0 81 (.int 0)) 0 (.int 1))), (a1, zI K 200 (va_up f1 0 7)), (a2, zI K 200 (va_up f2 0 (nI j0))), (a3, zI K 200 (va_up f3 0 0)), (a4, zI K 200 (va_up f4 0 0)), (a5, zI K 600 (va_up (va_up (va_up f5 0 (-1)) 1 (-1)) 2 (-1))), (a6, zI K 200 (va_up f6 0 0)), (a7, zI K 200 (va_up f7 0 1))] H := hP
  have hD : va_D A [(a0, zO 10 83 (va_up (va_up g0 81 (.int 0)) 0 (.int 1))), (a1, zI K 200 (va_up f1 0 7)), (a2, zI K 200 (va_up f2 0 (nI j0))), (a3, zI K 200 (va_up f3 0 0)), (a4, zI K 200 (va_up f4 0 0)), (a5, zI K 600 (va_up (va_up (va_up f5 0 (-1)) 1 (-1)) 2 (-1))), (a6, zI K 200 (va_up f6 0 0)), (a7, zI K 200 (va_up f7 0 1))] := hD
  obtain ⟨gg10, y11⟩ : ∃ z, z = ((va_up (va_up g0 81 (.int 0)) 0 (.int 1)) : Nat → Value) := ⟨_, rfl⟩
  rw [← y11] at hP hD
  obtain ⟨ff12, y13⟩ : ∃ z, z = ((va_up (va_up (va_up f5 0 (-1)) 1 (-1)) 2 (-1)) : Nat → Int32) := ⟨_, rfl⟩
  rw [← y13] at hP hD
  refine lv_goto (tgt := 114) hx hb dX12_con_110 (by decide) ?_
  subst y13
  subst y11
  have hP9 : va_P K.1 classes [(a0, zO 10 83 (va_up (va_up g0 81 (.int 0)) 0 (.int 1)))] H := hP.sub [0] rfl
  have hD9 : va_D A [(a0, zO 10 83 (va_up (va_up g0 81 (.int 0)) 0 (.int 1)))] := hD.sub [0] (by decide) rfl
  exact z_iret hx hb hr (fun _ => 0) rfl hP9 hD9 hS (Nat.le_of_ble_eq_true rfl) (Nat.le_of_ble_eq_true rfl) hlocks dX12_con_114
set_option maxHeartbeats 4000000 in
set_option maxRecDepth 100000 in
theorem cX11_checkRange_9 (l : Launch) (hl9 : l.stackTraces = false) (K : zK) (sz : Nat) (a0 : Nat) (g0 : Nat → Value) (x0 : Int32) (e0 : ¬ x0 < (0 : Int32)) (e1 : ¬ x0 < (4 : Int32)) : vx_Met l yX11_checkRange (Cond.code yX11_checkRange cX11_checkRange 3 none :: WG) { frames := 6, cells := 1, slots := 6, locals := 82 } (zPre K [(a0, zO 9 9 g0)] sz [.ref a0, .int x0, .int 4]) (va_Qv (fun _ : Unit => False) (fun _ _ => True) (va_A [(a0, zO 9 9 g0)] sz)) (zX (va_A [(a0, zO 9 9 g0)] sz) zIA) 1 6 (va_A [(a0, zO 9 9 g0)] sz) := by
  refine z_xmet (Qc := fun A => va_Qv (fun _ : Unit => False) (fun _ _ => True) A) (XC := fun A => zX A zIA) (by decide +kernel) (Nat.le_of_ble_eq_true rfl) ?_
  intro p e s m args below meth c A ls H hx hb hr hg hown hlocks hml hno hK hP hD hA hS hZ hl
  have hown : s.vm.findClass RX11 = some m.cls := hown
  have hl : lv_has ls 3 [(0, .ref a0), (1, .int x0), (2, .int 4)] := hl
  refine lv_iload_n hx hb dX11_checkRange_0 rfl (lv_at hl 1 rfl) ?_
  refine lv_if_lt (tgt := 9) hx hb dX11_checkRange_1 (by decide) (fun c => absurd c e0) (fun _ => ?_)
  refine lv_iload_n hx hb dX11_checkRange_4 rfl (lv_at hl 1 rfl) ?_
  refine lv_iload_n hx hb dX11_checkRange_5 rfl (lv_at hl 2 rfl) ?_
  refine lv_icmp_lt (tgt := 19) hx hb dX11_checkRange_6 (by decide) (fun c => absurd c e1) (fun _ => ?_)
  exact z_throw (ik := 82) (is := 183) (ic := 86) hx hb hl9 hg hown (by decide +kernel) mt500 mt16 hZ.1.2.2.1 (at_zIA hg hZ) ok_zIA hZ hS hl.1 hml dX11_checkRange_9 dX11_checkRange_12 dX11_checkRange_13 dX11_checkRange_15 dX11_checkRange_18 hno hlocks (Nat.le_of_ble_eq_true rfl) (Nat.le_of_ble_eq_true rfl) (Nat.le_of_ble_eq_true rfl) (Nat.le_of_ble_eq_true rfl) (Nat.le_of_ble_eq_true rfl) (Nat.le_of_ble_eq_true rfl)
set_option maxHeartbeats 4000000 in
set_option maxRecDepth 100000 in
theorem cX11_con_3 (l : Launch) (hl9 : l.stackTraces = false) (K : zK) (sz : Nat) (a0 : Nat) (g0 : Nat → Value) (x0 : Int32) (e0 : ¬ x0 < (0 : Int32)) (e1 : ¬ x0 < (4 : Int32)) : vx_Met l yX11_con (Cond.code yX11_con cX11_con 4 (some .int) :: WG) { frames := 7, cells := 1, slots := 6, locals := 104 } (zPre K [(a0, zO 9 9 g0)] sz [.ref a0, .int x0, .int (-1), .int (-1)]) (va_Qv (fun _ : Unit => False) (fun _ _ => True) (va_A [(a0, zO 9 9 g0)] sz)) (zX (va_A [(a0, zO 9 9 g0)] sz) zIA) 1 6 (va_A [(a0, zO 9 9 g0)] sz) := by
  refine z_xmet (Qc := fun A => va_Qv (fun _ : Unit => False) (fun _ _ => True) A) (XC := fun A => zX A zIA) (by decide +kernel) (Nat.le_of_ble_eq_true rfl) ?_
  intro p e s m args below meth c A ls H hx hb hr hg hown hlocks hml hno hK hP hD hA hS hZ hl
  have hown : s.vm.findClass RX11 = some m.cls := hown
  have hl : lv_has ls 4 [(0, .ref a0), (1, .int x0), (2, .int (-1)), (3, .int (-1))] := hl
  refine lv_iload_n hx hb dX11_con_0 rfl (lv_at hl 2 rfl) ?_
  refine lv_iconst (v := (-1)) hx hb dX11_con_1 (by decide) ?_
  refine lv_icmp_eq (tgt := 10) hx hb dX11_con_2 (by decide) (fun _ => ?_) (fun c => absurd (by decide) c)
  refine lv_iload_n hx hb dX11_con_10 rfl (lv_at hl 3 rfl) ?_
  refine lv_iconst (v := (-1)) hx hb dX11_con_11 (by decide) ?_
  refine lv_icmp_eq (tgt := 20) hx hb dX11_con_12 (by decide) (fun _ => ?_) (fun c => absurd (by decide) c)
  refine lv_aload_n hx hb dX11_con_20 rfl (lv_at hl 0 rfl) ?_
  refine lv_iload_n hx hb dX11_con_21 rfl (lv_at hl 1 rfl) ?_
  refine lv_iconst (v := 4) hx hb dX11_con_22 (by decide) ?_
  refine z_xcall (EX := zIA) [(a0, zO 9 9 g0)] [0] hP hD hS hA rfl (by decide) 1 6 rfl rfl (fun hPc hDc hF => z_xrunV (As := [.int x0, .int 4]) (rest := []) ⟨hx, hb, hml, hown, hg⟩ (cX11_checkRange_9 l hl9 K H.size a0 g0 x0 e0 e1) kV_RX11_72 hd_X11_checkRange rfl rfl ⟨(Nat.le_of_ble_eq_true rfl), (Nat.le_of_ble_eq_true rfl)⟩ hK hS hZ hPc hDc hF 0 rfl rfl rfl hl.1 rfl (Nat.le_of_ble_eq_true rfl) dX11_con_23 ⟨(Nat.le_of_ble_eq_true rfl), (Nat.le_of_ble_eq_true rfl)⟩) (fun ce q9 H locs hS hce hcv hcl => ?_)
  exact z_xout hno hlocks hS hce hcv hcl (Nat.le_of_ble_eq_true rfl) (Nat.le_of_ble_eq_true rfl)
set_option maxHeartbeats 4000000 in
set_option maxRecDepth 100000 in
theorem cL_con_3 (l : Launch) (hl9 : l.stackTraces = false) (K : zK) (sz : Nat) (a0 : Nat) (a1 : Nat) (g0 : Nat → Value) (x0 : Int32) (e0 : ¬ x0 < (0 : Int32)) (e1 : ¬ x0 < (4 : Int32)) : vx_Met l yL_con (Cond.codeWith yL_con cL_con 6 (some .int) [(0, 12, 15, 27), (0, 12, 19, 18), (0, 12, 23, 13)] :: WG) { frames := 8, cells := 1, slots := 6, locals := 127 } (zPre K [(a0, zO 9 9 g0)] sz [.ref a0, .int x0, .int (-1), .int (-1), .ref a1]) (va_Qi (fun (r : Int32) (_ : Nat → Nat) => r = 2) (zB K (va_A [(a0, zO 9 9 g0)] sz) (fun u : Nat → Nat => [])) (va_A [(a0, zO 9 9 g0)] sz)) (vx_X (fun _ : Unit => False) (fun _ _ _ => True) (va_A [(a0, zO 9 9 g0)] sz)) 1 6 (va_A [(a0, zO 9 9 g0)] sz) := by
  refine z_hmet (Qc := fun A => (va_Qi (fun (r : Int32) (_ : Nat → Nat) => r = 2) (zB K A (fun u : Nat → Nat => [])) A)) (XC := fun A => vx_X (fun _ : Unit => False) (fun _ _ _ => True) A) (by decide +kernel) (Nat.le_of_ble_eq_true rfl) ?_
  intro p e s m args below meth c A ls H hx hb hr hg hown hlocks hml hTab hK hP hD hA hS hZ hl
  have hown : s.vm.findClass RL = some m.cls := hown
  have hl : lv_has ls 6 [(0, .ref a0), (1, .int x0), (2, .int (-1)), (3, .int (-1)), (4, .ref a1)] := hl
  refine lv_aload hx hb dL_con_0 (lv_at hl 4 rfl) ?_
  refine lv_iconst (v := 0) hx hb dL_con_2 (by decide) ?_
  refine lv_aload_n hx hb dL_con_3 rfl (lv_at hl 0 rfl) ?_
  refine lv_iload_n hx hb dL_con_4 rfl (lv_at hl 1 rfl) ?_
  refine lv_iload_n hx hb dL_con_5 rfl (lv_at hl 2 rfl) ?_
  refine lv_iload_n hx hb dL_con_6 rfl (lv_at hl 3 rfl) ?_
  refine z_xcall (EX := zIA) [(a0, zO 9 9 g0)] [0] hP hD hS hA rfl (by decide) 1 6 rfl rfl (fun hPc hDc hF => z_xrunV (As := [.int x0, .int (-1), .int (-1)]) (rest := [.int 0, .ref a1]) ⟨hx, hb, hml, hown, hg⟩ (cX11_con_3 l hl9 K H.size a0 g0 x0 e0 e1) kV_RL_36 hd_X11_con rfl rfl ⟨(Nat.le_of_ble_eq_true rfl), (Nat.le_of_ble_eq_true rfl)⟩ hK hS hZ hPc hDc hF 0 rfl rfl rfl hl.1 rfl (Nat.le_of_ble_eq_true rfl) dL_con_7 ⟨(Nat.le_of_ble_eq_true rfl), (Nat.le_of_ble_eq_true rfl)⟩) (fun ce q9 H locs hS hce hcv hcl => ?_)
  refine vx_catch (own := RL) (name := zIA) (E := zIA) hown [⟨0, 12, 15, 27⟩] ⟨0, 12, 19, 18⟩ [⟨0, 12, 23, 13⟩] (by rw [hTab]; rfl) (zP1 (Or.inr ⟨by decide, zIB, hg _ mt526, hZ.1.2.1.1⟩) zP0) (by decide) (by decide) (hg _ mt491) (va_Nw.use rfl hZ.1.1.2.1) hce hcv hcl ?_
  have hP : va_P K.1 classes [] H := z_P0
  have hD : va_D A [] := z_D0
  refine lv_astore (lv' := [(5, .ref q9), (0, .ref a0), (1, .int x0), (2, .int (-1)), (3, .int (-1)), (4, .ref a1)]) hx hb dL_con_19 hl (by decide) rfl (fun ls hl => ?_)
  refine lv_iconst (v := 2) hx hb dL_con_21 (by decide) ?_
  have hP9 : va_P K.1 classes [] H := hP.sub [] rfl
  have hD9 : va_D A [] := hD.sub [] (by decide) rfl
  exact z_iret hx hb hr (fun _ => 0) rfl hP9 hD9 hS (Nat.le_of_ble_eq_true rfl) (Nat.le_of_ble_eq_true rfl) hlocks dL_con_22
set_option maxHeartbeats 4000000 in
set_option maxRecDepth 100000 in
theorem cX12_isIn_11 (l : Launch) (K : zK) (sz : Nat) (x0 : Int32) (e0 : ¬ x0 < (0 : Int32)) (e1 : (3 : Int32) < x0) : Met l yX12_isIn (Cond.code yX12_isIn cX12_isIn 3 (some .boolean) :: WG) { frames := 0, cells := 0, slots := 0, locals := 0 } (zPre K [] sz [.int x0, .int 0, .int 3]) (va_Qi (fun (r : Int32) (_ : Nat → Nat) => r = 0) (zB K (va_A [] sz) (fun u : Nat → Nat => [])) (va_A [] sz)) 0 0 (va_A [] sz) := by
  refine z_met (Qc := fun A => (va_Qi (fun (r : Int32) (_ : Nat → Nat) => r = 0) (zB K A (fun u : Nat → Nat => [])) A)) (by decide +kernel) (Nat.le_of_ble_eq_true rfl) ?_
  intro p e s m args below meth c A ls H hx hb hr hg hown hlocks hml hin hK hP hD hA hS hZ hl
  have hown : s.vm.findClass RX12 = some m.cls := hown
  have hl : lv_has ls 3 [(0, .int x0), (1, .int 0), (2, .int 3)] := hl
  refine lv_iload_n hx hb dX12_isIn_0 rfl (lv_at hl 0 rfl) ?_
  refine lv_iload_n hx hb dX12_isIn_1 rfl (lv_at hl 1 rfl) ?_
  refine lv_icmp_lt (tgt := 14) hx hb dX12_isIn_2 (by decide) (fun c => absurd c e0) (fun _ => ?_)
  refine lv_iload_n hx hb dX12_isIn_5 rfl (lv_at hl 0 rfl) ?_
  refine lv_iload_n hx hb dX12_isIn_6 rfl (lv_at hl 2 rfl) ?_
  refine lv_icmp_gt (tgt := 14) hx hb dX12_isIn_7 (by decide) (fun _ => ?_) (fun c => absurd e1 c)
  refine lv_iconst (v := 0) hx hb dX12_isIn_14 (by decide) ?_
  have hP9 : va_P K.1 classes [] H := hP.sub [] rfl
  have hD9 : va_D A [] := hD.sub [] (by decide) rfl
  exact z_zret hx hb hr rfl (fun _ => 0) rfl hP9 hD9 hS (Nat.le_of_ble_eq_true rfl) (Nat.le_of_ble_eq_true rfl) hlocks dX12_isIn_15
set_option maxHeartbeats 4000000 in
set_option maxRecDepth 100000 in
theorem cX12_con_3 (l : Launch) (K : zK) (sz : Nat) (a0 : Nat) (g0 : Nat → Value) (x0 : Int32) (e0 : ¬ x0 < (0 : Int32)) (e1 : (3 : Int32) < x0) : Met l yX12_con (Cond.code yX12_con cX12_con 6 (some .int) :: WG) { frames := 2, cells := 0, slots := 0, locals := 43 } (zPre K [(a0, zO 10 83 g0)] sz [.ref a0, .int x0, .int (-1), .int (-1)]) (va_Qi (fun (r : Int32) (_ : Nat → Nat) => r = 0) (zB K (va_A [(a0, zO 10 83 g0)] sz) (fun u : Nat → Nat => [(a0, zO 10 83 (va_up g0 81 (.int 2)))])) (va_A [(a0, zO 10 83 g0)] sz)) 0 0 (va_A [(a0, zO 10 83 g0)] sz) := by
  refine z_met (Qc := fun A => (va_Qi (fun (r : Int32) (_ : Nat → Nat) => r = 0) (zB K A (fun u : Nat → Nat => [(a0, zO 10 83 (va_up g0 81 (.int 2)))])) A)) (by decide +kernel) (Nat.le_of_ble_eq_true rfl) ?_
  intro p e s m args below meth c A ls H hx hb hr hg hown hlocks hml hin hK hP hD hA hS hZ hl
  have hown : s.vm.findClass RX12 = some m.cls := hown
  have hl : lv_has ls 6 [(0, .ref a0), (1, .int x0), (2, .int (-1)), (3, .int (-1))] := hl
  refine lv_iload_n hx hb dX12_con_0 rfl (lv_at hl 2 rfl) ?_
  refine lv_iconst (v := (-1)) hx hb dX12_con_1 (by decide) ?_
  refine lv_icmp_eq (tgt := 13) hx hb dX12_con_2 (by decide) (fun _ => ?_) (fun c => absurd (by decide) c)
  refine lv_iload_n hx hb dX12_con_13 rfl (lv_at hl 3 rfl) ?_
  refine lv_iconst (v := (-1)) hx hb dX12_con_14 (by decide) ?_
  refine lv_icmp_eq (tgt := 26) hx hb dX12_con_15 (by decide) (fun _ => ?_) (fun c => absurd (by decide) c)
  refine lv_iconst (v := 1) hx hb dX12_con_26 (by decide) ?_
  refine lv_goto (tgt := 31) hx hb dX12_con_27 (by decide) ?_
  refine lv_istore (lv' := [(4, .int 1), (0, .ref a0), (1, .int x0), (2, .int (-1)), (3, .int (-1))]) hx hb dX12_con_31 hl (by decide) rfl (fun ls hl => ?_)
  refine lv_iload hx hb dX12_con_33 (lv_at hl 0 rfl) ?_
  refine lv_if_eq (tgt := 85) hx hb dX12_con_35 (by decide) (fun c => absurd c (by decide)) (fun _ => ?_)
  refine lv_iload_n hx hb dX12_con_38 rfl (lv_at hl 2 rfl) ?_
  refine lv_iconst (v := 0) hx hb dX12_con_39 (by decide) ?_
  refine lv_iconst (v := 3) hx hb dX12_con_40 (by decide) ?_
  refine z_calli [] [(a0, zO 10 83 g0)] [] [0] hP hD hS hA rfl rfl (by decide) (by decide) (by decide +kernel) 0 0 rfl rfl (fun hPc hDc hF => z_runS (As := [.int x0, .int 0, .int 3]) (rest := []) ⟨hx, hb, hml, hown, hg⟩ (cX12_isIn_11 l K H.size x0 e0 e1) kS_RX12_175 hd_X12_isIn rfl rfl ⟨(Nat.le_of_ble_eq_true rfl), (Nat.le_of_ble_eq_true rfl)⟩ hK hS hZ hPc hDc hF rfl hl.1 rfl (Nat.le_of_ble_eq_true rfl) dX12_con_41 ⟨(Nat.le_of_ble_eq_true rfl), (Nat.le_of_ble_eq_true rfl)⟩) (fun r3 u1 H locs w2 hP hD hS => ?_)
  subst w2
  have hP : va_P K.1 classes [(a0, zO 10 83 g0)] H := hP
  have hD : va_D A [(a0, zO 10 83 g0)] := hD
  refine lv_if_eq (tgt := 85) hx hb dX12_con_44 (by decide) (fun _ => ?_) (fun c => absurd (by decide) c)
  refine lv_iconst (v := 0) hx hb dX12_con_85 (by decide) ?_
  refine lv_istore (lv' := [(5, .int 0), (4, .int 1), (0, .ref a0), (1, .int x0), (2, .int (-1)), (3, .int (-1))]) hx hb dX12_con_86 hl (by decide) rfl (fun ls hl => ?_)
  refine lv_aload_n hx hb dX12_con_88 rfl (lv_at hl 2 rfl) ?_
  refine lv_iload hx hb dX12_con_89 (lv_at hl 1 rfl) ?_
  refine lv_iload hx hb dX12_con_91 (lv_at hl 0 rfl) ?_
  refine z_calli [(a0, zO 10 83 g0)] [] [0] [] hP hD hS hA rfl rfl (by decide) (by decide) (by decide +kernel) 0 0 rfl rfl (fun hPc hDc hF => z_runV (As := [.int 1, .int 0]) (rest := []) ⟨hx, hb, hml, hown, hg⟩ (cX12_mayTell_3 l K H.size a0 g0) kV_RX12_203 hd_X12_mayTell rfl rfl ⟨(Nat.le_of_ble_eq_true rfl), (Nat.le_of_ble_eq_true rfl)⟩ hK hS hZ hPc hDc hF 0 rfl rfl rfl hl.1 rfl (Nat.le_of_ble_eq_true rfl) dX12_con_93 ⟨(Nat.le_of_ble_eq_true rfl), (Nat.le_of_ble_eq_true rfl)⟩) (fun r6 u4 H locs w5 hP hD hS => ?_)
  subst w5
  have hP : va_P K.1 classes [(a0, zO 10 83 (va_up g0 81 (.int 2)))] H := hP
  have hD : va_D A [(a0, zO 10 83 (va_up g0 81 (.int 2)))] := hD
  refine lv_if_eq (tgt := 113) hx hb dX12_con_96 (by decide) (fun _ => ?_) (fun c => absurd (by decide) c)
  refine lv_iconst (v := 0) hx hb dX12_con_113 (by decide) ?_
  have hP9 : va_P K.1 classes [(a0, zO 10 83 (va_up g0 81 (.int 2)))] H := hP.sub [0] rfl
  have hD9 : va_D A [(a0, zO 10 83 (va_up g0 81 (.int 2)))] := hD.sub [0] (by decide) rfl
  exact z_iret hx hb hr (fun _ => 0) rfl hP9 hD9 hS (Nat.le_of_ble_eq_true rfl) (Nat.le_of_ble_eq_true rfl) hlocks dX12_con_114
set_option maxHeartbeats 4000000 in
set_option maxRecDepth 100000 in
theorem cX11_con_4 (l : Launch) (hl9 : l.stackTraces = false) (K : zK) (sz : Nat) (a0 : Nat) (a1 : Nat) (g0 : Nat → Value) (g1 : Nat → Value) (x0 : Int32) (x1 : Int32) (e0 : ¬ x1 = (-1 : Int32)) (e1 : g0 0 = (.ref a1)) (e2 : x1 < (0 : Int32)) : vx_Met l yX11_con (Cond.code yX11_con cX11_con 4 (some .int) :: WG) { frames := 7, cells := 1, slots := 6, locals := 103 } (zPre K [(a0, zO 9 9 g0), (a1, zO 7 6 g1)] sz [.ref a0, .int x0, .int (-1), .int x1]) (va_Qv (fun _ : Unit => False) (fun _ _ => True) (va_A [(a0, zO 9 9 g0), (a1, zO 7 6 g1)] sz)) (zX (va_A [(a0, zO 9 9 g0), (a1, zO 7 6 g1)] sz) zIB) 1 6 (va_A [(a0, zO 9 9 g0), (a1, zO 7 6 g1)] sz) := by
  refine z_xmet (Qc := fun A => va_Qv (fun _ : Unit => False) (fun _ _ => True) A) (XC := fun A => zX A zIB) (by decide +kernel) (Nat.le_of_ble_eq_true rfl) ?_
  intro p e s m args below meth c A ls H hx hb hr hg hown hlocks hml hno hK hP hD hA hS hZ hl
  have hown : s.vm.findClass RX11 = some m.cls := hown
  have hl : lv_has ls 4 [(0, .ref a0), (1, .int x0), (2, .int (-1)), (3, .int x1)] := hl
  refine lv_iload_n hx hb dX11_con_0 rfl (lv_at hl 2 rfl) ?_
  refine lv_iconst (v := (-1)) hx hb dX11_con_1 (by decide) ?_
  refine lv_icmp_eq (tgt := 10) hx hb dX11_con_2 (by decide) (fun _ => ?_) (fun c => absurd (by decide) c)
  refine lv_iload_n hx hb dX11_con_10 rfl (lv_at hl 3 rfl) ?_
  refine lv_iconst (v := (-1)) hx hb dX11_con_11 (by decide) ?_
  refine lv_icmp_eq (tgt := 20) hx hb dX11_con_12 (by decide) (fun c => absurd c e0) (fun _ => ?_)
  refine lv_aload_n hx hb dX11_con_15 rfl (lv_at hl 0 rfl) ?_
  refine lv_iload_n hx hb dX11_con_16 rfl (lv_at hl 3 rfl) ?_
  refine z_xcall (EX := zIB) [(a0, zO 9 9 g0), (a1, zO 7 6 g1)] [0, 1] hP hD hS hA rfl (by decide) 1 6 rfl rfl (fun hPc hDc hF => z_xrunV (As := [.int x1]) (rest := []) ⟨hx, hb, hml, hown, hg⟩ (cX11_checkTold_1 l hl9 K H.size a0 a1 g0 g1 x1 e1 e2) kV_RX11_76 hd_X11_checkTold rfl rfl ⟨(Nat.le_of_ble_eq_true rfl), (Nat.le_of_ble_eq_true rfl)⟩ hK hS hZ hPc hDc hF 0 rfl rfl rfl hl.1 rfl (Nat.le_of_ble_eq_true rfl) dX11_con_17 ⟨(Nat.le_of_ble_eq_true rfl), (Nat.le_of_ble_eq_true rfl)⟩) (fun ce q9 H locs hS hce hcv hcl => ?_)
  exact z_xout hno hlocks hS hce hcv hcl (Nat.le_of_ble_eq_true rfl) (Nat.le_of_ble_eq_true rfl)
set_option maxHeartbeats 4000000 in
set_option maxRecDepth 100000 in
theorem cL_con_4 (l : Launch) (hl9 : l.stackTraces = false) (K : zK) (sz : Nat) (a0 : Nat) (a1 : Nat) (a2 : Nat) (g0 : Nat → Value) (g2 : Nat → Value) (x0 : Int32) (x1 : Int32) (e0 : ¬ x1 = (-1 : Int32)) (e1 : g0 0 = (.ref a2)) (e2 : x1 < (0 : Int32)) : vx_Met l yL_con (Cond.codeWith yL_con cL_con 6 (some .int) [(0, 12, 15, 27), (0, 12, 19, 18), (0, 12, 23, 13)] :: WG) { frames := 8, cells := 1, slots := 6, locals := 126 } (zPre K [(a0, zO 9 9 g0), (a2, zO 7 6 g2)] sz [.ref a0, .int x0, .int (-1), .int x1, .ref a1]) (va_Qi (fun (r : Int32) (_ : Nat → Nat) => r = 1) (zB K (va_A [(a0, zO 9 9 g0), (a2, zO 7 6 g2)] sz) (fun u : Nat → Nat => [])) (va_A [(a0, zO 9 9 g0), (a2, zO 7 6 g2)] sz)) (vx_X (fun _ : Unit => False) (fun _ _ _ => True) (va_A [(a0, zO 9 9 g0), (a2, zO 7 6 g2)] sz)) 1 6 (va_A [(a0, zO 9 9 g0), (a2, zO 7 6 g2)] sz) := by
  refine z_hmet (Qc := fun A => (va_Qi (fun (r : Int32) (_ : Nat → Nat) => r = 1) (zB K A (fun u : Nat → Nat => [])) A)) (XC := fun A => vx_X (fun _ : Unit => False) (fun _ _ _ => True) A) (by decide +kernel) (Nat.le_of_ble_eq_true rfl) ?_
  intro p e s m args below meth c A ls H hx hb hr hg hown hlocks hml hTab hK hP hD hA hS hZ hl
  have hown : s.vm.findClass RL = some m.cls := hown
  have hl : lv_has ls 6 [(0, .ref a0), (1, .int x0), (2, .int (-1)), (3, .int x1), (4, .ref a1)] := hl
  refine lv_aload hx hb dL_con_0 (lv_at hl 4 rfl) ?_
  refine lv_iconst (v := 0) hx hb dL_con_2 (by decide) ?_
  refine lv_aload_n hx hb dL_con_3 rfl (lv_at hl 0 rfl) ?_
  refine lv_iload_n hx hb dL_con_4 rfl (lv_at hl 1 rfl) ?_
  refine lv_iload_n hx hb dL_con_5 rfl (lv_at hl 2 rfl) ?_
  refine lv_iload_n hx hb dL_con_6 rfl (lv_at hl 3 rfl) ?_
  refine z_xcall (EX := zIB) [(a0, zO 9 9 g0), (a2, zO 7 6 g2)] [0, 1] hP hD hS hA rfl (by decide) 1 6 rfl rfl (fun hPc hDc hF => z_xrunV (As := [.int x0, .int (-1), .int x1]) (rest := [.int 0, .ref a1]) ⟨hx, hb, hml, hown, hg⟩ (cX11_con_4 l hl9 K H.size a0 a2 g0 g2 x0 x1 e0 e1 e2) kV_RL_36 hd_X11_con rfl rfl ⟨(Nat.le_of_ble_eq_true rfl), (Nat.le_of_ble_eq_true rfl)⟩ hK hS hZ hPc hDc hF 0 rfl rfl rfl hl.1 rfl (Nat.le_of_ble_eq_true rfl) dL_con_7 ⟨(Nat.le_of_ble_eq_true rfl), (Nat.le_of_ble_eq_true rfl)⟩) (fun ce q9 H locs hS hce hcv hcl => ?_)
  refine vx_catch (own := RL) (name := zIB) (E := zIB) hown [] ⟨0, 12, 15, 27⟩ [⟨0, 12, 19, 18⟩, ⟨0, 12, 23, 13⟩] (by rw [hTab]; rfl) (fun z hz => nomatch hz) (by decide) (by decide) (hg _ mt526) (va_Nw.use rfl hZ.1.1.2.2.2.1) hce hcv hcl ?_
  have hP : va_P K.1 classes [] H := z_P0
  have hD : va_D A [] := z_D0
  refine lv_astore (lv' := [(5, .ref q9), (0, .ref a0), (1, .int x0), (2, .int (-1)), (3, .int x1), (4, .ref a1)]) hx hb dL_con_15 hl (by decide) rfl (fun ls hl => ?_)
  refine lv_iconst (v := 1) hx hb dL_con_17 (by decide) ?_
  have hP9 : va_P K.1 classes [] H := hP.sub [] rfl
  have hD9 : va_D A [] := hD.sub [] (by decide) rfl
  exact z_iret hx hb hr (fun _ => 0) rfl hP9 hD9 hS (Nat.le_of_ble_eq_true rfl) (Nat.le_of_ble_eq_true rfl) hlocks dL_con_18
set_option maxHeartbeats 4000000 in
set_option maxRecDepth 100000 in
theorem cX12_con_4 (l : Launch) (K : zK) (sz : Nat) (a0 : Nat) (g0 : Nat → Value) (x0 : Int32) (x1 : Int32) (e0 : ¬ x1 = (-1 : Int32)) (e1 : g0 0 = (.int 0)) (e2 : x1 < (0 : Int32)) : Met l yX12_con (Cond.code yX12_con cX12_con 6 (some .int) :: WG) { frames := 2, cells := 0, slots := 0, locals := 43 } (zPre K [(a0, zO 10 83 g0)] sz [.ref a0, .int x0, .int (-1), .int x1]) (va_Qi (fun (r : Int32) (_ : Nat → Nat) => r = 0) (zB K (va_A [(a0, zO 10 83 g0)] sz) (fun u : Nat → Nat => [(a0, zO 10 83 (va_up g0 81 (.int 1)))])) (va_A [(a0, zO 10 83 g0)] sz)) 0 0 (va_A [(a0, zO 10 83 g0)] sz) := by
  refine z_met (Qc := fun A => (va_Qi (fun (r : Int32) (_ : Nat → Nat) => r = 0) (zB K A (fun u : Nat → Nat => [(a0, zO 10 83 (va_up g0 81 (.int 1)))])) A)) (by decide +kernel) (Nat.le_of_ble_eq_true rfl) ?_
  intro p e s m args below meth c A ls H hx hb hr hg hown hlocks hml hin hK hP hD hA hS hZ hl
  have hown : s.vm.findClass RX12 = some m.cls := hown
  have hl : lv_has ls 6 [(0, .ref a0), (1, .int x0), (2, .int (-1)), (3, .int x1)] := hl
  refine lv_iload_n hx hb dX12_con_0 rfl (lv_at hl 2 rfl) ?_
  refine lv_iconst (v := (-1)) hx hb dX12_con_1 (by decide) ?_
  refine lv_icmp_eq (tgt := 13) hx hb dX12_con_2 (by decide) (fun _ => ?_) (fun c => absurd (by decide) c)
  refine lv_iload_n hx hb dX12_con_13 rfl (lv_at hl 3 rfl) ?_
  refine lv_iconst (v := (-1)) hx hb dX12_con_14 (by decide) ?_
  refine lv_icmp_eq (tgt := 26) hx hb dX12_con_15 (by decide) (fun c => absurd c e0) (fun _ => ?_)
  refine lv_aload_n hx hb dX12_con_18 rfl (lv_at hl 0 rfl) ?_
  refine lv_iload_n hx hb dX12_con_19 rfl (lv_at hl 3 rfl) ?_
  refine z_calli [(a0, zO 10 83 g0)] [] [0] [] hP hD hS hA rfl rfl (by decide) (by decide) (by decide +kernel) 0 0 rfl rfl (fun hPc hDc hF => z_runV (As := [.int x1]) (rest := []) ⟨hx, hb, hml, hown, hg⟩ (cX12_isNode_1 l K H.size a0 g0 x1 e1 e2) kV_RX12_200 hd_X12_isNode rfl rfl ⟨(Nat.le_of_ble_eq_true rfl), (Nat.le_of_ble_eq_true rfl)⟩ hK hS hZ hPc hDc hF 0 rfl rfl rfl hl.1 rfl (Nat.le_of_ble_eq_true rfl) dX12_con_20 ⟨(Nat.le_of_ble_eq_true rfl), (Nat.le_of_ble_eq_true rfl)⟩) (fun r3 u1 H locs w2 hP hD hS => ?_)
  subst w2
  have hP : va_P K.1 classes [(a0, zO 10 83 g0)] H := hP
  have hD : va_D A [(a0, zO 10 83 g0)] := hD
  refine lv_if_eq (tgt := 30) hx hb dX12_con_23 (by decide) (fun _ => ?_) (fun c => absurd (by decide) c)
  refine lv_iconst (v := 0) hx hb dX12_con_30 (by decide) ?_
  refine lv_istore (lv' := [(4, .int 0), (0, .ref a0), (1, .int x0), (2, .int (-1)), (3, .int x1)]) hx hb dX12_con_31 hl (by decide) rfl (fun ls hl => ?_)
  refine lv_iload hx hb dX12_con_33 (lv_at hl 0 rfl) ?_
  refine lv_if_eq (tgt := 85) hx hb dX12_con_35 (by decide) (fun _ => ?_) (fun c => absurd (by decide) c)
  refine lv_iconst (v := 0) hx hb dX12_con_85 (by decide) ?_
  refine lv_istore (lv' := [(5, .int 0), (4, .int 0), (0, .ref a0), (1, .int x0), (2, .int (-1)), (3, .int x1)]) hx hb dX12_con_86 hl (by decide) rfl (fun ls hl => ?_)
  refine lv_aload_n hx hb dX12_con_88 rfl (lv_at hl 2 rfl) ?_
  refine lv_iload hx hb dX12_con_89 (lv_at hl 1 rfl) ?_
  refine lv_iload hx hb dX12_con_91 (lv_at hl 0 rfl) ?_
  refine z_calli [(a0, zO 10 83 g0)] [] [0] [] hP hD hS hA rfl rfl (by decide) (by decide) (by decide +kernel) 0 0 rfl rfl (fun hPc hDc hF => z_runV (As := [.int 0, .int 0]) (rest := []) ⟨hx, hb, hml, hown, hg⟩ (cX12_mayTell_1 l K H.size a0 g0) kV_RX12_203 hd_X12_mayTell rfl rfl ⟨(Nat.le_of_ble_eq_true rfl), (Nat.le_of_ble_eq_true rfl)⟩ hK hS hZ hPc hDc hF 0 rfl rfl rfl hl.1 rfl (Nat.le_of_ble_eq_true rfl) dX12_con_93 ⟨(Nat.le_of_ble_eq_true rfl), (Nat.le_of_ble_eq_true rfl)⟩) (fun r6 u4 H locs w5 hP hD hS => ?_)
  subst w5
  have hP : va_P K.1 classes [(a0, zO 10 83 (va_up g0 81 (.int 1)))] H := hP
  have hD : va_D A [(a0, zO 10 83 (va_up g0 81 (.int 1)))] := hD
  refine lv_if_eq (tgt := 113) hx hb dX12_con_96 (by decide) (fun _ => ?_) (fun c => absurd (by decide) c)
  refine lv_iconst (v := 0) hx hb dX12_con_113 (by decide) ?_
  have hP9 : va_P K.1 classes [(a0, zO 10 83 (va_up g0 81 (.int 1)))] H := hP.sub [0] rfl
  have hD9 : va_D A [(a0, zO 10 83 (va_up g0 81 (.int 1)))] := hD.sub [0] (by decide) rfl
  exact z_iret hx hb hr (fun _ => 0) rfl hP9 hD9 hS (Nat.le_of_ble_eq_true rfl) (Nat.le_of_ble_eq_true rfl) hlocks dX12_con_114
set_option maxHeartbeats 4000000 in
set_option maxRecDepth 100000 in
theorem cX11_con_5 (l : Launch) (hl9 : l.stackTraces = false) (K : zK) (sz : Nat) (a0 : Nat) (a1 : Nat) (g0 : Nat → Value) (g1 : Nat → Value) (x0 : Int32) (x1 : Int32) (e0 : ¬ x1 = (-1 : Int32)) (e1 : g0 0 = (.ref a1)) (e2 : ¬ x1 < (0 : Int32)) (e3 : g1 5 = (.int 0)) (e4 : (0 : Int32) ≤ x1) : vx_Met l yX11_con (Cond.code yX11_con cX11_con 4 (some .int) :: WG) { frames := 7, cells := 1, slots := 6, locals := 103 } (zPre K [(a0, zO 9 9 g0), (a1, zO 7 6 g1)] sz [.ref a0, .int x0, .int (-1), .int x1]) (va_Qv (fun _ : Unit => False) (fun _ _ => True) (va_A [(a0, zO 9 9 g0), (a1, zO 7 6 g1)] sz)) (zX (va_A [(a0, zO 9 9 g0), (a1, zO 7 6 g1)] sz) zIB) 1 6 (va_A [(a0, zO 9 9 g0), (a1, zO 7 6 g1)] sz) := by
  refine z_xmet (Qc := fun A => va_Qv (fun _ : Unit => False) (fun _ _ => True) A) (XC := fun A => zX A zIB) (by decide +kernel) (Nat.le_of_ble_eq_true rfl) ?_
  intro p e s m args below meth c A ls H hx hb hr hg hown hlocks hml hno hK hP hD hA hS hZ hl
  have hown : s.vm.findClass RX11 = some m.cls := hown
  have hl : lv_has ls 4 [(0, .ref a0), (1, .int x0), (2, .int (-1)), (3, .int x1)] := hl
  refine lv_iload_n hx hb dX11_con_0 rfl (lv_at hl 2 rfl) ?_
  refine lv_iconst (v := (-1)) hx hb dX11_con_1 (by decide) ?_
  refine lv_icmp_eq (tgt := 10) hx hb dX11_con_2 (by decide) (fun _ => ?_) (fun c => absurd (by decide) c)
  refine lv_iload_n hx hb dX11_con_10 rfl (lv_at hl 3 rfl) ?_
  refine lv_iconst (v := (-1)) hx hb dX11_con_11 (by decide) ?_
  refine lv_icmp_eq (tgt := 20) hx hb dX11_con_12 (by decide) (fun c => absurd c e0) (fun _ => ?_)
  refine lv_aload_n hx hb dX11_con_15 rfl (lv_at hl 0 rfl) ?_
  refine lv_iload_n hx hb dX11_con_16 rfl (lv_at hl 3 rfl) ?_
  refine z_xcall (EX := zIB) [(a0, zO 9 9 g0), (a1, zO 7 6 g1)] [0, 1] hP hD hS hA rfl (by decide) 1 6 rfl rfl (fun hPc hDc hF => z_xrunV (As := [.int x1]) (rest := []) ⟨hx, hb, hml, hown, hg⟩ (cX11_checkTold_2 l hl9 K H.size a0 a1 g0 g1 x1 e1 e2 e3 e4) kV_RX11_76 hd_X11_checkTold rfl rfl ⟨(Nat.le_of_ble_eq_true rfl), (Nat.le_of_ble_eq_true rfl)⟩ hK hS hZ hPc hDc hF 0 rfl rfl rfl hl.1 rfl (Nat.le_of_ble_eq_true rfl) dX11_con_17 ⟨(Nat.le_of_ble_eq_true rfl), (Nat.le_of_ble_eq_true rfl)⟩) (fun ce q9 H locs hS hce hcv hcl => ?_)
  exact z_xout hno hlocks hS hce hcv hcl (Nat.le_of_ble_eq_true rfl) (Nat.le_of_ble_eq_true rfl)
set_option maxHeartbeats 4000000 in
set_option maxRecDepth 100000 in
theorem cL_con_5 (l : Launch) (hl9 : l.stackTraces = false) (K : zK) (sz : Nat) (a0 : Nat) (a1 : Nat) (a2 : Nat) (g0 : Nat → Value) (g2 : Nat → Value) (x0 : Int32) (x1 : Int32) (e0 : ¬ x1 = (-1 : Int32)) (e1 : g0 0 = (.ref a2)) (e2 : ¬ x1 < (0 : Int32)) (e3 : g2 5 = (.int 0)) (e4 : (0 : Int32) ≤ x1) : vx_Met l yL_con (Cond.codeWith yL_con cL_con 6 (some .int) [(0, 12, 15, 27), (0, 12, 19, 18), (0, 12, 23, 13)] :: WG) { frames := 8, cells := 1, slots := 6, locals := 126 } (zPre K [(a0, zO 9 9 g0), (a2, zO 7 6 g2)] sz [.ref a0, .int x0, .int (-1), .int x1, .ref a1]) (va_Qi (fun (r : Int32) (_ : Nat → Nat) => r = 1) (zB K (va_A [(a0, zO 9 9 g0), (a2, zO 7 6 g2)] sz) (fun u : Nat → Nat => [])) (va_A [(a0, zO 9 9 g0), (a2, zO 7 6 g2)] sz)) (vx_X (fun _ : Unit => False) (fun _ _ _ => True) (va_A [(a0, zO 9 9 g0), (a2, zO 7 6 g2)] sz)) 1 6 (va_A [(a0, zO 9 9 g0), (a2, zO 7 6 g2)] sz) := by
  refine z_hmet (Qc := fun A => (va_Qi (fun (r : Int32) (_ : Nat → Nat) => r = 1) (zB K A (fun u : Nat → Nat => [])) A)) (XC := fun A => vx_X (fun _ : Unit => False) (fun _ _ _ => True) A) (by decide +kernel) (Nat.le_of_ble_eq_true rfl) ?_
  intro p e s m args below meth c A ls H hx hb hr hg hown hlocks hml hTab hK hP hD hA hS hZ hl
  have hown : s.vm.findClass RL = some m.cls := hown
  have hl : lv_has ls 6 [(0, .ref a0), (1, .int x0), (2, .int (-1)), (3, .int x1), (4, .ref a1)] := hl
  refine lv_aload hx hb dL_con_0 (lv_at hl 4 rfl) ?_
  refine lv_iconst (v := 0) hx hb dL_con_2 (by decide) ?_
  refine lv_aload_n hx hb dL_con_3 rfl (lv_at hl 0 rfl) ?_
  refine lv_iload_n hx hb dL_con_4 rfl (lv_at hl 1 rfl) ?_
  refine lv_iload_n hx hb dL_con_5 rfl (lv_at hl 2 rfl) ?_
  refine lv_iload_n hx hb dL_con_6 rfl (lv_at hl 3 rfl) ?_
  refine z_xcall (EX := zIB) [(a0, zO 9 9 g0), (a2, zO 7 6 g2)] [0, 1] hP hD hS hA rfl (by decide) 1 6 rfl rfl (fun hPc hDc hF => z_xrunV (As := [.int x0, .int (-1), .int x1]) (rest := [.int 0, .ref a1]) ⟨hx, hb, hml, hown, hg⟩ (cX11_con_5 l hl9 K H.size a0 a2 g0 g2 x0 x1 e0 e1 e2 e3 e4) kV_RL_36 hd_X11_con rfl rfl ⟨(Nat.le_of_ble_eq_true rfl), (Nat.le_of_ble_eq_true rfl)⟩ hK hS hZ hPc hDc hF 0 rfl rfl rfl hl.1 rfl (Nat.le_of_ble_eq_true rfl) dL_con_7 ⟨(Nat.le_of_ble_eq_true rfl), (Nat.le_of_ble_eq_true rfl)⟩) (fun ce q9 H locs hS hce hcv hcl => ?_)
  refine vx_catch (own := RL) (name := zIB) (E := zIB) hown [] ⟨0, 12, 15, 27⟩ [⟨0, 12, 19, 18⟩, ⟨0, 12, 23, 13⟩] (by rw [hTab]; rfl) (fun z hz => nomatch hz) (by decide) (by decide) (hg _ mt526) (va_Nw.use rfl hZ.1.1.2.2.2.1) hce hcv hcl ?_
  have hP : va_P K.1 classes [] H := z_P0
  have hD : va_D A [] := z_D0
  refine lv_astore (lv' := [(5, .ref q9), (0, .ref a0), (1, .int x0), (2, .int (-1)), (3, .int x1), (4, .ref a1)]) hx hb dL_con_15 hl (by decide) rfl (fun ls hl => ?_)
  refine lv_iconst (v := 1) hx hb dL_con_17 (by decide) ?_
  have hP9 : va_P K.1 classes [] H := hP.sub [] rfl
  have hD9 : va_D A [] := hD.sub [] (by decide) rfl
  exact z_iret hx hb hr (fun _ => 0) rfl hP9 hD9 hS (Nat.le_of_ble_eq_true rfl) (Nat.le_of_ble_eq_true rfl) hlocks dL_con_18
set_option maxHeartbeats 4000000 in
set_option maxRecDepth 100000 in
theorem cX12_con_5 (l : Launch) (K : zK) (sz : Nat) (a0 : Nat) (g0 : Nat → Value) (x0 : Int32) (x1 : Int32) (e0 : ¬ x1 = (-1 : Int32)) (e1 : g0 0 = (.int 0)) (e2 : ¬ x1 < (0 : Int32)) (e3 : (-1 : Int32) < x1) : Met l yX12_con (Cond.code yX12_con cX12_con 6 (some .int) :: WG) { frames := 2, cells := 0, slots := 0, locals := 43 } (zPre K [(a0, zO 10 83 g0)] sz [.ref a0, .int x0, .int (-1), .int x1]) (va_Qi (fun (r : Int32) (_ : Nat → Nat) => r = 0) (zB K (va_A [(a0, zO 10 83 g0)] sz) (fun u : Nat → Nat => [(a0, zO 10 83 (va_up g0 81 (.int 1)))])) (va_A [(a0, zO 10 83 g0)] sz)) 0 0 (va_A [(a0, zO 10 83 g0)] sz) := by
  refine z_met (Qc := fun A => (va_Qi (fun (r : Int32) (_ : Nat → Nat) => r = 0) (zB K A (fun u : Nat → Nat => [(a0, zO 10 83 (va_up g0 81 (.int 1)))])) A)) (by decide +kernel) (Nat.le_of_ble_eq_true rfl) ?_
  intro p e s m args below meth c A ls H hx hb hr hg hown hlocks hml hin hK hP hD hA hS hZ hl
  have hown : s.vm.findClass RX12 = some m.cls := hown
  have hl : lv_has ls 6 [(0, .ref a0), (1, .int x0), (2, .int (-1)), (3, .int x1)] := hl
  refine lv_iload_n hx hb dX12_con_0 rfl (lv_at hl 2 rfl) ?_
  refine lv_iconst (v := (-1)) hx hb dX12_con_1 (by decide) ?_
  refine lv_icmp_eq (tgt := 13) hx hb dX12_con_2 (by decide) (fun _ => ?_) (fun c => absurd (by decide) c)
  refine lv_iload_n hx hb dX12_con_13 rfl (lv_at hl 3 rfl) ?_
  refine lv_iconst (v := (-1)) hx hb dX12_con_14 (by decide) ?_
  refine lv_icmp_eq (tgt := 26) hx hb dX12_con_15 (by decide) (fun c => absurd c e0) (fun _ => ?_)
  refine lv_aload_n hx hb dX12_con_18 rfl (lv_at hl 0 rfl) ?_
  refine lv_iload_n hx hb dX12_con_19 rfl (lv_at hl 3 rfl) ?_
  refine z_calli [(a0, zO 10 83 g0)] [] [0] [] hP hD hS hA rfl rfl (by decide) (by decide) (by decide +kernel) 0 0 rfl rfl (fun hPc hDc hF => z_runV (As := [.int x1]) (rest := []) ⟨hx, hb, hml, hown, hg⟩ (cX12_isNode_2 l K H.size a0 g0 x1 e1 e2 e3) kV_RX12_200 hd_X12_isNode rfl rfl ⟨(Nat.le_of_ble_eq_true rfl), (Nat.le_of_ble_eq_true rfl)⟩ hK hS hZ hPc hDc hF 0 rfl rfl rfl hl.1 rfl (Nat.le_of_ble_eq_true rfl) dX12_con_20 ⟨(Nat.le_of_ble_eq_true rfl), (Nat.le_of_ble_eq_true rfl)⟩) (fun r3 u1 H locs w2 hP hD hS => ?_)
  subst w2
  have hP : va_P K.1 classes [(a0, zO 10 83 g0)] H := hP
  have hD : va_D A [(a0, zO 10 83 g0)] := hD
  refine lv_if_eq (tgt := 30) hx hb dX12_con_23 (by decide) (fun _ => ?_) (fun c => absurd (by decide) c)
  refine lv_iconst (v := 0) hx hb dX12_con_30 (by decide) ?_
  refine lv_istore (lv' := [(4, .int 0), (0, .ref a0), (1, .int x0), (2, .int (-1)), (3, .int x1)]) hx hb dX12_con_31 hl (by decide) rfl (fun ls hl => ?_)
  refine lv_iload hx hb dX12_con_33 (lv_at hl 0 rfl) ?_
  refine lv_if_eq (tgt := 85) hx hb dX12_con_35 (by decide) (fun _ => ?_) (fun c => absurd (by decide) c)
  refine lv_iconst (v := 0) hx hb dX12_con_85 (by decide) ?_
  refine lv_istore (lv' := [(5, .int 0), (4, .int 0), (0, .ref a0), (1, .int x0), (2, .int (-1)), (3, .int x1)]) hx hb dX12_con_86 hl (by decide) rfl (fun ls hl => ?_)
  refine lv_aload_n hx hb dX12_con_88 rfl (lv_at hl 2 rfl) ?_
  refine lv_iload hx hb dX12_con_89 (lv_at hl 1 rfl) ?_
  refine lv_iload hx hb dX12_con_91 (lv_at hl 0 rfl) ?_
  refine z_calli [(a0, zO 10 83 g0)] [] [0] [] hP hD hS hA rfl rfl (by decide) (by decide) (by decide +kernel) 0 0 rfl rfl (fun hPc hDc hF => z_runV (As := [.int 0, .int 0]) (rest := []) ⟨hx, hb, hml, hown, hg⟩ (cX12_mayTell_1 l K H.size a0 g0) kV_RX12_203 hd_X12_mayTell rfl rfl ⟨(Nat.le_of_ble_eq_true rfl), (Nat.le_of_ble_eq_true rfl)⟩ hK hS hZ hPc hDc hF 0 rfl rfl rfl hl.1 rfl (Nat.le_of_ble_eq_true rfl) dX12_con_93 ⟨(Nat.le_of_ble_eq_true rfl), (Nat.le_of_ble_eq_true rfl)⟩) (fun r6 u4 H locs w5 hP hD hS => ?_)
  subst w5
  have hP : va_P K.1 classes [(a0, zO 10 83 (va_up g0 81 (.int 1)))] H := hP
  have hD : va_D A [(a0, zO 10 83 (va_up g0 81 (.int 1)))] := hD
  refine lv_if_eq (tgt := 113) hx hb dX12_con_96 (by decide) (fun _ => ?_) (fun c => absurd (by decide) c)
  refine lv_iconst (v := 0) hx hb dX12_con_113 (by decide) ?_
  have hP9 : va_P K.1 classes [(a0, zO 10 83 (va_up g0 81 (.int 1)))] H := hP.sub [0] rfl
  have hD9 : va_D A [(a0, zO 10 83 (va_up g0 81 (.int 1)))] := hD.sub [0] (by decide) rfl
  exact z_iret hx hb hr (fun _ => 0) rfl hP9 hD9 hS (Nat.le_of_ble_eq_true rfl) (Nat.le_of_ble_eq_true rfl) hlocks dX12_con_114
set_option maxHeartbeats 4000000 in
set_option maxRecDepth 100000 in
theorem cX11_con_6 (l : Launch) (hl9 : l.stackTraces = false) (K : zK) (sz : Nat) (a0 : Nat) (a1 : Nat) (g0 : Nat → Value) (g1 : Nat → Value) (x0 : Int32) (x1 : Int32) (x2 : Int32) (e0 : ¬ x1 = (-1 : Int32)) (e1 : g0 0 = (.ref a1)) (e2 : x1 < (0 : Int32)) : vx_Met l yX11_con (Cond.code yX11_con cX11_con 4 (some .int) :: WG) { frames := 7, cells := 1, slots := 6, locals := 103 } (zPre K [(a0, zO 9 9 g0), (a1, zO 7 6 g1)] sz [.ref a0, .int x0, .int x1, .int x2]) (va_Qv (fun _ : Unit => False) (fun _ _ => True) (va_A [(a0, zO 9 9 g0), (a1, zO 7 6 g1)] sz)) (zX (va_A [(a0, zO 9 9 g0), (a1, zO 7 6 g1)] sz) zIB) 1 6 (va_A [(a0, zO 9 9 g0), (a1, zO 7 6 g1)] sz) := by
  refine z_xmet (Qc := fun A => va_Qv (fun _ : Unit => False) (fun _ _ => True) A) (XC := fun A => zX A zIB) (by decide +kernel) (Nat.le_of_ble_eq_true rfl) ?_
  intro p e s m args below meth c A ls H hx hb hr hg hown hlocks hml hno hK hP hD hA hS hZ hl
  have hown : s.vm.findClass RX11 = some m.cls := hown
  have hl : lv_has ls 4 [(0, .ref a0), (1, .int x0), (2, .int x1), (3, .int x2)] := hl
  refine lv_iload_n hx hb dX11_con_0 rfl (lv_at hl 2 rfl) ?_
  refine lv_iconst (v := (-1)) hx hb dX11_con_1 (by decide) ?_
  refine lv_icmp_eq (tgt := 10) hx hb dX11_con_2 (by decide) (fun c => absurd c e0) (fun _ => ?_)
  refine lv_aload_n hx hb dX11_con_5 rfl (lv_at hl 0 rfl) ?_
  refine lv_iload_n hx hb dX11_con_6 rfl (lv_at hl 2 rfl) ?_
  refine z_xcall (EX := zIB) [(a0, zO 9 9 g0), (a1, zO 7 6 g1)] [0, 1] hP hD hS hA rfl (by decide) 1 6 rfl rfl (fun hPc hDc hF => z_xrunV (As := [.int x1]) (rest := []) ⟨hx, hb, hml, hown, hg⟩ (cX11_checkTold_1 l hl9 K H.size a0 a1 g0 g1 x1 e1 e2) kV_RX11_76 hd_X11_checkTold rfl rfl ⟨(Nat.le_of_ble_eq_true rfl), (Nat.le_of_ble_eq_true rfl)⟩ hK hS hZ hPc hDc hF 0 rfl rfl rfl hl.1 rfl (Nat.le_of_ble_eq_true rfl) dX11_con_7 ⟨(Nat.le_of_ble_eq_true rfl), (Nat.le_of_ble_eq_true rfl)⟩) (fun ce q9 H locs hS hce hcv hcl => ?_)
  exact z_xout hno hlocks hS hce hcv hcl (Nat.le_of_ble_eq_true rfl) (Nat.le_of_ble_eq_true rfl)
set_option maxHeartbeats 4000000 in
set_option maxRecDepth 100000 in
theorem cL_con_6 (l : Launch) (hl9 : l.stackTraces = false) (K : zK) (sz : Nat) (a0 : Nat) (a1 : Nat) (a2 : Nat) (g0 : Nat → Value) (g2 : Nat → Value) (x0 : Int32) (x1 : Int32) (x2 : Int32) (e0 : ¬ x1 = (-1 : Int32)) (e1 : g0 0 = (.ref a2)) (e2 : x1 < (0 : Int32)) : vx_Met l yL_con (Cond.codeWith yL_con cL_con 6 (some .int) [(0, 12, 15, 27), (0, 12, 19, 18), (0, 12, 23, 13)] :: WG) { frames := 8, cells := 1, slots := 6, locals := 126 } (zPre K [(a0, zO 9 9 g0), (a2, zO 7 6 g2)] sz [.ref a0, .int x0, .int x1, .int x2, .ref a1]) (va_Qi (fun (r : Int32) (_ : Nat → Nat) => r = 1) (zB K (va_A [(a0, zO 9 9 g0), (a2, zO 7 6 g2)] sz) (fun u : Nat → Nat => [])) (va_A [(a0, zO 9 9 g0), (a2, zO 7 6 g2)] sz)) (vx_X (fun _ : Unit => False) (fun _ _ _ => True) (va_A [(a0, zO 9 9 g0), (a2, zO 7 6 g2)] sz)) 1 6 (va_A [(a0, zO 9 9 g0), (a2, zO 7 6 g2)] sz) := by
  refine z_hmet (Qc := fun A => (va_Qi (fun (r : Int32) (_ : Nat → Nat) => r = 1) (zB K A (fun u : Nat → Nat => [])) A)) (XC := fun A => vx_X (fun _ : Unit => False) (fun _ _ _ => True) A) (by decide +kernel) (Nat.le_of_ble_eq_true rfl) ?_
  intro p e s m args below meth c A ls H hx hb hr hg hown hlocks hml hTab hK hP hD hA hS hZ hl
  have hown : s.vm.findClass RL = some m.cls := hown
  have hl : lv_has ls 6 [(0, .ref a0), (1, .int x0), (2, .int x1), (3, .int x2), (4, .ref a1)] := hl
  refine lv_aload hx hb dL_con_0 (lv_at hl 4 rfl) ?_
  refine lv_iconst (v := 0) hx hb dL_con_2 (by decide) ?_
  refine lv_aload_n hx hb dL_con_3 rfl (lv_at hl 0 rfl) ?_
  refine lv_iload_n hx hb dL_con_4 rfl (lv_at hl 1 rfl) ?_
  refine lv_iload_n hx hb dL_con_5 rfl (lv_at hl 2 rfl) ?_
  refine lv_iload_n hx hb dL_con_6 rfl (lv_at hl 3 rfl) ?_
  refine z_xcall (EX := zIB) [(a0, zO 9 9 g0), (a2, zO 7 6 g2)] [0, 1] hP hD hS hA rfl (by decide) 1 6 rfl rfl (fun hPc hDc hF => z_xrunV (As := [.int x0, .int x1, .int x2]) (rest := [.int 0, .ref a1]) ⟨hx, hb, hml, hown, hg⟩ (cX11_con_6 l hl9 K H.size a0 a2 g0 g2 x0 x1 x2 e0 e1 e2) kV_RL_36 hd_X11_con rfl rfl ⟨(Nat.le_of_ble_eq_true rfl), (Nat.le_of_ble_eq_true rfl)⟩ hK hS hZ hPc hDc hF 0 rfl rfl rfl hl.1 rfl (Nat.le_of_ble_eq_true rfl) dL_con_7 ⟨(Nat.le_of_ble_eq_true rfl), (Nat.le_of_ble_eq_true rfl)⟩) (fun ce q9 H locs hS hce hcv hcl => ?_)
  refine vx_catch (own := RL) (name := zIB) (E := zIB) hown [] ⟨0, 12, 15, 27⟩ [⟨0, 12, 19, 18⟩, ⟨0, 12, 23, 13⟩] (by rw [hTab]; rfl) (fun z hz => nomatch hz) (by decide) (by decide) (hg _ mt526) (va_Nw.use rfl hZ.1.1.2.2.2.1) hce hcv hcl ?_
  have hP : va_P K.1 classes [] H := z_P0
  have hD : va_D A [] := z_D0
  refine lv_astore (lv' := [(5, .ref q9), (0, .ref a0), (1, .int x0), (2, .int x1), (3, .int x2), (4, .ref a1)]) hx hb dL_con_15 hl (by decide) rfl (fun ls hl => ?_)
  refine lv_iconst (v := 1) hx hb dL_con_17 (by decide) ?_
  have hP9 : va_P K.1 classes [] H := hP.sub [] rfl
  have hD9 : va_D A [] := hD.sub [] (by decide) rfl
  exact z_iret hx hb hr (fun _ => 0) rfl hP9 hD9 hS (Nat.le_of_ble_eq_true rfl) (Nat.le_of_ble_eq_true rfl) hlocks dL_con_18
set_option maxHeartbeats 4000000 in
set_option maxRecDepth 100000 in
theorem cX12_con_6 (l : Launch) (K : zK) (sz : Nat) (a0 : Nat) (g0 : Nat → Value) (x0 : Int32) (x1 : Int32) (x2 : Int32) (e0 : ¬ x1 = (-1 : Int32)) (e1 : g0 0 = (.int 0)) (e2 : x1 < (0 : Int32)) : Met l yX12_con (Cond.code yX12_con cX12_con 6 (some .int) :: WG) { frames := 2, cells := 0, slots := 0, locals := 43 } (zPre K [(a0, zO 10 83 g0)] sz [.ref a0, .int x0, .int x1, .int x2]) (va_Qi (fun (r : Int32) (_ : Nat → Nat) => r = 0) (zB K (va_A [(a0, zO 10 83 g0)] sz) (fun u : Nat → Nat => [(a0, zO 10 83 (va_up g0 81 (.int 1)))])) (va_A [(a0, zO 10 83 g0)] sz)) 0 0 (va_A [(a0, zO 10 83 g0)] sz) := by
  refine z_met (Qc := fun A => (va_Qi (fun (r : Int32) (_ : Nat → Nat) => r = 0) (zB K A (fun u : Nat → Nat => [(a0, zO 10 83 (va_up g0 81 (.int 1)))])) A)) (by decide +kernel) (Nat.le_of_ble_eq_true rfl) ?_
  intro p e s m args below meth c A ls H hx hb hr hg hown hlocks hml hin hK hP hD hA hS hZ hl
  have hown : s.vm.findClass RX12 = some m.cls := hown
  have hl : lv_has ls 6 [(0, .ref a0), (1, .int x0), (2, .int x1), (3, .int x2)] := hl
  refine lv_iload_n hx hb dX12_con_0 rfl (lv_at hl 2 rfl) ?_
  refine lv_iconst (v := (-1)) hx hb dX12_con_1 (by decide) ?_
  refine lv_icmp_eq (tgt := 13) hx hb dX12_con_2 (by decide) (fun c => absurd c e0) (fun _ => ?_)
  refine lv_aload_n hx hb dX12_con_5 rfl (lv_at hl 0 rfl) ?_
  refine lv_iload_n hx hb dX12_con_6 rfl (lv_at hl 2 rfl) ?_
  refine z_calli [(a0, zO 10 83 g0)] [] [0] [] hP hD hS hA rfl rfl (by decide) (by decide) (by decide +kernel) 0 0 rfl rfl (fun hPc hDc hF => z_runV (As := [.int x1]) (rest := []) ⟨hx, hb, hml, hown, hg⟩ (cX12_isNode_1 l K H.size a0 g0 x1 e1 e2) kV_RX12_200 hd_X12_isNode rfl rfl ⟨(Nat.le_of_ble_eq_true rfl), (Nat.le_of_ble_eq_true rfl)⟩ hK hS hZ hPc hDc hF 0 rfl rfl rfl hl.1 rfl (Nat.le_of_ble_eq_true rfl) dX12_con_7 ⟨(Nat.le_of_ble_eq_true rfl), (Nat.le_of_ble_eq_true rfl)⟩) (fun r3 u1 H locs w2 hP hD hS => ?_)
  subst w2
  have hP : va_P K.1 classes [(a0, zO 10 83 g0)] H := hP
  have hD : va_D A [(a0, zO 10 83 g0)] := hD
  refine lv_if_eq (tgt := 30) hx hb dX12_con_10 (by decide) (fun _ => ?_) (fun c => absurd (by decide) c)
  refine lv_iconst (v := 0) hx hb dX12_con_30 (by decide) ?_
  refine lv_istore (lv' := [(4, .int 0), (0, .ref a0), (1, .int x0), (2, .int x1), (3, .int x2)]) hx hb dX12_con_31 hl (by decide) rfl (fun ls hl => ?_)
  refine lv_iload hx hb dX12_con_33 (lv_at hl 0 rfl) ?_
  refine lv_if_eq (tgt := 85) hx hb dX12_con_35 (by decide) (fun _ => ?_) (fun c => absurd (by decide) c)
  refine lv_iconst (v := 0) hx hb dX12_con_85 (by decide) ?_
  refine lv_istore (lv' := [(5, .int 0), (4, .int 0), (0, .ref a0), (1, .int x0), (2, .int x1), (3, .int x2)]) hx hb dX12_con_86 hl (by decide) rfl (fun ls hl => ?_)
  refine lv_aload_n hx hb dX12_con_88 rfl (lv_at hl 2 rfl) ?_
  refine lv_iload hx hb dX12_con_89 (lv_at hl 1 rfl) ?_
  refine lv_iload hx hb dX12_con_91 (lv_at hl 0 rfl) ?_
  refine z_calli [(a0, zO 10 83 g0)] [] [0] [] hP hD hS hA rfl rfl (by decide) (by decide) (by decide +kernel) 0 0 rfl rfl (fun hPc hDc hF => z_runV (As := [.int 0, .int 0]) (rest := []) ⟨hx, hb, hml, hown, hg⟩ (cX12_mayTell_1 l K H.size a0 g0) kV_RX12_203 hd_X12_mayTell rfl rfl ⟨(Nat.le_of_ble_eq_true rfl), (Nat.le_of_ble_eq_true rfl)⟩ hK hS hZ hPc hDc hF 0 rfl rfl rfl hl.1 rfl (Nat.le_of_ble_eq_true rfl) dX12_con_93 ⟨(Nat.le_of_ble_eq_true rfl), (Nat.le_of_ble_eq_true rfl)⟩) (fun r6 u4 H locs w5 hP hD hS => ?_)
  subst w5
  have hP : va_P K.1 classes [(a0, zO 10 83 (va_up g0 81 (.int 1)))] H := hP
  have hD : va_D A [(a0, zO 10 83 (va_up g0 81 (.int 1)))] := hD
  refine lv_if_eq (tgt := 113) hx hb dX12_con_96 (by decide) (fun _ => ?_) (fun c => absurd (by decide) c)
  refine lv_iconst (v := 0) hx hb dX12_con_113 (by decide) ?_
  have hP9 : va_P K.1 classes [(a0, zO 10 83 (va_up g0 81 (.int 1)))] H := hP.sub [0] rfl
  have hD9 : va_D A [(a0, zO 10 83 (va_up g0 81 (.int 1)))] := hD.sub [0] (by decide) rfl
  exact z_iret hx hb hr (fun _ => 0) rfl hP9 hD9 hS (Nat.le_of_ble_eq_true rfl) (Nat.le_of_ble_eq_true rfl) hlocks dX12_con_114
set_option maxHeartbeats 4000000 in
set_option maxRecDepth 100000 in
theorem cX11_con_7 (l : Launch) (hl9 : l.stackTraces = false) (K : zK) (sz : Nat) (a0 : Nat) (a1 : Nat) (g0 : Nat → Value) (g1 : Nat → Value) (x0 : Int32) (x1 : Int32) (x2 : Int32) (e0 : ¬ x1 = (-1 : Int32)) (e1 : g0 0 = (.ref a1)) (e2 : ¬ x1 < (0 : Int32)) (e3 : g1 5 = (.int 0)) (e4 : (0 : Int32) ≤ x1) : vx_Met l yX11_con (Cond.code yX11_con cX11_con 4 (some .int) :: WG) { frames := 7, cells := 1, slots := 6, locals := 103 } (zPre K [(a0, zO 9 9 g0), (a1, zO 7 6 g1)] sz [.ref a0, .int x0, .int x1, .int x2]) (va_Qv (fun _ : Unit => False) (fun _ _ => True) (va_A [(a0, zO 9 9 g0), (a1, zO 7 6 g1)] sz)) (zX (va_A [(a0, zO 9 9 g0), (a1, zO 7 6 g1)] sz) zIB) 1 6 (va_A [(a0, zO 9 9 g0), (a1, zO 7 6 g1)] sz) := by
  refine z_xmet (Qc := fun A => va_Qv (fun _ : Unit => False) (fun _ _ => True) A) (XC := fun A => zX A zIB) (by decide +kernel) (Nat.le_of_ble_eq_true rfl) ?_
  intro p e s m args below meth c A ls H hx hb hr hg hown hlocks hml hno hK hP hD hA hS hZ hl
  have hown : s.vm.findClass RX11 = some m.cls := hown
  have hl : lv_has ls 4 [(0, .ref a0), (1, .int x0), (2, .int x1), (3, .int x2)] := hl
  refine lv_iload_n hx hb dX11_con_0 rfl (lv_at hl 2 rfl) ?_
  refine lv_iconst (v := (-1)) hx hb dX11_con_1 (by decide) ?_
  refine lv_icmp_eq (tgt := 10) hx hb dX11_con_2 (by decide) (fun c => absurd c e0) (fun _ => ?_)
  refine lv_aload_n hx hb dX11_con_5 rfl (lv_at hl 0 rfl) ?_
  refine lv_iload_n hx hb dX11_con_6 rfl (lv_at hl 2 rfl) ?_
  refine z_xcall (EX := zIB) [(a0, zO 9 9 g0), (a1, zO 7 6 g1)] [0, 1] hP hD hS hA rfl (by decide) 1 6 rfl rfl (fun hPc hDc hF => z_xrunV (As := [.int x1]) (rest := []) ⟨hx, hb, hml, hown, hg⟩ (cX11_checkTold_2 l hl9 K H.size a0 a1 g0 g1 x1 e1 e2 e3 e4) kV_RX11_76 hd_X11_checkTold rfl rfl ⟨(Nat.le_of_ble_eq_true rfl), (Nat.le_of_ble_eq_true rfl)⟩ hK hS hZ hPc hDc hF 0 rfl rfl rfl hl.1 rfl (Nat.le_of_ble_eq_true rfl) dX11_con_7 ⟨(Nat.le_of_ble_eq_true rfl), (Nat.le_of_ble_eq_true rfl)⟩) (fun ce q9 H locs hS hce hcv hcl => ?_)
  exact z_xout hno hlocks hS hce hcv hcl (Nat.le_of_ble_eq_true rfl) (Nat.le_of_ble_eq_true rfl)
set_option maxHeartbeats 4000000 in
set_option maxRecDepth 100000 in
theorem cL_con_7 (l : Launch) (hl9 : l.stackTraces = false) (K : zK) (sz : Nat) (a0 : Nat) (a1 : Nat) (a2 : Nat) (g0 : Nat → Value) (g2 : Nat → Value) (x0 : Int32) (x1 : Int32) (x2 : Int32) (e0 : ¬ x1 = (-1 : Int32)) (e1 : g0 0 = (.ref a2)) (e2 : ¬ x1 < (0 : Int32)) (e3 : g2 5 = (.int 0)) (e4 : (0 : Int32) ≤ x1) : vx_Met l yL_con (Cond.codeWith yL_con cL_con 6 (some .int) [(0, 12, 15, 27), (0, 12, 19, 18), (0, 12, 23, 13)] :: WG) { frames := 8, cells := 1, slots := 6, locals := 126 } (zPre K [(a0, zO 9 9 g0), (a2, zO 7 6 g2)] sz [.ref a0, .int x0, .int x1, .int x2, .ref a1]) (va_Qi (fun (r : Int32) (_ : Nat → Nat) => r = 1) (zB K (va_A [(a0, zO 9 9 g0), (a2, zO 7 6 g2)] sz) (fun u : Nat → Nat => [])) (va_A [(a0, zO 9 9 g0), (a2, zO 7 6 g2)] sz)) (vx_X (fun _ : Unit => False) (fun _ _ _ => True) (va_A [(a0, zO 9 9 g0), (a2, zO 7 6 g2)] sz)) 1 6 (va_A [(a0, zO 9 9 g0), (a2, zO 7 6 g2)] sz) := by
  refine z_hmet (Qc := fun A => (va_Qi (fun (r : Int32) (_ : Nat → Nat) => r = 1) (zB K A (fun u : Nat → Nat => [])) A)) (XC := fun A => vx_X (fun _ : Unit => False) (fun _ _ _ => True) A) (by decide +kernel) (Nat.le_of_ble_eq_true rfl) ?_
  intro p e s m args below meth c A ls H hx hb hr hg hown hlocks hml hTab hK hP hD hA hS hZ hl
  have hown : s.vm.findClass RL = some m.cls := hown
  have hl : lv_has ls 6 [(0, .ref a0), (1, .int x0), (2, .int x1), (3, .int x2), (4, .ref a1)] := hl
  refine lv_aload hx hb dL_con_0 (lv_at hl 4 rfl) ?_
  refine lv_iconst (v := 0) hx hb dL_con_2 (by decide) ?_
  refine lv_aload_n hx hb dL_con_3 rfl (lv_at hl 0 rfl) ?_
  refine lv_iload_n hx hb dL_con_4 rfl (lv_at hl 1 rfl) ?_
  refine lv_iload_n hx hb dL_con_5 rfl (lv_at hl 2 rfl) ?_
  refine lv_iload_n hx hb dL_con_6 rfl (lv_at hl 3 rfl) ?_
  refine z_xcall (EX := zIB) [(a0, zO 9 9 g0), (a2, zO 7 6 g2)] [0, 1] hP hD hS hA rfl (by decide) 1 6 rfl rfl (fun hPc hDc hF => z_xrunV (As := [.int x0, .int x1, .int x2]) (rest := [.int 0, .ref a1]) ⟨hx, hb, hml, hown, hg⟩ (cX11_con_7 l hl9 K H.size a0 a2 g0 g2 x0 x1 x2 e0 e1 e2 e3 e4) kV_RL_36 hd_X11_con rfl rfl ⟨(Nat.le_of_ble_eq_true rfl), (Nat.le_of_ble_eq_true rfl)⟩ hK hS hZ hPc hDc hF 0 rfl rfl rfl hl.1 rfl (Nat.le_of_ble_eq_true rfl) dL_con_7 ⟨(Nat.le_of_ble_eq_true rfl), (Nat.le_of_ble_eq_true rfl)⟩) (fun ce q9 H locs hS hce hcv hcl => ?_)
  refine vx_catch (own := RL) (name := zIB) (E := zIB) hown [] ⟨0, 12, 15, 27⟩ [⟨0, 12, 19, 18⟩, ⟨0, 12, 23, 13⟩] (by rw [hTab]; rfl) (fun z hz => nomatch hz) (by decide) (by decide) (hg _ mt526) (va_Nw.use rfl hZ.1.1.2.2.2.1) hce hcv hcl ?_
  have hP : va_P K.1 classes [] H := z_P0
  have hD : va_D A [] := z_D0
  refine lv_astore (lv' := [(5, .ref q9), (0, .ref a0), (1, .int x0), (2, .int x1), (3, .int x2), (4, .ref a1)]) hx hb dL_con_15 hl (by decide) rfl (fun ls hl => ?_)
  refine lv_iconst (v := 1) hx hb dL_con_17 (by decide) ?_
  have hP9 : va_P K.1 classes [] H := hP.sub [] rfl
  have hD9 : va_D A [] := hD.sub [] (by decide) rfl
  exact z_iret hx hb hr (fun _ => 0) rfl hP9 hD9 hS (Nat.le_of_ble_eq_true rfl) (Nat.le_of_ble_eq_true rfl) hlocks dL_con_18
set_option maxHeartbeats 4000000 in
set_option maxRecDepth 100000 in
theorem cX12_con_7 (l : Launch) (K : zK) (sz : Nat) (a0 : Nat) (g0 : Nat → Value) (x0 : Int32) (x1 : Int32) (x2 : Int32) (e0 : ¬ x1 = (-1 : Int32)) (e1 : g0 0 = (.int 0)) (e2 : ¬ x1 < (0 : Int32)) (e3 : (-1 : Int32) < x1) : Met l yX12_con (Cond.code yX12_con cX12_con 6 (some .int) :: WG) { frames := 2, cells := 0, slots := 0, locals := 43 } (zPre K [(a0, zO 10 83 g0)] sz [.ref a0, .int x0, .int x1, .int x2]) (va_Qi (fun (r : Int32) (_ : Nat → Nat) => r = 0) (zB K (va_A [(a0, zO 10 83 g0)] sz) (fun u : Nat → Nat => [(a0, zO 10 83 (va_up g0 81 (.int 1)))])) (va_A [(a0, zO 10 83 g0)] sz)) 0 0 (va_A [(a0, zO 10 83 g0)] sz) := by
  refine z_met (Qc := fun A => (va_Qi (fun (r : Int32) (_ : Nat → Nat) => r = 0) (zB K A (fun u : Nat → Nat => [(a0, zO 10 83 (va_up g0 81 (.int 1)))])) A)) (by decide +kernel) (Nat.le_of_ble_eq_true rfl) ?_
  intro p e s m args below meth c A ls H hx hb hr hg hown hlocks hml hin hK hP hD hA hS hZ hl
  have hown : s.vm.findClass RX12 = some m.cls := hown
  have hl : lv_has ls 6 [(0, .ref a0), (1, .int x0), (2, .int x1), (3, .int x2)] := hl
  refine lv_iload_n hx hb dX12_con_0 rfl (lv_at hl 2 rfl) ?_
  refine lv_iconst (v := (-1)) hx hb dX12_con_1 (by decide) ?_
  refine lv_icmp_eq (tgt := 13) hx hb dX12_con_2 (by decide) (fun c => absurd c e0) (fun _ => ?_)
  refine lv_aload_n hx hb dX12_con_5 rfl (lv_at hl 0 rfl) ?_
  refine lv_iload_n hx hb dX12_con_6 rfl (lv_at hl 2 rfl) ?_
  refine z_calli [(a0, zO 10 83 g0)] [] [0] [] hP hD hS hA rfl rfl (by decide) (by decide) (by decide +kernel) 0 0 rfl rfl (fun hPc hDc hF => z_runV (As := [.int x1]) (rest := []) ⟨hx, hb, hml, hown, hg⟩ (cX12_isNode_2 l K H.size a0 g0 x1 e1 e2 e3) kV_RX12_200 hd_X12_isNode rfl rfl ⟨(Nat.le_of_ble_eq_true rfl), (Nat.le_of_ble_eq_true rfl)⟩ hK hS hZ hPc hDc hF 0 rfl rfl rfl hl.1 rfl (Nat.le_of_ble_eq_true rfl) dX12_con_7 ⟨(Nat.le_of_ble_eq_true rfl), (Nat.le_of_ble_eq_true rfl)⟩) (fun r3 u1 H locs w2 hP hD hS => ?_)
  subst w2
  have hP : va_P K.1 classes [(a0, zO 10 83 g0)] H := hP
  have hD : va_D A [(a0, zO 10 83 g0)] := hD
  refine lv_if_eq (tgt := 30) hx hb dX12_con_10 (by decide) (fun _ => ?_) (fun c => absurd (by decide) c)
  refine lv_iconst (v := 0) hx hb dX12_con_30 (by decide) ?_
  refine lv_istore (lv' := [(4, .int 0), (0, .ref a0), (1, .int x0), (2, .int x1), (3, .int x2)]) hx hb dX12_con_31 hl (by decide) rfl (fun ls hl => ?_)
  refine lv_iload hx hb dX12_con_33 (lv_at hl 0 rfl) ?_
  refine lv_if_eq (tgt := 85) hx hb dX12_con_35 (by decide) (fun _ => ?_) (fun c => absurd (by decide) c)
  refine lv_iconst (v := 0) hx hb dX12_con_85 (by decide) ?_
  refine lv_istore (lv' := [(5, .int 0), (4, .int 0), (0, .ref a0), (1, .int x0), (2, .int x1), (3, .int x2)]) hx hb dX12_con_86 hl (by decide) rfl (fun ls hl => ?_)
  refine lv_aload_n hx hb dX12_con_88 rfl (lv_at hl 2 rfl) ?_
  refine lv_iload hx hb dX12_con_89 (lv_at hl 1 rfl) ?_
  refine lv_iload hx hb dX12_con_91 (lv_at hl 0 rfl) ?_
  refine z_calli [(a0, zO 10 83 g0)] [] [0] [] hP hD hS hA rfl rfl (by decide) (by decide) (by decide +kernel) 0 0 rfl rfl (fun hPc hDc hF => z_runV (As := [.int 0, .int 0]) (rest := []) ⟨hx, hb, hml, hown, hg⟩ (cX12_mayTell_1 l K H.size a0 g0) kV_RX12_203 hd_X12_mayTell rfl rfl ⟨(Nat.le_of_ble_eq_true rfl), (Nat.le_of_ble_eq_true rfl)⟩ hK hS hZ hPc hDc hF 0 rfl rfl rfl hl.1 rfl (Nat.le_of_ble_eq_true rfl) dX12_con_93 ⟨(Nat.le_of_ble_eq_true rfl), (Nat.le_of_ble_eq_true rfl)⟩) (fun r6 u4 H locs w5 hP hD hS => ?_)
  subst w5
  have hP : va_P K.1 classes [(a0, zO 10 83 (va_up g0 81 (.int 1)))] H := hP
  have hD : va_D A [(a0, zO 10 83 (va_up g0 81 (.int 1)))] := hD
  refine lv_if_eq (tgt := 113) hx hb dX12_con_96 (by decide) (fun _ => ?_) (fun c => absurd (by decide) c)
  refine lv_iconst (v := 0) hx hb dX12_con_113 (by decide) ?_
  have hP9 : va_P K.1 classes [(a0, zO 10 83 (va_up g0 81 (.int 1)))] H := hP.sub [0] rfl
  have hD9 : va_D A [(a0, zO 10 83 (va_up g0 81 (.int 1)))] := hD.sub [0] (by decide) rfl
  exact z_iret hx hb hr (fun _ => 0) rfl hP9 hD9 hS (Nat.le_of_ble_eq_true rfl) (Nat.le_of_ble_eq_true rfl) hlocks dX12_con_114
set_option maxHeartbeats 4000000 in
set_option maxRecDepth 100000 in
theorem cX11_match_1 (l : Launch) (hl9 : l.stackTraces = false) (K : zK) (sz : Nat) (a0 : Nat) (a1 : Nat) (g0 : Nat → Value) (g1 : Nat → Value) (x0 : Int32) (x1 : Int32) (x2 : Int32) (x3 : Int32) (x4 : Int32) (x5 : Int32) (e0 : g0 0 = (.ref a1)) (e1 : x0 < (0 : Int32)) : vx_Met l yX11_match (Cond.code yX11_match cX11_match 7 (some .int) :: WG) { frames := 7, cells := 1, slots := 6, locals := 103 } (zPre K [(a0, zO 9 9 g0), (a1, zO 7 6 g1)] sz [.ref a0, .int x0, .int x1, .int x2, .int x3, .int x4, .int x5]) (va_Qv (fun _ : Unit => False) (fun _ _ => True) (va_A [(a0, zO 9 9 g0), (a1, zO 7 6 g1)] sz)) (zX (va_A [(a0, zO 9 9 g0), (a1, zO 7 6 g1)] sz) zIB) 1 6 (va_A [(a0, zO 9 9 g0), (a1, zO 7 6 g1)] sz) := by
  refine z_xmet (Qc := fun A => va_Qv (fun _ : Unit => False) (fun _ _ => True) A) (XC := fun A => zX A zIB) (by decide +kernel) (Nat.le_of_ble_eq_true rfl) ?_
  intro p e s m args below meth c A ls H hx hb hr hg hown hlocks hml hno hK hP hD hA hS hZ hl
  have hown : s.vm.findClass RX11 = some m.cls := hown
  have hl : lv_has ls 7 [(0, .ref a0), (1, .int x0), (2, .int x1), (3, .int x2), (4, .int x3), (5, .int x4), (6, .int x5)] := hl
  refine lv_aload_n hx hb dX11_match_0 rfl (lv_at hl 0 rfl) ?_
  refine lv_iload_n hx hb dX11_match_1 rfl (lv_at hl 1 rfl) ?_
  refine z_xcall (EX := zIB) [(a0, zO 9 9 g0), (a1, zO 7 6 g1)] [0, 1] hP hD hS hA rfl (by decide) 1 6 rfl rfl (fun hPc hDc hF => z_xrunV (As := [.int x0]) (rest := []) ⟨hx, hb, hml, hown, hg⟩ (cX11_checkTold_1 l hl9 K H.size a0 a1 g0 g1 x0 e0 e1) kV_RX11_76 hd_X11_checkTold rfl rfl ⟨(Nat.le_of_ble_eq_true rfl), (Nat.le_of_ble_eq_true rfl)⟩ hK hS hZ hPc hDc hF 0 rfl rfl rfl hl.1 rfl (Nat.le_of_ble_eq_true rfl) dX11_match_2 ⟨(Nat.le_of_ble_eq_true rfl), (Nat.le_of_ble_eq_true rfl)⟩) (fun ce q9 H locs hS hce hcv hcl => ?_)
  exact z_xout hno hlocks hS hce hcv hcl (Nat.le_of_ble_eq_true rfl) (Nat.le_of_ble_eq_true rfl)
set_option maxHeartbeats 4000000 in
set_option maxRecDepth 100000 in
theorem cL_match_1 (l : Launch) (hl9 : l.stackTraces = false) (K : zK) (sz : Nat) (a0 : Nat) (a1 : Nat) (a2 : Nat) (g0 : Nat → Value) (g2 : Nat → Value) (x0 : Int32) (x1 : Int32) (x2 : Int32) (x3 : Int32) (x4 : Int32) (x5 : Int32) (e0 : g0 0 = (.ref a2)) (e1 : x0 < (0 : Int32)) : vx_Met l yL_match (Cond.codeWith yL_match cL_match 9 (some .int) [(0, 18, 21, 27), (0, 18, 25, 18), (0, 18, 29, 13)] :: WG) { frames := 8, cells := 1, slots := 6, locals := 129 } (zPre K [(a0, zO 9 9 g0), (a2, zO 7 6 g2)] sz [.ref a0, .int x0, .int x1, .int x2, .int x3, .int x4, .int x5, .ref a1]) (va_Qi (fun (r : Int32) (_ : Nat → Nat) => r = 1) (zB K (va_A [(a0, zO 9 9 g0), (a2, zO 7 6 g2)] sz) (fun u : Nat → Nat => [])) (va_A [(a0, zO 9 9 g0), (a2, zO 7 6 g2)] sz)) (vx_X (fun _ : Unit => False) (fun _ _ _ => True) (va_A [(a0, zO 9 9 g0), (a2, zO 7 6 g2)] sz)) 1 6 (va_A [(a0, zO 9 9 g0), (a2, zO 7 6 g2)] sz) := by
  refine z_hmet (Qc := fun A => (va_Qi (fun (r : Int32) (_ : Nat → Nat) => r = 1) (zB K A (fun u : Nat → Nat => [])) A)) (XC := fun A => vx_X (fun _ : Unit => False) (fun _ _ _ => True) A) (by decide +kernel) (Nat.le_of_ble_eq_true rfl) ?_
  intro p e s m args below meth c A ls H hx hb hr hg hown hlocks hml hTab hK hP hD hA hS hZ hl
  have hown : s.vm.findClass RL = some m.cls := hown
  have hl : lv_has ls 9 [(0, .ref a0), (1, .int x0), (2, .int x1), (3, .int x2), (4, .int x3), (5, .int x4), (6, .int x5), (7, .ref a1)] := hl
  refine lv_aload hx hb dL_match_0 (lv_at hl 7 rfl) ?_
  refine lv_iconst (v := 0) hx hb dL_match_2 (by decide) ?_
  refine lv_aload_n hx hb dL_match_3 rfl (lv_at hl 0 rfl) ?_
  refine lv_iload_n hx hb dL_match_4 rfl (lv_at hl 1 rfl) ?_
  refine lv_iload_n hx hb dL_match_5 rfl (lv_at hl 2 rfl) ?_
  refine lv_iload_n hx hb dL_match_6 rfl (lv_at hl 3 rfl) ?_
  refine lv_iload hx hb dL_match_7 (lv_at hl 4 rfl) ?_
  refine lv_iload hx hb dL_match_9 (lv_at hl 5 rfl) ?_
  refine lv_iload hx hb dL_match_11 (lv_at hl 6 rfl) ?_
  refine z_xcall (EX := zIB) [(a0, zO 9 9 g0), (a2, zO 7 6 g2)] [0, 1] hP hD hS hA rfl (by decide) 1 6 rfl rfl (fun hPc hDc hF => z_xrunV (As := [.int x0, .int x1, .int x2, .int x3, .int x4, .int x5]) (rest := [.int 0, .ref a1]) ⟨hx, hb, hml, hown, hg⟩ (cX11_match_1 l hl9 K H.size a0 a2 g0 g2 x0 x1 x2 x3 x4 x5 e0 e1) kV_RL_39 hd_X11_match rfl rfl ⟨(Nat.le_of_ble_eq_true rfl), (Nat.le_of_ble_eq_true rfl)⟩ hK hS hZ hPc hDc hF 0 rfl rfl rfl hl.1 rfl (Nat.le_of_ble_eq_true rfl) dL_match_13 ⟨(Nat.le_of_ble_eq_true rfl), (Nat.le_of_ble_eq_true rfl)⟩) (fun ce q9 H locs hS hce hcv hcl => ?_)
  refine vx_catch (own := RL) (name := zIB) (E := zIB) hown [] ⟨0, 18, 21, 27⟩ [⟨0, 18, 25, 18⟩, ⟨0, 18, 29, 13⟩] (by rw [hTab]; rfl) (fun z hz => nomatch hz) (by decide) (by decide) (hg _ mt526) (va_Nw.use rfl hZ.1.1.2.2.2.1) hce hcv hcl ?_
  have hP : va_P K.1 classes [] H := z_P0
  have hD : va_D A [] := z_D0
  refine lv_astore (lv' := [(8, .ref q9), (0, .ref a0), (1, .int x0), (2, .int x1), (3, .int x2), (4, .int x3), (5, .int x4), (6, .int x5), (7, .ref a1)]) hx hb dL_match_21 hl (by decide) rfl (fun ls hl => ?_)
  refine lv_iconst (v := 1) hx hb dL_match_23 (by decide) ?_
  have hP9 : va_P K.1 classes [] H := hP.sub [] rfl
  have hD9 : va_D A [] := hD.sub [] (by decide) rfl
  exact z_iret hx hb hr (fun _ => 0) rfl hP9 hD9 hS (Nat.le_of_ble_eq_true rfl) (Nat.le_of_ble_eq_true rfl) hlocks dL_match_24
set_option maxHeartbeats 4000000 in
set_option maxRecDepth 100000 in
theorem cX12_match_1 (l : Launch) (K : zK) (sz : Nat) (a0 : Nat) (g0 : Nat → Value) (x0 : Int32) (x1 : Int32) (x2 : Int32) (x3 : Int32) (x4 : Int32) (x5 : Int32) (e0 : g0 0 = (.int 0)) (e1 : x0 < (0 : Int32)) (e2 : x1 < (0 : Int32)) : Met l yX12_match (Cond.code yX12_match cX12_match 8 (some .int) :: WG) { frames := 2, cells := 0, slots := 0, locals := 43 } (zPre K [(a0, zO 10 83 g0)] sz [.ref a0, .int x0, .int x1, .int x2, .int x3, .int x4, .int x5]) (va_Qi (fun (r : Int32) (_ : Nat → Nat) => r = 0) (zB K (va_A [(a0, zO 10 83 g0)] sz) (fun u : Nat → Nat => [(a0, zO 10 83 (va_up g0 81 (.int 1)))])) (va_A [(a0, zO 10 83 g0)] sz)) 0 0 (va_A [(a0, zO 10 83 g0)] sz) := by
  refine z_met (Qc := fun A => (va_Qi (fun (r : Int32) (_ : Nat → Nat) => r = 0) (zB K A (fun u : Nat → Nat => [(a0, zO 10 83 (va_up g0 81 (.int 1)))])) A)) (by decide +kernel) (Nat.le_of_ble_eq_true rfl) ?_
  intro p e s m args below meth c A ls H hx hb hr hg hown hlocks hml hin hK hP hD hA hS hZ hl
  have hown : s.vm.findClass RX12 = some m.cls := hown
  have hl : lv_has ls 8 [(0, .ref a0), (1, .int x0), (2, .int x1), (3, .int x2), (4, .int x3), (5, .int x4), (6, .int x5)] := hl
  refine lv_aload_n hx hb dX12_match_0 rfl (lv_at hl 0 rfl) ?_
  refine lv_iload_n hx hb dX12_match_1 rfl (lv_at hl 1 rfl) ?_
  refine z_calli [(a0, zO 10 83 g0)] [] [0] [] hP hD hS hA rfl rfl (by decide) (by decide) (by decide +kernel) 0 0 rfl rfl (fun hPc hDc hF => z_runV (As := [.int x0]) (rest := []) ⟨hx, hb, hml, hown, hg⟩ (cX12_isNode_1 l K H.size a0 g0 x0 e0 e1) kV_RX12_200 hd_X12_isNode rfl rfl ⟨(Nat.le_of_ble_eq_true rfl), (Nat.le_of_ble_eq_true rfl)⟩ hK hS hZ hPc hDc hF 0 rfl rfl rfl hl.1 rfl (Nat.le_of_ble_eq_true rfl) dX12_match_2 ⟨(Nat.le_of_ble_eq_true rfl), (Nat.le_of_ble_eq_true rfl)⟩) (fun r3 u1 H locs w2 hP hD hS => ?_)
  subst w2
  have hP : va_P K.1 classes [(a0, zO 10 83 g0)] H := hP
  have hD : va_D A [(a0, zO 10 83 g0)] := hD
  refine lv_if_eq (tgt := 30) hx hb dX12_match_5 (by decide) (fun _ => ?_) (fun c => absurd (by decide) c)
  refine lv_iconst (v := 0) hx hb dX12_match_30 (by decide) ?_
  refine lv_istore (lv' := [(7, .int 0), (0, .ref a0), (1, .int x0), (2, .int x1), (3, .int x2), (4, .int x3), (5, .int x4), (6, .int x5)]) hx hb dX12_match_31 hl (by decide) rfl (fun ls hl => ?_)
  refine lv_aload_n hx hb dX12_match_33 rfl (lv_at hl 1 rfl) ?_
  refine lv_iload hx hb dX12_match_34 (lv_at hl 0 rfl) ?_
  refine lv_iload_n hx hb dX12_match_36 rfl (lv_at hl 3 rfl) ?_
  refine lv_iconst (v := 0) hx hb dX12_match_37 (by decide) ?_
  refine lv_iconst (v := 3) hx hb dX12_match_38 (by decide) ?_
  refine z_calli [] [(a0, zO 10 83 g0)] [] [0] hP hD hS hA rfl rfl (by decide) (by decide) (by decide +kernel) 0 0 rfl rfl (fun hPc hDc hF => z_runS (As := [.int x1, .int 0, .int 3]) (rest := [.int 0, .ref a0]) ⟨hx, hb, hml, hown, hg⟩ (cX12_isIn_9 l K H.size x1 e2) kS_RX12_175 hd_X12_isIn rfl rfl ⟨(Nat.le_of_ble_eq_true rfl), (Nat.le_of_ble_eq_true rfl)⟩ hK hS hZ hPc hDc hF rfl hl.1 rfl (Nat.le_of_ble_eq_true rfl) dX12_match_39 ⟨(Nat.le_of_ble_eq_true rfl), (Nat.le_of_ble_eq_true rfl)⟩) (fun r6 u4 H locs w5 hP hD hS => ?_)
  subst w5
  have hP : va_P K.1 classes [(a0, zO 10 83 g0)] H := hP
  have hD : va_D A [(a0, zO 10 83 g0)] := hD
  refine lv_if_eq (tgt := 64) hx hb dX12_match_42 (by decide) (fun _ => ?_) (fun c => absurd (by decide) c)
  refine lv_iconst (v := 0) hx hb dX12_match_64 (by decide) ?_
  refine z_calli [(a0, zO 10 83 g0)] [] [0] [] hP hD hS hA rfl rfl (by decide) (by decide) (by decide +kernel) 0 0 rfl rfl (fun hPc hDc hF => z_runV (As := [.int 0, .int 0]) (rest := []) ⟨hx, hb, hml, hown, hg⟩ (cX12_mayTell_1 l K H.size a0 g0) kV_RX12_203 hd_X12_mayTell rfl rfl ⟨(Nat.le_of_ble_eq_true rfl), (Nat.le_of_ble_eq_true rfl)⟩ hK hS hZ hPc hDc hF 0 rfl rfl rfl hl.1 rfl (Nat.le_of_ble_eq_true rfl) dX12_match_65 ⟨(Nat.le_of_ble_eq_true rfl), (Nat.le_of_ble_eq_true rfl)⟩) (fun r9 u7 H locs w8 hP hD hS => ?_)
  subst w8
  have hP : va_P K.1 classes [(a0, zO 10 83 (va_up g0 81 (.int 1)))] H := hP
  have hD : va_D A [(a0, zO 10 83 (va_up g0 81 (.int 1)))] := hD
  refine lv_if_ne (tgt := 73) hx hb dX12_match_68 (by decide) (fun c => absurd (by decide) c) (fun _ => ?_)
  refine lv_iconst (v := 0) hx hb dX12_match_71 (by decide) ?_
  have hP9 : va_P K.1 classes [(a0, zO 10 83 (va_up g0 81 (.int 1)))] H := hP.sub [0] rfl
  have hD9 : va_D A [(a0, zO 10 83 (va_up g0 81 (.int 1)))] := hD.sub [0] (by decide) rfl
  exact z_iret hx hb hr (fun _ => 0) rfl hP9 hD9 hS (Nat.le_of_ble_eq_true rfl) (Nat.le_of_ble_eq_true rfl) hlocks dX12_match_72
set_option maxHeartbeats 4000000 in
set_option maxRecDepth 100000 in
theorem cX11_match_2 (l : Launch) (hl9 : l.stackTraces = false) (K : zK) (sz : Nat) (a0 : Nat) (a1 : Nat) (g0 : Nat → Value) (g1 : Nat → Value) (x0 : Int32) (j1 : Nat) (hj1 : j1 < 4) (x2 : Int32) (x3 : Int32) (x4 : Int32) (x5 : Int32) (e0 : g0 0 = (.ref a1)) (e1 : x0 < (0 : Int32)) : vx_Met l yX11_match (Cond.code yX11_match cX11_match 7 (some .int) :: WG) { frames := 7, cells := 1, slots := 6, locals := 103 } (zPre K [(a0, zO 9 9 g0), (a1, zO 7 6 g1)] sz [.ref a0, .int x0, .int (nI j1), .int x2, .int x3, .int x4, .int x5]) (va_Qv (fun _ : Unit => False) (fun _ _ => True) (va_A [(a0, zO 9 9 g0), (a1, zO 7 6 g1)] sz)) (zX (va_A [(a0, zO 9 9 g0), (a1, zO 7 6 g1)] sz) zIB) 1 6 (va_A [(a0, zO 9 9 g0), (a1, zO 7 6 g1)] sz) := by
  refine z_xmet (Qc := fun A => va_Qv (fun _ : Unit => False) (fun _ _ => True) A) (XC := fun A => zX A zIB) (by decide +kernel) (Nat.le_of_ble_eq_true rfl) ?_
  intro p e s m args below meth c A ls H hx hb hr hg hown hlocks hml hno hK hP hD hA hS hZ hl
  have hown : s.vm.findClass RX11 = some m.cls := hown
  have hl : lv_has ls 7 [(0, .ref a0), (1, .int x0), (2, .int (nI j1)), (3, .int x2), (4, .int x3), (5, .int x4), (6, .int x5)] := hl
  refine lv_aload_n hx hb dX11_match_0 rfl (lv_at hl 0 rfl) ?_
  refine lv_iload_n hx hb dX11_match_1 rfl (lv_at hl 1 rfl) ?_
  refine z_xcall (EX := zIB) [(a0, zO 9 9 g0), (a1, zO 7 6 g1)] [0, 1] hP hD hS hA rfl (by decide) 1 6 rfl rfl (fun hPc hDc hF => z_xrunV (As := [.int x0]) (rest := []) ⟨hx, hb, hml, hown, hg⟩ (cX11_checkTold_1 l hl9 K H.size a0 a1 g0 g1 x0 e0 e1) kV_RX11_76 hd_X11_checkTold rfl rfl ⟨(Nat.le_of_ble_eq_true rfl), (Nat.le_of_ble_eq_true rfl)⟩ hK hS hZ hPc hDc hF 0 rfl rfl rfl hl.1 rfl (Nat.le_of_ble_eq_true rfl) dX11_match_2 ⟨(Nat.le_of_ble_eq_true rfl), (Nat.le_of_ble_eq_true rfl)⟩) (fun ce q9 H locs hS hce hcv hcl => ?_)
  exact z_xout hno hlocks hS hce hcv hcl (Nat.le_of_ble_eq_true rfl) (Nat.le_of_ble_eq_true rfl)
set_option maxHeartbeats 4000000 in
set_option maxRecDepth 100000 in
theorem cL_match_2 (l : Launch) (hl9 : l.stackTraces = false) (K : zK) (sz : Nat) (a0 : Nat) (a1 : Nat) (a2 : Nat) (g0 : Nat → Value) (g2 : Nat → Value) (x0 : Int32) (j1 : Nat) (hj1 : j1 < 4) (x2 : Int32) (x3 : Int32) (x4 : Int32) (x5 : Int32) (e0 : g0 0 = (.ref a2)) (e1 : x0 < (0 : Int32)) : vx_Met l yL_match (Cond.codeWith yL_match cL_match 9 (some .int) [(0, 18, 21, 27), (0, 18, 25, 18), (0, 18, 29, 13)] :: WG) { frames := 8, cells := 1, slots := 6, locals := 129 } (zPre K [(a0, zO 9 9 g0), (a2, zO 7 6 g2)] sz [.ref a0, .int x0, .int (nI j1), .int x2, .int x3, .int x4, .int x5, .ref a1]) (va_Qi (fun (r : Int32) (_ : Nat → Nat) => r = 1) (zB K (va_A [(a0, zO 9 9 g0), (a2, zO 7 6 g2)] sz) (fun u : Nat → Nat => [])) (va_A [(a0, zO 9 9 g0), (a2, zO 7 6 g2)] sz)) (vx_X (fun _ : Unit => False) (fun _ _ _ => True) (va_A [(a0, zO 9 9 g0), (a2, zO 7 6 g2)] sz)) 1 6 (va_A [(a0, zO 9 9 g0), (a2, zO 7 6 g2)] sz) := by
  refine z_hmet (Qc := fun A => (va_Qi (fun (r : Int32) (_ : Nat → Nat) => r = 1) (zB K A (fun u : Nat → Nat => [])) A)) (XC := fun A => vx_X (fun _ : Unit => False) (fun _ _ _ => True) A) (by decide +kernel) (Nat.le_of_ble_eq_true rfl) ?_
  intro p e s m args below meth c A ls H hx hb hr hg hown hlocks hml hTab hK hP hD hA hS hZ hl
  have hown : s.vm.findClass RL = some m.cls := hown
  have hl : lv_has ls 9 [(0, .ref a0), (1, .int x0), (2, .int (nI j1)), (3, .int x2), (4, .int x3), (5, .int x4), (6, .int x5), (7, .ref a1)] := hl
  refine lv_aload hx hb dL_match_0 (lv_at hl 7 rfl) ?_
  refine lv_iconst (v := 0) hx hb dL_match_2 (by decide) ?_
  refine lv_aload_n hx hb dL_match_3 rfl (lv_at hl 0 rfl) ?_
  refine lv_iload_n hx hb dL_match_4 rfl (lv_at hl 1 rfl) ?_
  refine lv_iload_n hx hb dL_match_5 rfl (lv_at hl 2 rfl) ?_
  refine lv_iload_n hx hb dL_match_6 rfl (lv_at hl 3 rfl) ?_
  refine lv_iload hx hb dL_match_7 (lv_at hl 4 rfl) ?_
  refine lv_iload hx hb dL_match_9 (lv_at hl 5 rfl) ?_
  refine lv_iload hx hb dL_match_11 (lv_at hl 6 rfl) ?_
  refine z_xcall (EX := zIB) [(a0, zO 9 9 g0), (a2, zO 7 6 g2)] [0, 1] hP hD hS hA rfl (by decide) 1 6 rfl rfl (fun hPc hDc hF => z_xrunV (As := [.int x0, .int (nI j1), .int x2, .int x3, .int x4, .int x5]) (rest := [.int 0, .ref a1]) ⟨hx, hb, hml, hown, hg⟩ (cX11_match_2 l hl9 K H.size a0 a2 g0 g2 x0 j1 hj1 x2 x3 x4 x5 e0 e1) kV_RL_39 hd_X11_match rfl rfl ⟨(Nat.le_of_ble_eq_true rfl), (Nat.le_of_ble_eq_true rfl)⟩ hK hS hZ hPc hDc hF 0 rfl rfl rfl hl.1 rfl (Nat.le_of_ble_eq_true rfl) dL_match_13 ⟨(Nat.le_of_ble_eq_true rfl), (Nat.le_of_ble_eq_true rfl)⟩) (fun ce q9 H locs hS hce hcv hcl => ?_)
  refine vx_catch (own := RL) (name := zIB) (E := zIB) hown [] ⟨0, 18, 21, 27⟩ [⟨0, 18, 25, 18⟩, ⟨0, 18, 29, 13⟩] (by rw [hTab]; rfl) (fun z hz => nomatch hz) (by decide) (by decide) (hg _ mt526) (va_Nw.use rfl hZ.1.1.2.2.2.1) hce hcv hcl ?_
  have hP : va_P K.1 classes [] H := z_P0
  have hD : va_D A [] := z_D0
  refine lv_astore (lv' := [(8, .ref q9), (0, .ref a0), (1, .int x0), (2, .int (nI j1)), (3, .int x2), (4, .int x3), (5, .int x4), (6, .int x5), (7, .ref a1)]) hx hb dL_match_21 hl (by decide) rfl (fun ls hl => ?_)
  refine lv_iconst (v := 1) hx hb dL_match_23 (by decide) ?_
  have hP9 : va_P K.1 classes [] H := hP.sub [] rfl
  have hD9 : va_D A [] := hD.sub [] (by decide) rfl
  exact z_iret hx hb hr (fun _ => 0) rfl hP9 hD9 hS (Nat.le_of_ble_eq_true rfl) (Nat.le_of_ble_eq_true rfl) hlocks dL_match_24
set_option maxHeartbeats 4000000 in
set_option maxRecDepth 100000 in
theorem cX12_match_2 (l : Launch) (K : zK) (sz : Nat) (a0 : Nat) (g0 : Nat → Value) (x0 : Int32) (j1 : Nat) (hj1 : j1 < 4) (x2 : Int32) (x3 : Int32) (x4 : Int32) (x5 : Int32) (e0 : g0 0 = (.int 0)) (e1 : x0 < (0 : Int32)) (e2 : x2 < (0 : Int32)) : Met l yX12_match (Cond.code yX12_match cX12_match 8 (some .int) :: WG) { frames := 2, cells := 0, slots := 0, locals := 43 } (zPre K [(a0, zO 10 83 g0)] sz [.ref a0, .int x0, .int (nI j1), .int x2, .int x3, .int x4, .int x5]) (va_Qi (fun (r : Int32) (_ : Nat → Nat) => r = 0) (zB K (va_A [(a0, zO 10 83 g0)] sz) (fun u : Nat → Nat => [(a0, zO 10 83 (va_up g0 81 (.int 1)))])) (va_A [(a0, zO 10 83 g0)] sz)) 0 0 (va_A [(a0, zO 10 83 g0)] sz) := by
  refine z_met (Qc := fun A => (va_Qi (fun (r : Int32) (_ : Nat → Nat) => r = 0) (zB K A (fun u : Nat → Nat => [(a0, zO 10 83 (va_up g0 81 (.int 1)))])) A)) (by decide +kernel) (Nat.le_of_ble_eq_true rfl) ?_
  intro p e s m args below meth c A ls H hx hb hr hg hown hlocks hml hin hK hP hD hA hS hZ hl
  have hown : s.vm.findClass RX12 = some m.cls := hown
  have hl : lv_has ls 8 [(0, .ref a0), (1, .int x0), (2, .int (nI j1)), (3, .int x2), (4, .int x3), (5, .int x4), (6, .int x5)] := hl
  refine lv_aload_n hx hb dX12_match_0 rfl (lv_at hl 0 rfl) ?_
  refine lv_iload_n hx hb dX12_match_1 rfl (lv_at hl 1 rfl) ?_
  refine z_calli [(a0, zO 10 83 g0)] [] [0] [] hP hD hS hA rfl rfl (by decide) (by decide) (by decide +kernel) 0 0 rfl rfl (fun hPc hDc hF => z_runV (As := [.int x0]) (rest := []) ⟨hx, hb, hml, hown, hg⟩ (cX12_isNode_1 l K H.size a0 g0 x0 e0 e1) kV_RX12_200 hd_X12_isNode rfl rfl ⟨(Nat.le_of_ble_eq_true rfl), (Nat.le_of_ble_eq_true rfl)⟩ hK hS hZ hPc hDc hF 0 rfl rfl rfl hl.1 rfl (Nat.le_of_ble_eq_true rfl) dX12_match_2 ⟨(Nat.le_of_ble_eq_true rfl), (Nat.le_of_ble_eq_true rfl)⟩) (fun r3 u1 H locs w2 hP hD hS => ?_)
  subst w2
  have hP : va_P K.1 classes [(a0, zO 10 83 g0)] H := hP
  have hD : va_D A [(a0, zO 10 83 g0)] := hD
  refine lv_if_eq (tgt := 30) hx hb dX12_match_5 (by decide) (fun _ => ?_) (fun c => absurd (by decide) c)
  refine lv_iconst (v := 0) hx hb dX12_match_30 (by decide) ?_
  refine lv_istore (lv' := [(7, .int 0), (0, .ref a0), (1, .int x0), (2, .int (nI j1)), (3, .int x2), (4, .int x3), (5, .int x4), (6, .int x5)]) hx hb dX12_match_31 hl (by decide) rfl (fun ls hl => ?_)
  refine lv_aload_n hx hb dX12_match_33 rfl (lv_at hl 1 rfl) ?_
  refine lv_iload hx hb dX12_match_34 (lv_at hl 0 rfl) ?_
  refine lv_iload_n hx hb dX12_match_36 rfl (lv_at hl 3 rfl) ?_
  refine lv_iconst (v := 0) hx hb dX12_match_37 (by decide) ?_
  refine lv_iconst (v := 3) hx hb dX12_match_38 (by decide) ?_
  refine z_calli [] [(a0, zO 10 83 g0)] [] [0] hP hD hS hA rfl rfl (by decide) (by decide) (by decide +kernel) 0 0 rfl rfl (fun hPc hDc hF => z_runS (As := [.int (nI j1), .int 0, .int 3]) (rest := [.int 0, .ref a0]) ⟨hx, hb, hml, hown, hg⟩ (cX12_isIn_10 l K H.size j1 hj1) kS_RX12_175 hd_X12_isIn rfl rfl ⟨(Nat.le_of_ble_eq_true rfl), (Nat.le_of_ble_eq_true rfl)⟩ hK hS hZ hPc hDc hF rfl hl.1 rfl (Nat.le_of_ble_eq_true rfl) dX12_match_39 ⟨(Nat.le_of_ble_eq_true rfl), (Nat.le_of_ble_eq_true rfl)⟩) (fun r6 u4 H locs w5 hP hD hS => ?_)
  subst w5
  have hP : va_P K.1 classes [(a0, zO 10 83 g0)] H := hP
  have hD : va_D A [(a0, zO 10 83 g0)] := hD
  refine lv_if_eq (tgt := 64) hx hb dX12_match_42 (by decide) (fun c => absurd c (by decide)) (fun _ => ?_)
  refine lv_iload_n hx hb dX12_match_45 rfl (lv_at hl 4 rfl) ?_
  refine z_calli [] [(a0, zO 10 83 g0)] [] [0] hP hD hS hA rfl rfl (by decide) (by decide) (by decide +kernel) 0 0 rfl rfl (fun hPc hDc hF => z_runS (As := [.int x2]) (rest := [.int 0, .ref a0]) ⟨hx, hb, hml, hown, hg⟩ (cX12_isName_1 l K H.size x2 e2) kS_RX12_190 hd_X12_isName rfl rfl ⟨(Nat.le_of_ble_eq_true rfl), (Nat.le_of_ble_eq_true rfl)⟩ hK hS hZ hPc hDc hF rfl hl.1 rfl (Nat.le_of_ble_eq_true rfl) dX12_match_46 ⟨(Nat.le_of_ble_eq_true rfl), (Nat.le_of_ble_eq_true rfl)⟩) (fun r9 u7 H locs w8 hP hD hS => ?_)
  subst w8
  have hP : va_P K.1 classes [(a0, zO 10 83 g0)] H := hP
  have hD : va_D A [(a0, zO 10 83 g0)] := hD
  refine lv_if_eq (tgt := 64) hx hb dX12_match_49 (by decide) (fun _ => ?_) (fun c => absurd (by decide) c)
  refine lv_iconst (v := 0) hx hb dX12_match_64 (by decide) ?_
  refine z_calli [(a0, zO 10 83 g0)] [] [0] [] hP hD hS hA rfl rfl (by decide) (by decide) (by decide +kernel) 0 0 rfl rfl (fun hPc hDc hF => z_runV (As := [.int 0, .int 0]) (rest := []) ⟨hx, hb, hml, hown, hg⟩ (cX12_mayTell_1 l K H.size a0 g0) kV_RX12_203 hd_X12_mayTell rfl rfl ⟨(Nat.le_of_ble_eq_true rfl), (Nat.le_of_ble_eq_true rfl)⟩ hK hS hZ hPc hDc hF 0 rfl rfl rfl hl.1 rfl (Nat.le_of_ble_eq_true rfl) dX12_match_65 ⟨(Nat.le_of_ble_eq_true rfl), (Nat.le_of_ble_eq_true rfl)⟩) (fun r12 u10 H locs w11 hP hD hS => ?_)
  subst w11
  have hP : va_P K.1 classes [(a0, zO 10 83 (va_up g0 81 (.int 1)))] H := hP
  have hD : va_D A [(a0, zO 10 83 (va_up g0 81 (.int 1)))] := hD
  refine lv_if_ne (tgt := 73) hx hb dX12_match_68 (by decide) (fun c => absurd (by decide) c) (fun _ => ?_)
  refine lv_iconst (v := 0) hx hb dX12_match_71 (by decide) ?_
  have hP9 : va_P K.1 classes [(a0, zO 10 83 (va_up g0 81 (.int 1)))] H := hP.sub [0] rfl
  have hD9 : va_D A [(a0, zO 10 83 (va_up g0 81 (.int 1)))] := hD.sub [0] (by decide) rfl
  exact z_iret hx hb hr (fun _ => 0) rfl hP9 hD9 hS (Nat.le_of_ble_eq_true rfl) (Nat.le_of_ble_eq_true rfl) hlocks dX12_match_72
set_option maxHeartbeats 4000000 in
set_option maxRecDepth 100000 in
theorem cX11_match_3 (l : Launch) (hl9 : l.stackTraces = false) (K : zK) (sz : Nat) (a0 : Nat) (a1 : Nat) (g0 : Nat → Value) (g1 : Nat → Value) (x0 : Int32) (j1 : Nat) (hj1 : j1 < 4) (j2 : Nat) (hj2 : j2 < 16) (x3 : Int32) (x4 : Int32) (x5 : Int32) (e0 : g0 0 = (.ref a1)) (e1 : x0 < (0 : Int32)) : vx_Met l yX11_match (Cond.code yX11_match cX11_match 7 (some .int) :: WG) { frames := 7, cells := 1, slots := 6, locals := 103 } (zPre K [(a0, zO 9 9 g0), (a1, zO 7 6 g1)] sz [.ref a0, .int x0, .int (nI j1), .int (nI j2), .int x3, .int x4, .int x5]) (va_Qv (fun _ : Unit => False) (fun _ _ => True) (va_A [(a0, zO 9 9 g0), (a1, zO 7 6 g1)] sz)) (zX (va_A [(a0, zO 9 9 g0), (a1, zO 7 6 g1)] sz) zIB) 1 6 (va_A [(a0, zO 9 9 g0), (a1, zO 7 6 g1)] sz) := by
  refine z_xmet (Qc := fun A => va_Qv (fun _ : Unit => False) (fun _ _ => True) A) (XC := fun A => zX A zIB) (by decide +kernel) (Nat.le_of_ble_eq_true rfl) ?_
  intro p e s m args below meth c A ls H hx hb hr hg hown hlocks hml hno hK hP hD hA hS hZ hl
  have hown : s.vm.findClass RX11 = some m.cls := hown
  have hl : lv_has ls 7 [(0, .ref a0), (1, .int x0), (2, .int (nI j1)), (3, .int (nI j2)), (4, .int x3), (5, .int x4), (6, .int x5)] := hl
  refine lv_aload_n hx hb dX11_match_0 rfl (lv_at hl 0 rfl) ?_
  refine lv_iload_n hx hb dX11_match_1 rfl (lv_at hl 1 rfl) ?_
  refine z_xcall (EX := zIB) [(a0, zO 9 9 g0), (a1, zO 7 6 g1)] [0, 1] hP hD hS hA rfl (by decide) 1 6 rfl rfl (fun hPc hDc hF => z_xrunV (As := [.int x0]) (rest := []) ⟨hx, hb, hml, hown, hg⟩ (cX11_checkTold_1 l hl9 K H.size a0 a1 g0 g1 x0 e0 e1) kV_RX11_76 hd_X11_checkTold rfl rfl ⟨(Nat.le_of_ble_eq_true rfl), (Nat.le_of_ble_eq_true rfl)⟩ hK hS hZ hPc hDc hF 0 rfl rfl rfl hl.1 rfl (Nat.le_of_ble_eq_true rfl) dX11_match_2 ⟨(Nat.le_of_ble_eq_true rfl), (Nat.le_of_ble_eq_true rfl)⟩) (fun ce q9 H locs hS hce hcv hcl => ?_)
  exact z_xout hno hlocks hS hce hcv hcl (Nat.le_of_ble_eq_true rfl) (Nat.le_of_ble_eq_true rfl)
set_option maxHeartbeats 4000000 in
set_option maxRecDepth 100000 in
theorem cL_match_3 (l : Launch) (hl9 : l.stackTraces = false) (K : zK) (sz : Nat) (a0 : Nat) (a1 : Nat) (a2 : Nat) (g0 : Nat → Value) (g2 : Nat → Value) (x0 : Int32) (j1 : Nat) (hj1 : j1 < 4) (j2 : Nat) (hj2 : j2 < 16) (x3 : Int32) (x4 : Int32) (x5 : Int32) (e0 : g0 0 = (.ref a2)) (e1 : x0 < (0 : Int32)) : vx_Met l yL_match (Cond.codeWith yL_match cL_match 9 (some .int) [(0, 18, 21, 27), (0, 18, 25, 18), (0, 18, 29, 13)] :: WG) { frames := 8, cells := 1, slots := 6, locals := 129 } (zPre K [(a0, zO 9 9 g0), (a2, zO 7 6 g2)] sz [.ref a0, .int x0, .int (nI j1), .int (nI j2), .int x3, .int x4, .int x5, .ref a1]) (va_Qi (fun (r : Int32) (_ : Nat → Nat) => r = 1) (zB K (va_A [(a0, zO 9 9 g0), (a2, zO 7 6 g2)] sz) (fun u : Nat → Nat => [])) (va_A [(a0, zO 9 9 g0), (a2, zO 7 6 g2)] sz)) (vx_X (fun _ : Unit => False) (fun _ _ _ => True) (va_A [(a0, zO 9 9 g0), (a2, zO 7 6 g2)] sz)) 1 6 (va_A [(a0, zO 9 9 g0), (a2, zO 7 6 g2)] sz) := by
  refine z_hmet (Qc := fun A => (va_Qi (fun (r : Int32) (_ : Nat → Nat) => r = 1) (zB K A (fun u : Nat → Nat => [])) A)) (XC := fun A => vx_X (fun _ : Unit => False) (fun _ _ _ => True) A) (by decide +kernel) (Nat.le_of_ble_eq_true rfl) ?_
  intro p e s m args below meth c A ls H hx hb hr hg hown hlocks hml hTab hK hP hD hA hS hZ hl
  have hown : s.vm.findClass RL = some m.cls := hown
  have hl : lv_has ls 9 [(0, .ref a0), (1, .int x0), (2, .int (nI j1)), (3, .int (nI j2)), (4, .int x3), (5, .int x4), (6, .int x5), (7, .ref a1)] := hl
  refine lv_aload hx hb dL_match_0 (lv_at hl 7 rfl) ?_
  refine lv_iconst (v := 0) hx hb dL_match_2 (by decide) ?_
  refine lv_aload_n hx hb dL_match_3 rfl (lv_at hl 0 rfl) ?_
  refine lv_iload_n hx hb dL_match_4 rfl (lv_at hl 1 rfl) ?_
  refine lv_iload_n hx hb dL_match_5 rfl (lv_at hl 2 rfl) ?_
  refine lv_iload_n hx hb dL_match_6 rfl (lv_at hl 3 rfl) ?_
  refine lv_iload hx hb dL_match_7 (lv_at hl 4 rfl) ?_
  refine lv_iload hx hb dL_match_9 (lv_at hl 5 rfl) ?_
  refine lv_iload hx hb dL_match_11 (lv_at hl 6 rfl) ?_
  refine z_xcall (EX := zIB) [(a0, zO 9 9 g0), (a2, zO 7 6 g2)] [0, 1] hP hD hS hA rfl (by decide) 1 6 rfl rfl (fun hPc hDc hF => z_xrunV (As := [.int x0, .int (nI j1), .int (nI j2), .int x3, .int x4, .int x5]) (rest := [.int 0, .ref a1]) ⟨hx, hb, hml, hown, hg⟩ (cX11_match_3 l hl9 K H.size a0 a2 g0 g2 x0 j1 hj1 j2 hj2 x3 x4 x5 e0 e1) kV_RL_39 hd_X11_match rfl rfl ⟨(Nat.le_of_ble_eq_true rfl), (Nat.le_of_ble_eq_true rfl)⟩ hK hS hZ hPc hDc hF 0 rfl rfl rfl hl.1 rfl (Nat.le_of_ble_eq_true rfl) dL_match_13 ⟨(Nat.le_of_ble_eq_true rfl), (Nat.le_of_ble_eq_true rfl)⟩) (fun ce q9 H locs hS hce hcv hcl => ?_)
  refine vx_catch (own := RL) (name := zIB) (E := zIB) hown [] ⟨0, 18, 21, 27⟩ [⟨0, 18, 25, 18⟩, ⟨0, 18, 29, 13⟩] (by rw [hTab]; rfl) (fun z hz => nomatch hz) (by decide) (by decide) (hg _ mt526) (va_Nw.use rfl hZ.1.1.2.2.2.1) hce hcv hcl ?_
  have hP : va_P K.1 classes [] H := z_P0
  have hD : va_D A [] := z_D0
  refine lv_astore (lv' := [(8, .ref q9), (0, .ref a0), (1, .int x0), (2, .int (nI j1)), (3, .int (nI j2)), (4, .int x3), (5, .int x4), (6, .int x5), (7, .ref a1)]) hx hb dL_match_21 hl (by decide) rfl (fun ls hl => ?_)
  refine lv_iconst (v := 1) hx hb dL_match_23 (by decide) ?_
  have hP9 : va_P K.1 classes [] H := hP.sub [] rfl
  have hD9 : va_D A [] := hD.sub [] (by decide) rfl
  exact z_iret hx hb hr (fun _ => 0) rfl hP9 hD9 hS (Nat.le_of_ble_eq_true rfl) (Nat.le_of_ble_eq_true rfl) hlocks dL_match_24
set_option maxHeartbeats 4000000 in
set_option maxRecDepth 100000 in
theorem cX12_match_3 (l : Launch) (K : zK) (sz : Nat) (a0 : Nat) (g0 : Nat → Value) (x0 : Int32) (j1 : Nat) (hj1 : j1 < 4) (j2 : Nat) (hj2 : j2 < 16) (x3 : Int32) (x4 : Int32) (x5 : Int32) (e0 : g0 0 = (.int 0)) (e1 : x0 < (0 : Int32)) (e2 : x3 < (0 : Int32)) : Met l yX12_match (Cond.code yX12_match cX12_match 8 (some .int) :: WG) { frames := 2, cells := 0, slots := 0, locals := 43 } (zPre K [(a0, zO 10 83 g0)] sz [.ref a0, .int x0, .int (nI j1), .int (nI j2), .int x3, .int x4, .int x5]) (va_Qi (fun (r : Int32) (_ : Nat → Nat) => r = 0) (zB K (va_A [(a0, zO 10 83 g0)] sz) (fun u : Nat → Nat => [(a0, zO 10 83 (va_up g0 81 (.int 1)))])) (va_A [(a0, zO 10 83 g0)] sz)) 0 0 (va_A [(a0, zO 10 83 g0)] sz) := by
  refine z_met (Qc := fun A => (va_Qi (fun (r : Int32) (_ : Nat → Nat) => r = 0) (zB K A (fun u : Nat → Nat => [(a0, zO 10 83 (va_up g0 81 (.int 1)))])) A)) (by decide +kernel) (Nat.le_of_ble_eq_true rfl) ?_
  intro p e s m args below meth c A ls H hx hb hr hg hown hlocks hml hin hK hP hD hA hS hZ hl
  have hown : s.vm.findClass RX12 = some m.cls := hown
  have hl : lv_has ls 8 [(0, .ref a0), (1, .int x0), (2, .int (nI j1)), (3, .int (nI j2)), (4, .int x3), (5, .int x4), (6, .int x5)] := hl
  refine lv_aload_n hx hb dX12_match_0 rfl (lv_at hl 0 rfl) ?_
  refine lv_iload_n hx hb dX12_match_1 rfl (lv_at hl 1 rfl) ?_
  refine z_calli [(a0, zO 10 83 g0)] [] [0] [] hP hD hS hA rfl rfl (by decide) (by decide) (by decide +kernel) 0 0 rfl rfl (fun hPc hDc hF => z_runV (As := [.int x0]) (rest := []) ⟨hx, hb, hml, hown, hg⟩ (cX12_isNode_1 l K H.size a0 g0 x0 e0 e1) kV_RX12_200 hd_X12_isNode rfl rfl ⟨(Nat.le_of_ble_eq_true rfl), (Nat.le_of_ble_eq_true rfl)⟩ hK hS hZ hPc hDc hF 0 rfl rfl rfl hl.1 rfl (Nat.le_of_ble_eq_true rfl) dX12_match_2 ⟨(Nat.le_of_ble_eq_true rfl), (Nat.le_of_ble_eq_true rfl)⟩) (fun r3 u1 H locs w2 hP hD hS => ?_)
  subst w2
  have hP : va_P K.1 classes [(a0, zO 10 83 g0)] H := hP
  have hD : va_D A [(a0, zO 10 83 g0)] := hD
  refine lv_if_eq (tgt := 30) hx hb dX12_match_5 (by decide) (fun _ => ?_) (fun c => absurd (by decide) c)
  refine lv_iconst (v := 0) hx hb dX12_match_30 (by decide) ?_
  refine lv_istore (lv' := [(7, .int 0), (0, .ref a0), (1, .int x0), (2, .int (nI j1)), (3, .int (nI j2)), (4, .int x3), (5, .int x4), (6, .int x5)]) hx hb dX12_match_31 hl (by decide) rfl (fun ls hl => ?_)
  refine lv_aload_n hx hb dX12_match_33 rfl (lv_at hl 1 rfl) ?_
  refine lv_iload hx hb dX12_match_34 (lv_at hl 0 rfl) ?_
  refine lv_iload_n hx hb dX12_match_36 rfl (lv_at hl 3 rfl) ?_
  refine lv_iconst (v := 0) hx hb dX12_match_37 (by decide) ?_
  refine lv_iconst (v := 3) hx hb dX12_match_38 (by decide) ?_
  refine z_calli [] [(a0, zO 10 83 g0)] [] [0] hP hD hS hA rfl rfl (by decide) (by decide) (by decide +kernel) 0 0 rfl rfl (fun hPc hDc hF => z_runS (As := [.int (nI j1), .int 0, .int 3]) (rest := [.int 0, .ref a0]) ⟨hx, hb, hml, hown, hg⟩ (cX12_isIn_10 l K H.size j1 hj1) kS_RX12_175 hd_X12_isIn rfl rfl ⟨(Nat.le_of_ble_eq_true rfl), (Nat.le_of_ble_eq_true rfl)⟩ hK hS hZ hPc hDc hF rfl hl.1 rfl (Nat.le_of_ble_eq_true rfl) dX12_match_39 ⟨(Nat.le_of_ble_eq_true rfl), (Nat.le_of_ble_eq_true rfl)⟩) (fun r6 u4 H locs w5 hP hD hS => ?_)
  subst w5
  have hP : va_P K.1 classes [(a0, zO 10 83 g0)] H := hP
  have hD : va_D A [(a0, zO 10 83 g0)] := hD
  refine lv_if_eq (tgt := 64) hx hb dX12_match_42 (by decide) (fun c => absurd c (by decide)) (fun _ => ?_)
  refine lv_iload_n hx hb dX12_match_45 rfl (lv_at hl 4 rfl) ?_
  refine z_calli [] [(a0, zO 10 83 g0)] [] [0] hP hD hS hA rfl rfl (by decide) (by decide) (by decide +kernel) 0 0 rfl rfl (fun hPc hDc hF => z_runS (As := [.int (nI j2)]) (rest := [.int 0, .ref a0]) ⟨hx, hb, hml, hown, hg⟩ (cX12_isName_2 l K H.size j2 hj2) kS_RX12_190 hd_X12_isName rfl rfl ⟨(Nat.le_of_ble_eq_true rfl), (Nat.le_of_ble_eq_true rfl)⟩ hK hS hZ hPc hDc hF rfl hl.1 rfl (Nat.le_of_ble_eq_true rfl) dX12_match_46 ⟨(Nat.le_of_ble_eq_true rfl), (Nat.le_of_ble_eq_true rfl)⟩) (fun r9 u7 H locs w8 hP hD hS => ?_)
  subst w8
  have hP : va_P K.1 classes [(a0, zO 10 83 g0)] H := hP
  have hD : va_D A [(a0, zO 10 83 g0)] := hD
  refine lv_if_eq (tgt := 64) hx hb dX12_match_49 (by decide) (fun c => absurd c (by decide)) (fun _ => ?_)
  refine lv_iload hx hb dX12_match_52 (lv_at hl 5 rfl) ?_
  refine z_calli [] [(a0, zO 10 83 g0)] [] [0] hP hD hS hA rfl rfl (by decide) (by decide) (by decide +kernel) 0 0 rfl rfl (fun hPc hDc hF => z_runS (As := [.int x3]) (rest := [.int 0, .ref a0]) ⟨hx, hb, hml, hown, hg⟩ (cX12_isName_1 l K H.size x3 e2) kS_RX12_190 hd_X12_isName rfl rfl ⟨(Nat.le_of_ble_eq_true rfl), (Nat.le_of_ble_eq_true rfl)⟩ hK hS hZ hPc hDc hF rfl hl.1 rfl (Nat.le_of_ble_eq_true rfl) dX12_match_54 ⟨(Nat.le_of_ble_eq_true rfl), (Nat.le_of_ble_eq_true rfl)⟩) (fun r12 u10 H locs w11 hP hD hS => ?_)
  subst w11
  have hP : va_P K.1 classes [(a0, zO 10 83 g0)] H := hP
  have hD : va_D A [(a0, zO 10 83 g0)] := hD
  refine lv_if_eq (tgt := 64) hx hb dX12_match_57 (by decide) (fun _ => ?_) (fun c => absurd (by decide) c)
  refine lv_iconst (v := 0) hx hb dX12_match_64 (by decide) ?_
  refine z_calli [(a0, zO 10 83 g0)] [] [0] [] hP hD hS hA rfl rfl (by decide) (by decide) (by decide +kernel) 0 0 rfl rfl (fun hPc hDc hF => z_runV (As := [.int 0, .int 0]) (rest := []) ⟨hx, hb, hml, hown, hg⟩ (cX12_mayTell_1 l K H.size a0 g0) kV_RX12_203 hd_X12_mayTell rfl rfl ⟨(Nat.le_of_ble_eq_true rfl), (Nat.le_of_ble_eq_true rfl)⟩ hK hS hZ hPc hDc hF 0 rfl rfl rfl hl.1 rfl (Nat.le_of_ble_eq_true rfl) dX12_match_65 ⟨(Nat.le_of_ble_eq_true rfl), (Nat.le_of_ble_eq_true rfl)⟩) (fun r15 u13 H locs w14 hP hD hS => ?_)
  subst w14
  have hP : va_P K.1 classes [(a0, zO 10 83 (va_up g0 81 (.int 1)))] H := hP
  have hD : va_D A [(a0, zO 10 83 (va_up g0 81 (.int 1)))] := hD
  refine lv_if_ne (tgt := 73) hx hb dX12_match_68 (by decide) (fun c => absurd (by decide) c) (fun _ => ?_)
  refine lv_iconst (v := 0) hx hb dX12_match_71 (by decide) ?_
  have hP9 : va_P K.1 classes [(a0, zO 10 83 (va_up g0 81 (.int 1)))] H := hP.sub [0] rfl
  have hD9 : va_D A [(a0, zO 10 83 (va_up g0 81 (.int 1)))] := hD.sub [0] (by decide) rfl
  exact z_iret hx hb hr (fun _ => 0) rfl hP9 hD9 hS (Nat.le_of_ble_eq_true rfl) (Nat.le_of_ble_eq_true rfl) hlocks dX12_match_72
set_option maxHeartbeats 4000000 in
set_option maxRecDepth 100000 in
theorem cX11_match_4 (l : Launch) (hl9 : l.stackTraces = false) (K : zK) (sz : Nat) (a0 : Nat) (a1 : Nat) (g0 : Nat → Value) (g1 : Nat → Value) (x0 : Int32) (j1 : Nat) (hj1 : j1 < 4) (j2 : Nat) (hj2 : j2 < 16) (j3 : Nat) (hj3 : j3 < 16) (x4 : Int32) (x5 : Int32) (e0 : g0 0 = (.ref a1)) (e1 : x0 < (0 : Int32)) : vx_Met l yX11_match (Cond.code yX11_match cX11_match 7 (some .int) :: WG) { frames := 7, cells := 1, slots := 6, locals := 103 } (zPre K [(a0, zO 9 9 g0), (a1, zO 7 6 g1)] sz [.ref a0, .int x0, .int (nI j1), .int (nI j2), .int (nI j3), .int x4, .int x5]) (va_Qv (fun _ : Unit => False) (fun _ _ => True) (va_A [(a0, zO 9 9 g0), (a1, zO 7 6 g1)] sz)) (zX (va_A [(a0, zO 9 9 g0), (a1, zO 7 6 g1)] sz) zIB) 1 6 (va_A [(a0, zO 9 9 g0), (a1, zO 7 6 g1)] sz) := by
  refine z_xmet (Qc := fun A => va_Qv (fun _ : Unit => False) (fun _ _ => True) A) (XC := fun A => zX A zIB) (by decide +kernel) (Nat.le_of_ble_eq_true rfl) ?_
  intro p e s m args below meth c A ls H hx hb hr hg hown hlocks hml hno hK hP hD hA hS hZ hl
  have hown : s.vm.findClass RX11 = some m.cls := hown
  have hl : lv_has ls 7 [(0, .ref a0), (1, .int x0), (2, .int (nI j1)), (3, .int (nI j2)), (4, .int (nI j3)), (5, .int x4), (6, .int x5)] := hl
  refine lv_aload_n hx hb dX11_match_0 rfl (lv_at hl 0 rfl) ?_
  refine lv_iload_n hx hb dX11_match_1 rfl (lv_at hl 1 rfl) ?_
  refine z_xcall (EX := zIB) [(a0, zO 9 9 g0), (a1, zO 7 6 g1)] [0, 1] hP hD hS hA rfl (by decide) 1 6 rfl rfl (fun hPc hDc hF => z_xrunV (As := [.int x0]) (rest := []) ⟨hx, hb, hml, hown, hg⟩ (cX11_checkTold_1 l hl9 K H.size a0 a1 g0 g1 x0 e0 e1) kV_RX11_76 hd_X11_checkTold rfl rfl ⟨(Nat.le_of_ble_eq_true rfl), (Nat.le_of_ble_eq_true rfl)⟩ hK hS hZ hPc hDc hF 0 rfl rfl rfl hl.1 rfl (Nat.le_of_ble_eq_true rfl) dX11_match_2 ⟨(Nat.le_of_ble_eq_true rfl), (Nat.le_of_ble_eq_true rfl)⟩) (fun ce q9 H locs hS hce hcv hcl => ?_)
  exact z_xout hno hlocks hS hce hcv hcl (Nat.le_of_ble_eq_true rfl) (Nat.le_of_ble_eq_true rfl)
set_option maxHeartbeats 4000000 in
set_option maxRecDepth 100000 in
theorem cL_match_4 (l : Launch) (hl9 : l.stackTraces = false) (K : zK) (sz : Nat) (a0 : Nat) (a1 : Nat) (a2 : Nat) (g0 : Nat → Value) (g2 : Nat → Value) (x0 : Int32) (j1 : Nat) (hj1 : j1 < 4) (j2 : Nat) (hj2 : j2 < 16) (j3 : Nat) (hj3 : j3 < 16) (x4 : Int32) (x5 : Int32) (e0 : g0 0 = (.ref a2)) (e1 : x0 < (0 : Int32)) : vx_Met l yL_match (Cond.codeWith yL_match cL_match 9 (some .int) [(0, 18, 21, 27), (0, 18, 25, 18), (0, 18, 29, 13)] :: WG) { frames := 8, cells := 1, slots := 6, locals := 129 } (zPre K [(a0, zO 9 9 g0), (a2, zO 7 6 g2)] sz [.ref a0, .int x0, .int (nI j1), .int (nI j2), .int (nI j3), .int x4, .int x5, .ref a1]) (va_Qi (fun (r : Int32) (_ : Nat → Nat) => r = 1) (zB K (va_A [(a0, zO 9 9 g0), (a2, zO 7 6 g2)] sz) (fun u : Nat → Nat => [])) (va_A [(a0, zO 9 9 g0), (a2, zO 7 6 g2)] sz)) (vx_X (fun _ : Unit => False) (fun _ _ _ => True) (va_A [(a0, zO 9 9 g0), (a2, zO 7 6 g2)] sz)) 1 6 (va_A [(a0, zO 9 9 g0), (a2, zO 7 6 g2)] sz) := by
  refine z_hmet (Qc := fun A => (va_Qi (fun (r : Int32) (_ : Nat → Nat) => r = 1) (zB K A (fun u : Nat → Nat => [])) A)) (XC := fun A => vx_X (fun _ : Unit => False) (fun _ _ _ => True) A) (by decide +kernel) (Nat.le_of_ble_eq_true rfl) ?_
  intro p e s m args below meth c A ls H hx hb hr hg hown hlocks hml hTab hK hP hD hA hS hZ hl
  have hown : s.vm.findClass RL = some m.cls := hown
  have hl : lv_has ls 9 [(0, .ref a0), (1, .int x0), (2, .int (nI j1)), (3, .int (nI j2)), (4, .int (nI j3)), (5, .int x4), (6, .int x5), (7, .ref a1)] := hl
  refine lv_aload hx hb dL_match_0 (lv_at hl 7 rfl) ?_
  refine lv_iconst (v := 0) hx hb dL_match_2 (by decide) ?_
  refine lv_aload_n hx hb dL_match_3 rfl (lv_at hl 0 rfl) ?_
  refine lv_iload_n hx hb dL_match_4 rfl (lv_at hl 1 rfl) ?_
  refine lv_iload_n hx hb dL_match_5 rfl (lv_at hl 2 rfl) ?_
  refine lv_iload_n hx hb dL_match_6 rfl (lv_at hl 3 rfl) ?_
  refine lv_iload hx hb dL_match_7 (lv_at hl 4 rfl) ?_
  refine lv_iload hx hb dL_match_9 (lv_at hl 5 rfl) ?_
  refine lv_iload hx hb dL_match_11 (lv_at hl 6 rfl) ?_
  refine z_xcall (EX := zIB) [(a0, zO 9 9 g0), (a2, zO 7 6 g2)] [0, 1] hP hD hS hA rfl (by decide) 1 6 rfl rfl (fun hPc hDc hF => z_xrunV (As := [.int x0, .int (nI j1), .int (nI j2), .int (nI j3), .int x4, .int x5]) (rest := [.int 0, .ref a1]) ⟨hx, hb, hml, hown, hg⟩ (cX11_match_4 l hl9 K H.size a0 a2 g0 g2 x0 j1 hj1 j2 hj2 j3 hj3 x4 x5 e0 e1) kV_RL_39 hd_X11_match rfl rfl ⟨(Nat.le_of_ble_eq_true rfl), (Nat.le_of_ble_eq_true rfl)⟩ hK hS hZ hPc hDc hF 0 rfl rfl rfl hl.1 rfl (Nat.le_of_ble_eq_true rfl) dL_match_13 ⟨(Nat.le_of_ble_eq_true rfl), (Nat.le_of_ble_eq_true rfl)⟩) (fun ce q9 H locs hS hce hcv hcl => ?_)
  refine vx_catch (own := RL) (name := zIB) (E := zIB) hown [] ⟨0, 18, 21, 27⟩ [⟨0, 18, 25, 18⟩, ⟨0, 18, 29, 13⟩] (by rw [hTab]; rfl) (fun z hz => nomatch hz) (by decide) (by decide) (hg _ mt526) (va_Nw.use rfl hZ.1.1.2.2.2.1) hce hcv hcl ?_
  have hP : va_P K.1 classes [] H := z_P0
  have hD : va_D A [] := z_D0
  refine lv_astore (lv' := [(8, .ref q9), (0, .ref a0), (1, .int x0), (2, .int (nI j1)), (3, .int (nI j2)), (4, .int (nI j3)), (5, .int x4), (6, .int x5), (7, .ref a1)]) hx hb dL_match_21 hl (by decide) rfl (fun ls hl => ?_)
  refine lv_iconst (v := 1) hx hb dL_match_23 (by decide) ?_
  have hP9 : va_P K.1 classes [] H := hP.sub [] rfl
  have hD9 : va_D A [] := hD.sub [] (by decide) rfl
  exact z_iret hx hb hr (fun _ => 0) rfl hP9 hD9 hS (Nat.le_of_ble_eq_true rfl) (Nat.le_of_ble_eq_true rfl) hlocks dL_match_24
set_option maxHeartbeats 4000000 in
set_option maxRecDepth 100000 in
theorem cX12_match_4 (l : Launch) (K : zK) (sz : Nat) (a0 : Nat) (g0 : Nat → Value) (x0 : Int32) (j1 : Nat) (hj1 : j1 < 4) (j2 : Nat) (hj2 : j2 < 16) (j3 : Nat) (hj3 : j3 < 16) (x4 : Int32) (x5 : Int32) (e0 : g0 0 = (.int 0)) (e1 : x0 < (0 : Int32)) : Met l yX12_match (Cond.code yX12_match cX12_match 8 (some .int) :: WG) { frames := 2, cells := 0, slots := 0, locals := 43 } (zPre K [(a0, zO 10 83 g0)] sz [.ref a0, .int x0, .int (nI j1), .int (nI j2), .int (nI j3), .int x4, .int x5]) (va_Qi (fun (r : Int32) (_ : Nat → Nat) => r = 0) (zB K (va_A [(a0, zO 10 83 g0)] sz) (fun u : Nat → Nat => [(a0, zO 10 83 (va_up g0 81 (.int 1)))])) (va_A [(a0, zO 10 83 g0)] sz)) 0 0 (va_A [(a0, zO 10 83 g0)] sz) := by
  refine z_met (Qc := fun A => (va_Qi (fun (r : Int32) (_ : Nat → Nat) => r = 0) (zB K A (fun u : Nat → Nat => [(a0, zO 10 83 (va_up g0 81 (.int 1)))])) A)) (by decide +kernel) (Nat.le_of_ble_eq_true rfl) ?_
  intro p e s m args below meth c A ls H hx hb hr hg hown hlocks hml hin hK hP hD hA hS hZ hl
  have hown : s.vm.findClass RX12 = some m.cls := hown
  have hl : lv_has ls 8 [(0, .ref a0), (1, .int x0), (2, .int (nI j1)), (3, .int (nI j2)), (4, .int (nI j3)), (5, .int x4), (6, .int x5)] := hl
  refine lv_aload_n hx hb dX12_match_0 rfl (lv_at hl 0 rfl) ?_
  refine lv_iload_n hx hb dX12_match_1 rfl (lv_at hl 1 rfl) ?_
  refine z_calli [(a0, zO 10 83 g0)] [] [0] [] hP hD hS hA rfl rfl (by decide) (by decide) (by decide +kernel) 0 0 rfl rfl (fun hPc hDc hF => z_runV (As := [.int x0]) (rest := []) ⟨hx, hb, hml, hown, hg⟩ (cX12_isNode_1 l K H.size a0 g0 x0 e0 e1) kV_RX12_200 hd_X12_isNode rfl rfl ⟨(Nat.le_of_ble_eq_true rfl), (Nat.le_of_ble_eq_true rfl)⟩ hK hS hZ hPc hDc hF 0 rfl rfl rfl hl.1 rfl (Nat.le_of_ble_eq_true rfl) dX12_match_2 ⟨(Nat.le_of_ble_eq_true rfl), (Nat.le_of_ble_eq_true rfl)⟩) (fun r3 u1 H locs w2 hP hD hS => ?_)
  subst w2
  have hP : va_P K.1 classes [(a0, zO 10 83 g0)] H := hP
  have hD : va_D A [(a0, zO 10 83 g0)] := hD
  refine lv_if_eq (tgt := 30) hx hb dX12_match_5 (by decide) (fun _ => ?_) (fun c => absurd (by decide) c)
  refine lv_iconst (v := 0) hx hb dX12_match_30 (by decide) ?_
  refine lv_istore (lv' := [(7, .int 0), (0, .ref a0), (1, .int x0), (2, .int (nI j1)), (3, .int (nI j2)), (4, .int (nI j3)), (5, .int x4), (6, .int x5)]) hx hb dX12_match_31 hl (by decide) rfl (fun ls hl => ?_)
  refine lv_aload_n hx hb dX12_match_33 rfl (lv_at hl 1 rfl) ?_
  refine lv_iload hx hb dX12_match_34 (lv_at hl 0 rfl) ?_
  refine lv_iload_n hx hb dX12_match_36 rfl (lv_at hl 3 rfl) ?_
  refine lv_iconst (v := 0) hx hb dX12_match_37 (by decide) ?_
  refine lv_iconst (v := 3) hx hb dX12_match_38 (by decide) ?_
  refine z_calli [] [(a0, zO 10 83 g0)] [] [0] hP hD hS hA rfl rfl (by decide) (by decide) (by decide +kernel) 0 0 rfl rfl (fun hPc hDc hF => z_runS (As := [.int (nI j1), .int 0, .int 3]) (rest := [.int 0, .ref a0]) ⟨hx, hb, hml, hown, hg⟩ (cX12_isIn_10 l K H.size j1 hj1) kS_RX12_175 hd_X12_isIn rfl rfl ⟨(Nat.le_of_ble_eq_true rfl), (Nat.le_of_ble_eq_true rfl)⟩ hK hS hZ hPc hDc hF rfl hl.1 rfl (Nat.le_of_ble_eq_true rfl) dX12_match_39 ⟨(Nat.le_of_ble_eq_true rfl), (Nat.le_of_ble_eq_true rfl)⟩) (fun r6 u4 H locs w5 hP hD hS => ?_)
  subst w5
  have hP : va_P K.1 classes [(a0, zO 10 83 g0)] H := hP
  have hD : va_D A [(a0, zO 10 83 g0)] := hD
  refine lv_if_eq (tgt := 64) hx hb dX12_match_42 (by decide) (fun c => absurd c (by decide)) (fun _ => ?_)
  refine lv_iload_n hx hb dX12_match_45 rfl (lv_at hl 4 rfl) ?_
  refine z_calli [] [(a0, zO 10 83 g0)] [] [0] hP hD hS hA rfl rfl (by decide) (by decide) (by decide +kernel) 0 0 rfl rfl (fun hPc hDc hF => z_runS (As := [.int (nI j2)]) (rest := [.int 0, .ref a0]) ⟨hx, hb, hml, hown, hg⟩ (cX12_isName_2 l K H.size j2 hj2) kS_RX12_190 hd_X12_isName rfl rfl ⟨(Nat.le_of_ble_eq_true rfl), (Nat.le_of_ble_eq_true rfl)⟩ hK hS hZ hPc hDc hF rfl hl.1 rfl (Nat.le_of_ble_eq_true rfl) dX12_match_46 ⟨(Nat.le_of_ble_eq_true rfl), (Nat.le_of_ble_eq_true rfl)⟩) (fun r9 u7 H locs w8 hP hD hS => ?_)
  subst w8
  have hP : va_P K.1 classes [(a0, zO 10 83 g0)] H := hP
  have hD : va_D A [(a0, zO 10 83 g0)] := hD
  refine lv_if_eq (tgt := 64) hx hb dX12_match_49 (by decide) (fun c => absurd c (by decide)) (fun _ => ?_)
  refine lv_iload hx hb dX12_match_52 (lv_at hl 5 rfl) ?_
  refine z_calli [] [(a0, zO 10 83 g0)] [] [0] hP hD hS hA rfl rfl (by decide) (by decide) (by decide +kernel) 0 0 rfl rfl (fun hPc hDc hF => z_runS (As := [.int (nI j3)]) (rest := [.int 0, .ref a0]) ⟨hx, hb, hml, hown, hg⟩ (cX12_isName_2 l K H.size j3 hj3) kS_RX12_190 hd_X12_isName rfl rfl ⟨(Nat.le_of_ble_eq_true rfl), (Nat.le_of_ble_eq_true rfl)⟩ hK hS hZ hPc hDc hF rfl hl.1 rfl (Nat.le_of_ble_eq_true rfl) dX12_match_54 ⟨(Nat.le_of_ble_eq_true rfl), (Nat.le_of_ble_eq_true rfl)⟩) (fun r12 u10 H locs w11 hP hD hS => ?_)
  subst w11
  have hP : va_P K.1 classes [(a0, zO 10 83 g0)] H := hP
  have hD : va_D A [(a0, zO 10 83 g0)] := hD
  refine lv_if_eq (tgt := 64) hx hb dX12_match_57 (by decide) (fun c => absurd c (by decide)) (fun _ => ?_)
  refine lv_iconst (v := 1) hx hb dX12_match_60 (by decide) ?_
  refine lv_goto (tgt := 65) hx hb dX12_match_61 (by decide) ?_
  refine z_calli [(a0, zO 10 83 g0)] [] [0] [] hP hD hS hA rfl rfl (by decide) (by decide) (by decide +kernel) 0 0 rfl rfl (fun hPc hDc hF => z_runV (As := [.int 0, .int 1]) (rest := []) ⟨hx, hb, hml, hown, hg⟩ (cX12_mayTell_2 l K H.size a0 g0) kV_RX12_203 hd_X12_mayTell rfl rfl ⟨(Nat.le_of_ble_eq_true rfl), (Nat.le_of_ble_eq_true rfl)⟩ hK hS hZ hPc hDc hF 0 rfl rfl rfl hl.1 rfl (Nat.le_of_ble_eq_true rfl) dX12_match_65 ⟨(Nat.le_of_ble_eq_true rfl), (Nat.le_of_ble_eq_true rfl)⟩) (fun r15 u13 H locs w14 hP hD hS => ?_)
  subst w14
  have hP : va_P K.1 classes [(a0, zO 10 83 (va_up g0 81 (.int 1)))] H := hP
  have hD : va_D A [(a0, zO 10 83 (va_up g0 81 (.int 1)))] := hD
  refine lv_if_ne (tgt := 73) hx hb dX12_match_68 (by decide) (fun c => absurd (by decide) c) (fun _ => ?_)
  refine lv_iconst (v := 0) hx hb dX12_match_71 (by decide) ?_
  have hP9 : va_P K.1 classes [(a0, zO 10 83 (va_up g0 81 (.int 1)))] H := hP.sub [0] rfl
  have hD9 : va_D A [(a0, zO 10 83 (va_up g0 81 (.int 1)))] := hD.sub [0] (by decide) rfl
  exact z_iret hx hb hr (fun _ => 0) rfl hP9 hD9 hS (Nat.le_of_ble_eq_true rfl) (Nat.le_of_ble_eq_true rfl) hlocks dX12_match_72
set_option maxHeartbeats 4000000 in
set_option maxRecDepth 100000 in
theorem cX12_match_5 (l : Launch) (K : zK) (sz : Nat) (a0 : Nat) (g0 : Nat → Value) (x0 : Int32) (j1 : Nat) (hj1 : j1 < 4) (j2 : Nat) (hj2 : j2 < 16) (x3 : Int32) (x4 : Int32) (x5 : Int32) (e0 : g0 0 = (.int 0)) (e1 : x0 < (0 : Int32)) (e2 : ¬ x3 < (0 : Int32)) (e3 : (15 : Int32) < x3) : Met l yX12_match (Cond.code yX12_match cX12_match 8 (some .int) :: WG) { frames := 2, cells := 0, slots := 0, locals := 43 } (zPre K [(a0, zO 10 83 g0)] sz [.ref a0, .int x0, .int (nI j1), .int (nI j2), .int x3, .int x4, .int x5]) (va_Qi (fun (r : Int32) (_ : Nat → Nat) => r = 0) (zB K (va_A [(a0, zO 10 83 g0)] sz) (fun u : Nat → Nat => [(a0, zO 10 83 (va_up g0 81 (.int 1)))])) (va_A [(a0, zO 10 83 g0)] sz)) 0 0 (va_A [(a0, zO 10 83 g0)] sz) := by
  refine z_met (Qc := fun A => (va_Qi (fun (r : Int32) (_ : Nat → Nat) => r = 0) (zB K A (fun u : Nat → Nat => [(a0, zO 10 83 (va_up g0 81 (.int 1)))])) A)) (by decide +kernel) (Nat.le_of_ble_eq_true rfl) ?_
  intro p e s m args below meth c A ls H hx hb hr hg hown hlocks hml hin hK hP hD hA hS hZ hl
  have hown : s.vm.findClass RX12 = some m.cls := hown
  have hl : lv_has ls 8 [(0, .ref a0), (1, .int x0), (2, .int (nI j1)), (3, .int (nI j2)), (4, .int x3), (5, .int x4), (6, .int x5)] := hl
  refine lv_aload_n hx hb dX12_match_0 rfl (lv_at hl 0 rfl) ?_
  refine lv_iload_n hx hb dX12_match_1 rfl (lv_at hl 1 rfl) ?_
  refine z_calli [(a0, zO 10 83 g0)] [] [0] [] hP hD hS hA rfl rfl (by decide) (by decide) (by decide +kernel) 0 0 rfl rfl (fun hPc hDc hF => z_runV (As := [.int x0]) (rest := []) ⟨hx, hb, hml, hown, hg⟩ (cX12_isNode_1 l K H.size a0 g0 x0 e0 e1) kV_RX12_200 hd_X12_isNode rfl rfl ⟨(Nat.le_of_ble_eq_true rfl), (Nat.le_of_ble_eq_true rfl)⟩ hK hS hZ hPc hDc hF 0 rfl rfl rfl hl.1 rfl (Nat.le_of_ble_eq_true rfl) dX12_match_2 ⟨(Nat.le_of_ble_eq_true rfl), (Nat.le_of_ble_eq_true rfl)⟩) (fun r3 u1 H locs w2 hP hD hS => ?_)
  subst w2
  have hP : va_P K.1 classes [(a0, zO 10 83 g0)] H := hP
  have hD : va_D A [(a0, zO 10 83 g0)] := hD
  refine lv_if_eq (tgt := 30) hx hb dX12_match_5 (by decide) (fun _ => ?_) (fun c => absurd (by decide) c)
  refine lv_iconst (v := 0) hx hb dX12_match_30 (by decide) ?_
  refine lv_istore (lv' := [(7, .int 0), (0, .ref a0), (1, .int x0), (2, .int (nI j1)), (3, .int (nI j2)), (4, .int x3), (5, .int x4), (6, .int x5)]) hx hb dX12_match_31 hl (by decide) rfl (fun ls hl => ?_)
  refine lv_aload_n hx hb dX12_match_33 rfl (lv_at hl 1 rfl) ?_
  refine lv_iload hx hb dX12_match_34 (lv_at hl 0 rfl) ?_
  refine lv_iload_n hx hb dX12_match_36 rfl (lv_at hl 3 rfl) ?_
  refine lv_iconst (v := 0) hx hb dX12_match_37 (by decide) ?_
  refine lv_iconst (v := 3) hx hb dX12_match_38 (by decide) ?_
  refine z_calli [] [(a0, zO 10 83 g0)] [] [0] hP hD hS hA rfl rfl (by decide) (by decide) (by decide +kernel) 0 0 rfl rfl (fun hPc hDc hF => z_runS (As := [.int (nI j1), .int 0, .int 3]) (rest := [.int 0, .ref a0]) ⟨hx, hb, hml, hown, hg⟩ (cX12_isIn_10 l K H.size j1 hj1) kS_RX12_175 hd_X12_isIn rfl rfl ⟨(Nat.le_of_ble_eq_true rfl), (Nat.le_of_ble_eq_true rfl)⟩ hK hS hZ hPc hDc hF rfl hl.1 rfl (Nat.le_of_ble_eq_true rfl) dX12_match_39 ⟨(Nat.le_of_ble_eq_true rfl), (Nat.le_of_ble_eq_true rfl)⟩) (fun r6 u4 H locs w5 hP hD hS => ?_)
  subst w5
  have hP : va_P K.1 classes [(a0, zO 10 83 g0)] H := hP
  have hD : va_D A [(a0, zO 10 83 g0)] := hD
  refine lv_if_eq (tgt := 64) hx hb dX12_match_42 (by decide) (fun c => absurd c (by decide)) (fun _ => ?_)
  refine lv_iload_n hx hb dX12_match_45 rfl (lv_at hl 4 rfl) ?_
  refine z_calli [] [(a0, zO 10 83 g0)] [] [0] hP hD hS hA rfl rfl (by decide) (by decide) (by decide +kernel) 0 0 rfl rfl (fun hPc hDc hF => z_runS (As := [.int (nI j2)]) (rest := [.int 0, .ref a0]) ⟨hx, hb, hml, hown, hg⟩ (cX12_isName_2 l K H.size j2 hj2) kS_RX12_190 hd_X12_isName rfl rfl ⟨(Nat.le_of_ble_eq_true rfl), (Nat.le_of_ble_eq_true rfl)⟩ hK hS hZ hPc hDc hF rfl hl.1 rfl (Nat.le_of_ble_eq_true rfl) dX12_match_46 ⟨(Nat.le_of_ble_eq_true rfl), (Nat.le_of_ble_eq_true rfl)⟩) (fun r9 u7 H locs w8 hP hD hS => ?_)
  subst w8
  have hP : va_P K.1 classes [(a0, zO 10 83 g0)] H := hP
  have hD : va_D A [(a0, zO 10 83 g0)] := hD
  refine lv_if_eq (tgt := 64) hx hb dX12_match_49 (by decide) (fun c => absurd c (by decide)) (fun _ => ?_)
  refine lv_iload hx hb dX12_match_52 (lv_at hl 5 rfl) ?_
  refine z_calli [] [(a0, zO 10 83 g0)] [] [0] hP hD hS hA rfl rfl (by decide) (by decide) (by decide +kernel) 0 0 rfl rfl (fun hPc hDc hF => z_runS (As := [.int x3]) (rest := [.int 0, .ref a0]) ⟨hx, hb, hml, hown, hg⟩ (cX12_isName_3 l K H.size x3 e2 e3) kS_RX12_190 hd_X12_isName rfl rfl ⟨(Nat.le_of_ble_eq_true rfl), (Nat.le_of_ble_eq_true rfl)⟩ hK hS hZ hPc hDc hF rfl hl.1 rfl (Nat.le_of_ble_eq_true rfl) dX12_match_54 ⟨(Nat.le_of_ble_eq_true rfl), (Nat.le_of_ble_eq_true rfl)⟩) (fun r12 u10 H locs w11 hP hD hS => ?_)
  subst w11
  have hP : va_P K.1 classes [(a0, zO 10 83 g0)] H := hP
  have hD : va_D A [(a0, zO 10 83 g0)] := hD
  refine lv_if_eq (tgt := 64) hx hb dX12_match_57 (by decide) (fun _ => ?_) (fun c => absurd (by decide) c)
  refine lv_iconst (v := 0) hx hb dX12_match_64 (by decide) ?_
  refine z_calli [(a0, zO 10 83 g0)] [] [0] [] hP hD hS hA rfl rfl (by decide) (by decide) (by decide +kernel) 0 0 rfl rfl (fun hPc hDc hF => z_runV (As := [.int 0, .int 0]) (rest := []) ⟨hx, hb, hml, hown, hg⟩ (cX12_mayTell_1 l K H.size a0 g0) kV_RX12_203 hd_X12_mayTell rfl rfl ⟨(Nat.le_of_ble_eq_true rfl), (Nat.le_of_ble_eq_true rfl)⟩ hK hS hZ hPc hDc hF 0 rfl rfl rfl hl.1 rfl (Nat.le_of_ble_eq_true rfl) dX12_match_65 ⟨(Nat.le_of_ble_eq_true rfl), (Nat.le_of_ble_eq_true rfl)⟩) (fun r15 u13 H locs w14 hP hD hS => ?_)
  subst w14
  have hP : va_P K.1 classes [(a0, zO 10 83 (va_up g0 81 (.int 1)))] H := hP
  have hD : va_D A [(a0, zO 10 83 (va_up g0 81 (.int 1)))] := hD
  refine lv_if_ne (tgt := 73) hx hb dX12_match_68 (by decide) (fun c => absurd (by decide) c) (fun _ => ?_)
  refine lv_iconst (v := 0) hx hb dX12_match_71 (by decide) ?_
  have hP9 : va_P K.1 classes [(a0, zO 10 83 (va_up g0 81 (.int 1)))] H := hP.sub [0] rfl
  have hD9 : va_D A [(a0, zO 10 83 (va_up g0 81 (.int 1)))] := hD.sub [0] (by decide) rfl
  exact z_iret hx hb hr (fun _ => 0) rfl hP9 hD9 hS (Nat.le_of_ble_eq_true rfl) (Nat.le_of_ble_eq_true rfl) hlocks dX12_match_72
set_option maxHeartbeats 4000000 in
set_option maxRecDepth 100000 in
theorem cX12_match_6 (l : Launch) (K : zK) (sz : Nat) (a0 : Nat) (g0 : Nat → Value) (x0 : Int32) (j1 : Nat) (hj1 : j1 < 4) (x2 : Int32) (x3 : Int32) (x4 : Int32) (x5 : Int32) (e0 : g0 0 = (.int 0)) (e1 : x0 < (0 : Int32)) (e2 : ¬ x2 < (0 : Int32)) (e3 : (15 : Int32) < x2) : Met l yX12_match (Cond.code yX12_match cX12_match 8 (some .int) :: WG) { frames := 2, cells := 0, slots := 0, locals := 43 } (zPre K [(a0, zO 10 83 g0)] sz [.ref a0, .int x0, .int (nI j1), .int x2, .int x3, .int x4, .int x5]) (va_Qi (fun (r : Int32) (_ : Nat → Nat) => r = 0) (zB K (va_A [(a0, zO 10 83 g0)] sz) (fun u : Nat → Nat => [(a0, zO 10 83 (va_up g0 81 (.int 1)))])) (va_A [(a0, zO 10 83 g0)] sz)) 0 0 (va_A [(a0, zO 10 83 g0)] sz) := by
  refine z_met (Qc := fun A => (va_Qi (fun (r : Int32) (_ : Nat → Nat) => r = 0) (zB K A (fun u : Nat → Nat => [(a0, zO 10 83 (va_up g0 81 (.int 1)))])) A)) (by decide +kernel) (Nat.le_of_ble_eq_true rfl) ?_
  intro p e s m args below meth c A ls H hx hb hr hg hown hlocks hml hin hK hP hD hA hS hZ hl
  have hown : s.vm.findClass RX12 = some m.cls := hown
  have hl : lv_has ls 8 [(0, .ref a0), (1, .int x0), (2, .int (nI j1)), (3, .int x2), (4, .int x3), (5, .int x4), (6, .int x5)] := hl
  refine lv_aload_n hx hb dX12_match_0 rfl (lv_at hl 0 rfl) ?_
  refine lv_iload_n hx hb dX12_match_1 rfl (lv_at hl 1 rfl) ?_
  refine z_calli [(a0, zO 10 83 g0)] [] [0] [] hP hD hS hA rfl rfl (by decide) (by decide) (by decide +kernel) 0 0 rfl rfl (fun hPc hDc hF => z_runV (As := [.int x0]) (rest := []) ⟨hx, hb, hml, hown, hg⟩ (cX12_isNode_1 l K H.size a0 g0 x0 e0 e1) kV_RX12_200 hd_X12_isNode rfl rfl ⟨(Nat.le_of_ble_eq_true rfl), (Nat.le_of_ble_eq_true rfl)⟩ hK hS hZ hPc hDc hF 0 rfl rfl rfl hl.1 rfl (Nat.le_of_ble_eq_true rfl) dX12_match_2 ⟨(Nat.le_of_ble_eq_true rfl), (Nat.le_of_ble_eq_true rfl)⟩) (fun r3 u1 H locs w2 hP hD hS => ?_)
  subst w2
  have hP : va_P K.1 classes [(a0, zO 10 83 g0)] H := hP
  have hD : va_D A [(a0, zO 10 83 g0)] := hD
  refine lv_if_eq (tgt := 30) hx hb dX12_match_5 (by decide) (fun _ => ?_) (fun c => absurd (by decide) c)
  refine lv_iconst (v := 0) hx hb dX12_match_30 (by decide) ?_
  refine lv_istore (lv' := [(7, .int 0), (0, .ref a0), (1, .int x0), (2, .int (nI j1)), (3, .int x2), (4, .int x3), (5, .int x4), (6, .int x5)]) hx hb dX12_match_31 hl (by decide) rfl (fun ls hl => ?_)
  refine lv_aload_n hx hb dX12_match_33 rfl (lv_at hl 1 rfl) ?_
  refine lv_iload hx hb dX12_match_34 (lv_at hl 0 rfl) ?_
  refine lv_iload_n hx hb dX12_match_36 rfl (lv_at hl 3 rfl) ?_
  refine lv_iconst (v := 0) hx hb dX12_match_37 (by decide) ?_
  refine lv_iconst (v := 3) hx hb dX12_match_38 (by decide) ?_
  refine z_calli [] [(a0, zO 10 83 g0)] [] [0] hP hD hS hA rfl rfl (by decide) (by decide) (by decide +kernel) 0 0 rfl rfl (fun hPc hDc hF => z_runS (As := [.int (nI j1), .int 0, .int 3]) (rest := [.int 0, .ref a0]) ⟨hx, hb, hml, hown, hg⟩ (cX12_isIn_10 l K H.size j1 hj1) kS_RX12_175 hd_X12_isIn rfl rfl ⟨(Nat.le_of_ble_eq_true rfl), (Nat.le_of_ble_eq_true rfl)⟩ hK hS hZ hPc hDc hF rfl hl.1 rfl (Nat.le_of_ble_eq_true rfl) dX12_match_39 ⟨(Nat.le_of_ble_eq_true rfl), (Nat.le_of_ble_eq_true rfl)⟩) (fun r6 u4 H locs w5 hP hD hS => ?_)
  subst w5
  have hP : va_P K.1 classes [(a0, zO 10 83 g0)] H := hP
  have hD : va_D A [(a0, zO 10 83 g0)] := hD
  refine lv_if_eq (tgt := 64) hx hb dX12_match_42 (by decide) (fun c => absurd c (by decide)) (fun _ => ?_)
  refine lv_iload_n hx hb dX12_match_45 rfl (lv_at hl 4 rfl) ?_
  refine z_calli [] [(a0, zO 10 83 g0)] [] [0] hP hD hS hA rfl rfl (by decide) (by decide) (by decide +kernel) 0 0 rfl rfl (fun hPc hDc hF => z_runS (As := [.int x2]) (rest := [.int 0, .ref a0]) ⟨hx, hb, hml, hown, hg⟩ (cX12_isName_3 l K H.size x2 e2 e3) kS_RX12_190 hd_X12_isName rfl rfl ⟨(Nat.le_of_ble_eq_true rfl), (Nat.le_of_ble_eq_true rfl)⟩ hK hS hZ hPc hDc hF rfl hl.1 rfl (Nat.le_of_ble_eq_true rfl) dX12_match_46 ⟨(Nat.le_of_ble_eq_true rfl), (Nat.le_of_ble_eq_true rfl)⟩) (fun r9 u7 H locs w8 hP hD hS => ?_)
  subst w8
  have hP : va_P K.1 classes [(a0, zO 10 83 g0)] H := hP
  have hD : va_D A [(a0, zO 10 83 g0)] := hD
  refine lv_if_eq (tgt := 64) hx hb dX12_match_49 (by decide) (fun _ => ?_) (fun c => absurd (by decide) c)
  refine lv_iconst (v := 0) hx hb dX12_match_64 (by decide) ?_
  refine z_calli [(a0, zO 10 83 g0)] [] [0] [] hP hD hS hA rfl rfl (by decide) (by decide) (by decide +kernel) 0 0 rfl rfl (fun hPc hDc hF => z_runV (As := [.int 0, .int 0]) (rest := []) ⟨hx, hb, hml, hown, hg⟩ (cX12_mayTell_1 l K H.size a0 g0) kV_RX12_203 hd_X12_mayTell rfl rfl ⟨(Nat.le_of_ble_eq_true rfl), (Nat.le_of_ble_eq_true rfl)⟩ hK hS hZ hPc hDc hF 0 rfl rfl rfl hl.1 rfl (Nat.le_of_ble_eq_true rfl) dX12_match_65 ⟨(Nat.le_of_ble_eq_true rfl), (Nat.le_of_ble_eq_true rfl)⟩) (fun r12 u10 H locs w11 hP hD hS => ?_)
  subst w11
  have hP : va_P K.1 classes [(a0, zO 10 83 (va_up g0 81 (.int 1)))] H := hP
  have hD : va_D A [(a0, zO 10 83 (va_up g0 81 (.int 1)))] := hD
  refine lv_if_ne (tgt := 73) hx hb dX12_match_68 (by decide) (fun c => absurd (by decide) c) (fun _ => ?_)
  refine lv_iconst (v := 0) hx hb dX12_match_71 (by decide) ?_
  have hP9 : va_P K.1 classes [(a0, zO 10 83 (va_up g0 81 (.int 1)))] H := hP.sub [0] rfl
  have hD9 : va_D A [(a0, zO 10 83 (va_up g0 81 (.int 1)))] := hD.sub [0] (by decide) rfl
  exact z_iret hx hb hr (fun _ => 0) rfl hP9 hD9 hS (Nat.le_of_ble_eq_true rfl) (Nat.le_of_ble_eq_true rfl) hlocks dX12_match_72
set_option maxHeartbeats 4000000 in
set_option maxRecDepth 100000 in
theorem cX12_match_7 (l : Launch) (K : zK) (sz : Nat) (a0 : Nat) (g0 : Nat → Value) (x0 : Int32) (x1 : Int32) (x2 : Int32) (x3 : Int32) (x4 : Int32) (x5 : Int32) (e0 : g0 0 = (.int 0)) (e1 : x0 < (0 : Int32)) (e2 : ¬ x1 < (0 : Int32)) (e3 : (3 : Int32) < x1) : Met l yX12_match (Cond.code yX12_match cX12_match 8 (some .int) :: WG) { frames := 2, cells := 0, slots := 0, locals := 43 } (zPre K [(a0, zO 10 83 g0)] sz [.ref a0, .int x0, .int x1, .int x2, .int x3, .int x4, .int x5]) (va_Qi (fun (r : Int32) (_ : Nat → Nat) => r = 0) (zB K (va_A [(a0, zO 10 83 g0)] sz) (fun u : Nat → Nat => [(a0, zO 10 83 (va_up g0 81 (.int 1)))])) (va_A [(a0, zO 10 83 g0)] sz)) 0 0 (va_A [(a0, zO 10 83 g0)] sz) := by
  refine z_met (Qc := fun A => (va_Qi (fun (r : Int32) (_ : Nat → Nat) => r = 0) (zB K A (fun u : Nat → Nat => [(a0, zO 10 83 (va_up g0 81 (.int 1)))])) A)) (by decide +kernel) (Nat.le_of_ble_eq_true rfl) ?_
  intro p e s m args below meth c A ls H hx hb hr hg hown hlocks hml hin hK hP hD hA hS hZ hl
  have hown : s.vm.findClass RX12 = some m.cls := hown
  have hl : lv_has ls 8 [(0, .ref a0), (1, .int x0), (2, .int x1), (3, .int x2), (4, .int x3), (5, .int x4), (6, .int x5)] := hl
  refine lv_aload_n hx hb dX12_match_0 rfl (lv_at hl 0 rfl) ?_
  refine lv_iload_n hx hb dX12_match_1 rfl (lv_at hl 1 rfl) ?_
  refine z_calli [(a0, zO 10 83 g0)] [] [0] [] hP hD hS hA rfl rfl (by decide) (by decide) (by decide +kernel) 0 0 rfl rfl (fun hPc hDc hF => z_runV (As := [.int x0]) (rest := []) ⟨hx, hb, hml, hown, hg⟩ (cX12_isNode_1 l K H.size a0 g0 x0 e0 e1) kV_RX12_200 hd_X12_isNode rfl rfl ⟨(Nat.le_of_ble_eq_true rfl), (Nat.le_of_ble_eq_true rfl)⟩ hK hS hZ hPc hDc hF 0 rfl rfl rfl hl.1 rfl (Nat.le_of_ble_eq_true rfl) dX12_match_2 ⟨(Nat.le_of_ble_eq_true rfl), (Nat.le_of_ble_eq_true rfl)⟩) (fun r3 u1 H locs w2 hP hD hS => ?_)
  subst w2
  have hP : va_P K.1 classes [(a0, zO 10 83 g0)] H := hP
  have hD : va_D A [(a0, zO 10 83 g0)] := hD
  refine lv_if_eq (tgt := 30) hx hb dX12_match_5 (by decide) (fun _ => ?_) (fun c => absurd (by decide) c)
  refine lv_iconst (v := 0) hx hb dX12_match_30 (by decide) ?_
  refine lv_istore (lv' := [(7, .int 0), (0, .ref a0), (1, .int x0), (2, .int x1), (3, .int x2), (4, .int x3), (5, .int x4), (6, .int x5)]) hx hb dX12_match_31 hl (by decide) rfl (fun ls hl => ?_)
  refine lv_aload_n hx hb dX12_match_33 rfl (lv_at hl 1 rfl) ?_
  refine lv_iload hx hb dX12_match_34 (lv_at hl 0 rfl) ?_
  refine lv_iload_n hx hb dX12_match_36 rfl (lv_at hl 3 rfl) ?_
  refine lv_iconst (v := 0) hx hb dX12_match_37 (by decide) ?_
  refine lv_iconst (v := 3) hx hb dX12_match_38 (by decide) ?_
  refine z_calli [] [(a0, zO 10 83 g0)] [] [0] hP hD hS hA rfl rfl (by decide) (by decide) (by decide +kernel) 0 0 rfl rfl (fun hPc hDc hF => z_runS (As := [.int x1, .int 0, .int 3]) (rest := [.int 0, .ref a0]) ⟨hx, hb, hml, hown, hg⟩ (cX12_isIn_11 l K H.size x1 e2 e3) kS_RX12_175 hd_X12_isIn rfl rfl ⟨(Nat.le_of_ble_eq_true rfl), (Nat.le_of_ble_eq_true rfl)⟩ hK hS hZ hPc hDc hF rfl hl.1 rfl (Nat.le_of_ble_eq_true rfl) dX12_match_39 ⟨(Nat.le_of_ble_eq_true rfl), (Nat.le_of_ble_eq_true rfl)⟩) (fun r6 u4 H locs w5 hP hD hS => ?_)
  subst w5
  have hP : va_P K.1 classes [(a0, zO 10 83 g0)] H := hP
  have hD : va_D A [(a0, zO 10 83 g0)] := hD
  refine lv_if_eq (tgt := 64) hx hb dX12_match_42 (by decide) (fun _ => ?_) (fun c => absurd (by decide) c)
  refine lv_iconst (v := 0) hx hb dX12_match_64 (by decide) ?_
  refine z_calli [(a0, zO 10 83 g0)] [] [0] [] hP hD hS hA rfl rfl (by decide) (by decide) (by decide +kernel) 0 0 rfl rfl (fun hPc hDc hF => z_runV (As := [.int 0, .int 0]) (rest := []) ⟨hx, hb, hml, hown, hg⟩ (cX12_mayTell_1 l K H.size a0 g0) kV_RX12_203 hd_X12_mayTell rfl rfl ⟨(Nat.le_of_ble_eq_true rfl), (Nat.le_of_ble_eq_true rfl)⟩ hK hS hZ hPc hDc hF 0 rfl rfl rfl hl.1 rfl (Nat.le_of_ble_eq_true rfl) dX12_match_65 ⟨(Nat.le_of_ble_eq_true rfl), (Nat.le_of_ble_eq_true rfl)⟩) (fun r9 u7 H locs w8 hP hD hS => ?_)
  subst w8
  have hP : va_P K.1 classes [(a0, zO 10 83 (va_up g0 81 (.int 1)))] H := hP
  have hD : va_D A [(a0, zO 10 83 (va_up g0 81 (.int 1)))] := hD
  refine lv_if_ne (tgt := 73) hx hb dX12_match_68 (by decide) (fun c => absurd (by decide) c) (fun _ => ?_)
  refine lv_iconst (v := 0) hx hb dX12_match_71 (by decide) ?_
  have hP9 : va_P K.1 classes [(a0, zO 10 83 (va_up g0 81 (.int 1)))] H := hP.sub [0] rfl
  have hD9 : va_D A [(a0, zO 10 83 (va_up g0 81 (.int 1)))] := hD.sub [0] (by decide) rfl
  exact z_iret hx hb hr (fun _ => 0) rfl hP9 hD9 hS (Nat.le_of_ble_eq_true rfl) (Nat.le_of_ble_eq_true rfl) hlocks dX12_match_72
set_option maxHeartbeats 4000000 in
set_option maxRecDepth 100000 in
theorem cX11_match_5 (l : Launch) (hl9 : l.stackTraces = false) (K : zK) (sz : Nat) (a0 : Nat) (a1 : Nat) (g0 : Nat → Value) (g1 : Nat → Value) (x0 : Int32) (x1 : Int32) (x2 : Int32) (x3 : Int32) (x4 : Int32) (x5 : Int32) (e0 : g0 0 = (.ref a1)) (e1 : ¬ x0 < (0 : Int32)) (e2 : g1 5 = (.int 0)) (e3 : (0 : Int32) ≤ x0) : vx_Met l yX11_match (Cond.code yX11_match cX11_match 7 (some .int) :: WG) { frames := 7, cells := 1, slots := 6, locals := 103 } (zPre K [(a0, zO 9 9 g0), (a1, zO 7 6 g1)] sz [.ref a0, .int x0, .int x1, .int x2, .int x3, .int x4, .int x5]) (va_Qv (fun _ : Unit => False) (fun _ _ => True) (va_A [(a0, zO 9 9 g0), (a1, zO 7 6 g1)] sz)) (zX (va_A [(a0, zO 9 9 g0), (a1, zO 7 6 g1)] sz) zIB) 1 6 (va_A [(a0, zO 9 9 g0), (a1, zO 7 6 g1)] sz) := by
  refine z_xmet (Qc := fun A => va_Qv (fun _ : Unit => False) (fun _ _ => True) A) (XC := fun A => zX A zIB) (by decide +kernel) (Nat.le_of_ble_eq_true rfl) ?_
  intro p e s m args below meth c A ls H hx hb hr hg hown hlocks hml hno hK hP hD hA hS hZ hl
  have hown : s.vm.findClass RX11 = some m.cls := hown
  have hl : lv_has ls 7 [(0, .ref a0), (1, .int x0), (2, .int x1), (3, .int x2), (4, .int x3), (5, .int x4), (6, .int x5)] := hl
  refine lv_aload_n hx hb dX11_match_0 rfl (lv_at hl 0 rfl) ?_
  refine lv_iload_n hx hb dX11_match_1 rfl (lv_at hl 1 rfl) ?_
  refine z_xcall (EX := zIB) [(a0, zO 9 9 g0), (a1, zO 7 6 g1)] [0, 1] hP hD hS hA rfl (by decide) 1 6 rfl rfl (fun hPc hDc hF => z_xrunV (As := [.int x0]) (rest := []) ⟨hx, hb, hml, hown, hg⟩ (cX11_checkTold_2 l hl9 K H.size a0 a1 g0 g1 x0 e0 e1 e2 e3) kV_RX11_76 hd_X11_checkTold rfl rfl ⟨(Nat.le_of_ble_eq_true rfl), (Nat.le_of_ble_eq_true rfl)⟩ hK hS hZ hPc hDc hF 0 rfl rfl rfl hl.1 rfl (Nat.le_of_ble_eq_true rfl) dX11_match_2 ⟨(Nat.le_of_ble_eq_true rfl), (Nat.le_of_ble_eq_true rfl)⟩) (fun ce q9 H locs hS hce hcv hcl => ?_)
  exact z_xout hno hlocks hS hce hcv hcl (Nat.le_of_ble_eq_true rfl) (Nat.le_of_ble_eq_true rfl)
set_option maxHeartbeats 4000000 in
set_option maxRecDepth 100000 in
theorem cL_match_5 (l : Launch) (hl9 : l.stackTraces = false) (K : zK) (sz : Nat) (a0 : Nat) (a1 : Nat) (a2 : Nat) (g0 : Nat → Value) (g2 : Nat → Value) (x0 : Int32) (x1 : Int32) (x2 : Int32) (x3 : Int32) (x4 : Int32) (x5 : Int32) (e0 : g0 0 = (.ref a2)) (e1 : ¬ x0 < (0 : Int32)) (e2 : g2 5 = (.int 0)) (e3 : (0 : Int32) ≤ x0) : vx_Met l yL_match (Cond.codeWith yL_match cL_match 9 (some .int) [(0, 18, 21, 27), (0, 18, 25, 18), (0, 18, 29, 13)] :: WG) { frames := 8, cells := 1, slots := 6, locals := 129 } (zPre K [(a0, zO 9 9 g0), (a2, zO 7 6 g2)] sz [.ref a0, .int x0, .int x1, .int x2, .int x3, .int x4, .int x5, .ref a1]) (va_Qi (fun (r : Int32) (_ : Nat → Nat) => r = 1) (zB K (va_A [(a0, zO 9 9 g0), (a2, zO 7 6 g2)] sz) (fun u : Nat → Nat => [])) (va_A [(a0, zO 9 9 g0), (a2, zO 7 6 g2)] sz)) (vx_X (fun _ : Unit => False) (fun _ _ _ => True) (va_A [(a0, zO 9 9 g0), (a2, zO 7 6 g2)] sz)) 1 6 (va_A [(a0, zO 9 9 g0), (a2, zO 7 6 g2)] sz) := by
  refine z_hmet (Qc := fun A => (va_Qi (fun (r : Int32) (_ : Nat → Nat) => r = 1) (zB K A (fun u : Nat → Nat => [])) A)) (XC := fun A => vx_X (fun _ : Unit => False) (fun _ _ _ => True) A) (by decide +kernel) (Nat.le_of_ble_eq_true rfl) ?_
  intro p e s m args below meth c A ls H hx hb hr hg hown hlocks hml hTab hK hP hD hA hS hZ hl
  have hown : s.vm.findClass RL = some m.cls := hown
  have hl : lv_has ls 9 [(0, .ref a0), (1, .int x0), (2, .int x1), (3, .int x2), (4, .int x3), (5, .int x4), (6, .int x5), (7, .ref a1)] := hl
  refine lv_aload hx hb dL_match_0 (lv_at hl 7 rfl) ?_
  refine lv_iconst (v := 0) hx hb dL_match_2 (by decide) ?_
  refine lv_aload_n hx hb dL_match_3 rfl (lv_at hl 0 rfl) ?_
  refine lv_iload_n hx hb dL_match_4 rfl (lv_at hl 1 rfl) ?_
  refine lv_iload_n hx hb dL_match_5 rfl (lv_at hl 2 rfl) ?_
  refine lv_iload_n hx hb dL_match_6 rfl (lv_at hl 3 rfl) ?_
  refine lv_iload hx hb dL_match_7 (lv_at hl 4 rfl) ?_
  refine lv_iload hx hb dL_match_9 (lv_at hl 5 rfl) ?_
  refine lv_iload hx hb dL_match_11 (lv_at hl 6 rfl) ?_
  refine z_xcall (EX := zIB) [(a0, zO 9 9 g0), (a2, zO 7 6 g2)] [0, 1] hP hD hS hA rfl (by decide) 1 6 rfl rfl (fun hPc hDc hF => z_xrunV (As := [.int x0, .int x1, .int x2, .int x3, .int x4, .int x5]) (rest := [.int 0, .ref a1]) ⟨hx, hb, hml, hown, hg⟩ (cX11_match_5 l hl9 K H.size a0 a2 g0 g2 x0 x1 x2 x3 x4 x5 e0 e1 e2 e3) kV_RL_39 hd_X11_match rfl rfl ⟨(Nat.le_of_ble_eq_true rfl), (Nat.le_of_ble_eq_true rfl)⟩ hK hS hZ hPc hDc hF 0 rfl rfl rfl hl.1 rfl (Nat.le_of_ble_eq_true rfl) dL_match_13 ⟨(Nat.le_of_ble_eq_true rfl), (Nat.le_of_ble_eq_true rfl)⟩) (fun ce q9 H locs hS hce hcv hcl => ?_)
  refine vx_catch (own := RL) (name := zIB) (E := zIB) hown [] ⟨0, 18, 21, 27⟩ [⟨0, 18, 25, 18⟩, ⟨0, 18, 29, 13⟩] (by rw [hTab]; rfl) (fun z hz => nomatch hz) (by decide) (by decide) (hg _ mt526) (va_Nw.use rfl hZ.1.1.2.2.2.1) hce hcv hcl ?_
  have hP : va_P K.1 classes [] H := z_P0
  have hD : va_D A [] := z_D0
  refine lv_astore (lv' := [(8, .ref q9), (0, .ref a0), (1, .int x0), (2, .int x1), (3, .int x2), (4, .int x3), (5, .int x4), (6, .int x5), (7, .ref a1)]) hx hb dL_match_21 hl (by decide) rfl (fun ls hl => ?_)
  refine lv_iconst (v := 1) hx hb dL_match_23 (by decide) ?_
  have hP9 : va_P K.1 classes [] H := hP.sub [] rfl
  have hD9 : va_D A [] := hD.sub [] (by decide) rfl
  exact z_iret hx hb hr (fun _ => 0) rfl hP9 hD9 hS (Nat.le_of_ble_eq_true rfl) (Nat.le_of_ble_eq_true rfl) hlocks dL_match_24
set_option maxHeartbeats 4000000 in
set_option maxRecDepth 100000 in
theorem cX12_match_8 (l : Launch) (K : zK) (sz : Nat) (a0 : Nat) (g0 : Nat → Value) (x0 : Int32) (x1 : Int32) (x2 : Int32) (x3 : Int32) (x4 : Int32) (x5 : Int32) (e0 : g0 0 = (.int 0)) (e1 : ¬ x0 < (0 : Int32)) (e2 : (-1 : Int32) < x0) (e3 : x1 < (0 : Int32)) : Met l yX12_match (Cond.code yX12_match cX12_match 8 (some .int) :: WG) { frames := 2, cells := 0, slots := 0, locals := 43 } (zPre K [(a0, zO 10 83 g0)] sz [.ref a0, .int x0, .int x1, .int x2, .int x3, .int x4, .int x5]) (va_Qi (fun (r : Int32) (_ : Nat → Nat) => r = 0) (zB K (va_A [(a0, zO 10 83 g0)] sz) (fun u : Nat → Nat => [(a0, zO 10 83 (va_up g0 81 (.int 1)))])) (va_A [(a0, zO 10 83 g0)] sz)) 0 0 (va_A [(a0, zO 10 83 g0)] sz) := by
  refine z_met (Qc := fun A => (va_Qi (fun (r : Int32) (_ : Nat → Nat) => r = 0) (zB K A (fun u : Nat → Nat => [(a0, zO 10 83 (va_up g0 81 (.int 1)))])) A)) (by decide +kernel) (Nat.le_of_ble_eq_true rfl) ?_
  intro p e s m args below meth c A ls H hx hb hr hg hown hlocks hml hin hK hP hD hA hS hZ hl
  have hown : s.vm.findClass RX12 = some m.cls := hown
  have hl : lv_has ls 8 [(0, .ref a0), (1, .int x0), (2, .int x1), (3, .int x2), (4, .int x3), (5, .int x4), (6, .int x5)] := hl
  refine lv_aload_n hx hb dX12_match_0 rfl (lv_at hl 0 rfl) ?_
  refine lv_iload_n hx hb dX12_match_1 rfl (lv_at hl 1 rfl) ?_
  refine z_calli [(a0, zO 10 83 g0)] [] [0] [] hP hD hS hA rfl rfl (by decide) (by decide) (by decide +kernel) 0 0 rfl rfl (fun hPc hDc hF => z_runV (As := [.int x0]) (rest := []) ⟨hx, hb, hml, hown, hg⟩ (cX12_isNode_2 l K H.size a0 g0 x0 e0 e1 e2) kV_RX12_200 hd_X12_isNode rfl rfl ⟨(Nat.le_of_ble_eq_true rfl), (Nat.le_of_ble_eq_true rfl)⟩ hK hS hZ hPc hDc hF 0 rfl rfl rfl hl.1 rfl (Nat.le_of_ble_eq_true rfl) dX12_match_2 ⟨(Nat.le_of_ble_eq_true rfl), (Nat.le_of_ble_eq_true rfl)⟩) (fun r3 u1 H locs w2 hP hD hS => ?_)
  subst w2
  have hP : va_P K.1 classes [(a0, zO 10 83 g0)] H := hP
  have hD : va_D A [(a0, zO 10 83 g0)] := hD
  refine lv_if_eq (tgt := 30) hx hb dX12_match_5 (by decide) (fun _ => ?_) (fun c => absurd (by decide) c)
  refine lv_iconst (v := 0) hx hb dX12_match_30 (by decide) ?_
  refine lv_istore (lv' := [(7, .int 0), (0, .ref a0), (1, .int x0), (2, .int x1), (3, .int x2), (4, .int x3), (5, .int x4), (6, .int x5)]) hx hb dX12_match_31 hl (by decide) rfl (fun ls hl => ?_)
  refine lv_aload_n hx hb dX12_match_33 rfl (lv_at hl 1 rfl) ?_
  refine lv_iload hx hb dX12_match_34 (lv_at hl 0 rfl) ?_
  refine lv_iload_n hx hb dX12_match_36 rfl (lv_at hl 3 rfl) ?_
  refine lv_iconst (v := 0) hx hb dX12_match_37 (by decide) ?_
  refine lv_iconst (v := 3) hx hb dX12_match_38 (by decide) ?_
  refine z_calli [] [(a0, zO 10 83 g0)] [] [0] hP hD hS hA rfl rfl (by decide) (by decide) (by decide +kernel) 0 0 rfl rfl (fun hPc hDc hF => z_runS (As := [.int x1, .int 0, .int 3]) (rest := [.int 0, .ref a0]) ⟨hx, hb, hml, hown, hg⟩ (cX12_isIn_9 l K H.size x1 e3) kS_RX12_175 hd_X12_isIn rfl rfl ⟨(Nat.le_of_ble_eq_true rfl), (Nat.le_of_ble_eq_true rfl)⟩ hK hS hZ hPc hDc hF rfl hl.1 rfl (Nat.le_of_ble_eq_true rfl) dX12_match_39 ⟨(Nat.le_of_ble_eq_true rfl), (Nat.le_of_ble_eq_true rfl)⟩) (fun r6 u4 H locs w5 hP hD hS => ?_)
  subst w5
  have hP : va_P K.1 classes [(a0, zO 10 83 g0)] H := hP
  have hD : va_D A [(a0, zO 10 83 g0)] := hD
  refine lv_if_eq (tgt := 64) hx hb dX12_match_42 (by decide) (fun _ => ?_) (fun c => absurd (by decide) c)
  refine lv_iconst (v := 0) hx hb dX12_match_64 (by decide) ?_
  refine z_calli [(a0, zO 10 83 g0)] [] [0] [] hP hD hS hA rfl rfl (by decide) (by decide) (by decide +kernel) 0 0 rfl rfl (fun hPc hDc hF => z_runV (As := [.int 0, .int 0]) (rest := []) ⟨hx, hb, hml, hown, hg⟩ (cX12_mayTell_1 l K H.size a0 g0) kV_RX12_203 hd_X12_mayTell rfl rfl ⟨(Nat.le_of_ble_eq_true rfl), (Nat.le_of_ble_eq_true rfl)⟩ hK hS hZ hPc hDc hF 0 rfl rfl rfl hl.1 rfl (Nat.le_of_ble_eq_true rfl) dX12_match_65 ⟨(Nat.le_of_ble_eq_true rfl), (Nat.le_of_ble_eq_true rfl)⟩) (fun r9 u7 H locs w8 hP hD hS => ?_)
  subst w8
  have hP : va_P K.1 classes [(a0, zO 10 83 (va_up g0 81 (.int 1)))] H := hP
  have hD : va_D A [(a0, zO 10 83 (va_up g0 81 (.int 1)))] := hD
  refine lv_if_ne (tgt := 73) hx hb dX12_match_68 (by decide) (fun c => absurd (by decide) c) (fun _ => ?_)
  refine lv_iconst (v := 0) hx hb dX12_match_71 (by decide) ?_
  have hP9 : va_P K.1 classes [(a0, zO 10 83 (va_up g0 81 (.int 1)))] H := hP.sub [0] rfl
  have hD9 : va_D A [(a0, zO 10 83 (va_up g0 81 (.int 1)))] := hD.sub [0] (by decide) rfl
  exact z_iret hx hb hr (fun _ => 0) rfl hP9 hD9 hS (Nat.le_of_ble_eq_true rfl) (Nat.le_of_ble_eq_true rfl) hlocks dX12_match_72
set_option maxHeartbeats 4000000 in
set_option maxRecDepth 100000 in
theorem cX11_match_6 (l : Launch) (hl9 : l.stackTraces = false) (K : zK) (sz : Nat) (a0 : Nat) (a1 : Nat) (g0 : Nat → Value) (g1 : Nat → Value) (x0 : Int32) (j1 : Nat) (hj1 : j1 < 4) (x2 : Int32) (x3 : Int32) (x4 : Int32) (x5 : Int32) (e0 : g0 0 = (.ref a1)) (e1 : ¬ x0 < (0 : Int32)) (e2 : g1 5 = (.int 0)) (e3 : (0 : Int32) ≤ x0) : vx_Met l yX11_match (Cond.code yX11_match cX11_match 7 (some .int) :: WG) { frames := 7, cells := 1, slots := 6, locals := 103 } (zPre K [(a0, zO 9 9 g0), (a1, zO 7 6 g1)] sz [.ref a0, .int x0, .int (nI j1), .int x2, .int x3, .int x4, .int x5]) (va_Qv (fun _ : Unit => False) (fun _ _ => True) (va_A [(a0, zO 9 9 g0), (a1, zO 7 6 g1)] sz)) (zX (va_A [(a0, zO 9 9 g0), (a1, zO 7 6 g1)] sz) zIB) 1 6 (va_A [(a0, zO 9 9 g0), (a1, zO 7 6 g1)] sz) := by
  refine z_xmet (Qc := fun A => va_Qv (fun _ : Unit => False) (fun _ _ => True) A) (XC := fun A => zX A zIB) (by decide +kernel) (Nat.le_of_ble_eq_true rfl) ?_
  intro p e s m args below meth c A ls H hx hb hr hg hown hlocks hml hno hK hP hD hA hS hZ hl
  have hown : s.vm.findClass RX11 = some m.cls := hown
  have hl : lv_has ls 7 [(0, .ref a0), (1, .int x0), (2, .int (nI j1)), (3, .int x2), (4, .int x3), (5, .int x4), (6, .int x5)] := hl
  refine lv_aload_n hx hb dX11_match_0 rfl (lv_at hl 0 rfl) ?_
  refine lv_iload_n hx hb dX11_match_1 rfl (lv_at hl 1 rfl) ?_
  refine z_xcall (EX := zIB) [(a0, zO 9 9 g0), (a1, zO 7 6 g1)] [0, 1] hP hD hS hA rfl (by decide) 1 6 rfl rfl (fun hPc hDc hF => z_xrunV (As := [.int x0]) (rest := []) ⟨hx, hb, hml, hown, hg⟩ (cX11_checkTold_2 l hl9 K H.size a0 a1 g0 g1 x0 e0 e1 e2 e3) kV_RX11_76 hd_X11_checkTold rfl rfl ⟨(Nat.le_of_ble_eq_true rfl), (Nat.le_of_ble_eq_true rfl)⟩ hK hS hZ hPc hDc hF 0 rfl rfl rfl hl.1 rfl (Nat.le_of_ble_eq_true rfl) dX11_match_2 ⟨(Nat.le_of_ble_eq_true rfl), (Nat.le_of_ble_eq_true rfl)⟩) (fun ce q9 H locs hS hce hcv hcl => ?_)
  exact z_xout hno hlocks hS hce hcv hcl (Nat.le_of_ble_eq_true rfl) (Nat.le_of_ble_eq_true rfl)
set_option maxHeartbeats 4000000 in
set_option maxRecDepth 100000 in
theorem cL_match_6 (l : Launch) (hl9 : l.stackTraces = false) (K : zK) (sz : Nat) (a0 : Nat) (a1 : Nat) (a2 : Nat) (g0 : Nat → Value) (g2 : Nat → Value) (x0 : Int32) (j1 : Nat) (hj1 : j1 < 4) (x2 : Int32) (x3 : Int32) (x4 : Int32) (x5 : Int32) (e0 : g0 0 = (.ref a2)) (e1 : ¬ x0 < (0 : Int32)) (e2 : g2 5 = (.int 0)) (e3 : (0 : Int32) ≤ x0) : vx_Met l yL_match (Cond.codeWith yL_match cL_match 9 (some .int) [(0, 18, 21, 27), (0, 18, 25, 18), (0, 18, 29, 13)] :: WG) { frames := 8, cells := 1, slots := 6, locals := 129 } (zPre K [(a0, zO 9 9 g0), (a2, zO 7 6 g2)] sz [.ref a0, .int x0, .int (nI j1), .int x2, .int x3, .int x4, .int x5, .ref a1]) (va_Qi (fun (r : Int32) (_ : Nat → Nat) => r = 1) (zB K (va_A [(a0, zO 9 9 g0), (a2, zO 7 6 g2)] sz) (fun u : Nat → Nat => [])) (va_A [(a0, zO 9 9 g0), (a2, zO 7 6 g2)] sz)) (vx_X (fun _ : Unit => False) (fun _ _ _ => True) (va_A [(a0, zO 9 9 g0), (a2, zO 7 6 g2)] sz)) 1 6 (va_A [(a0, zO 9 9 g0), (a2, zO 7 6 g2)] sz) := by
  refine z_hmet (Qc := fun A => (va_Qi (fun (r : Int32) (_ : Nat → Nat) => r = 1) (zB K A (fun u : Nat → Nat => [])) A)) (XC := fun A => vx_X (fun _ : Unit => False) (fun _ _ _ => True) A) (by decide +kernel) (Nat.le_of_ble_eq_true rfl) ?_
  intro p e s m args below meth c A ls H hx hb hr hg hown hlocks hml hTab hK hP hD hA hS hZ hl
  have hown : s.vm.findClass RL = some m.cls := hown
  have hl : lv_has ls 9 [(0, .ref a0), (1, .int x0), (2, .int (nI j1)), (3, .int x2), (4, .int x3), (5, .int x4), (6, .int x5), (7, .ref a1)] := hl
  refine lv_aload hx hb dL_match_0 (lv_at hl 7 rfl) ?_
  refine lv_iconst (v := 0) hx hb dL_match_2 (by decide) ?_
  refine lv_aload_n hx hb dL_match_3 rfl (lv_at hl 0 rfl) ?_
  refine lv_iload_n hx hb dL_match_4 rfl (lv_at hl 1 rfl) ?_
  refine lv_iload_n hx hb dL_match_5 rfl (lv_at hl 2 rfl) ?_
  refine lv_iload_n hx hb dL_match_6 rfl (lv_at hl 3 rfl) ?_
  refine lv_iload hx hb dL_match_7 (lv_at hl 4 rfl) ?_
  refine lv_iload hx hb dL_match_9 (lv_at hl 5 rfl) ?_
  refine lv_iload hx hb dL_match_11 (lv_at hl 6 rfl) ?_
  refine z_xcall (EX := zIB) [(a0, zO 9 9 g0), (a2, zO 7 6 g2)] [0, 1] hP hD hS hA rfl (by decide) 1 6 rfl rfl (fun hPc hDc hF => z_xrunV (As := [.int x0, .int (nI j1), .int x2, .int x3, .int x4, .int x5]) (rest := [.int 0, .ref a1]) ⟨hx, hb, hml, hown, hg⟩ (cX11_match_6 l hl9 K H.size a0 a2 g0 g2 x0 j1 hj1 x2 x3 x4 x5 e0 e1 e2 e3) kV_RL_39 hd_X11_match rfl rfl ⟨(Nat.le_of_ble_eq_true rfl), (Nat.le_of_ble_eq_true rfl)⟩ hK hS hZ hPc hDc hF 0 rfl rfl rfl hl.1 rfl (Nat.le_of_ble_eq_true rfl) dL_match_13 ⟨(Nat.le_of_ble_eq_true rfl), (Nat.le_of_ble_eq_true rfl)⟩) (fun ce q9 H locs hS hce hcv hcl => ?_)
  refine vx_catch (own := RL) (name := zIB) (E := zIB) hown [] ⟨0, 18, 21, 27⟩ [⟨0, 18, 25, 18⟩, ⟨0, 18, 29, 13⟩] (by rw [hTab]; rfl) (fun z hz => nomatch hz) (by decide) (by decide) (hg _ mt526) (va_Nw.use rfl hZ.1.1.2.2.2.1) hce hcv hcl ?_
  have hP : va_P K.1 classes [] H := z_P0
  have hD : va_D A [] := z_D0
  refine lv_astore (lv' := [(8, .ref q9), (0, .ref a0), (1, .int x0), (2, .int (nI j1)), (3, .int x2), (4, .int x3), (5, .int x4), (6, .int x5), (7, .ref a1)]) hx hb dL_match_21 hl (by decide) rfl (fun ls hl => ?_)
  refine lv_iconst (v := 1) hx hb dL_match_23 (by decide) ?_
  have hP9 : va_P K.1 classes [] H := hP.sub [] rfl
  have hD9 : va_D A [] := hD.sub [] (by decide) rfl
  exact z_iret hx hb hr (fun _ => 0) rfl hP9 hD9 hS (Nat.le_of_ble_eq_true rfl) (Nat.le_of_ble_eq_true rfl) hlocks dL_match_24
set_option maxHeartbeats 4000000 in
set_option maxRecDepth 100000 in
theorem cX12_match_9 (l : Launch) (K : zK) (sz : Nat) (a0 : Nat) (g0 : Nat → Value) (x0 : Int32) (j1 : Nat) (hj1 : j1 < 4) (x2 : Int32) (x3 : Int32) (x4 : Int32) (x5 : Int32) (e0 : g0 0 = (.int 0)) (e1 : ¬ x0 < (0 : Int32)) (e2 : (-1 : Int32) < x0) (e3 : x2 < (0 : Int32)) : Met l yX12_match (Cond.code yX12_match cX12_match 8 (some .int) :: WG) { frames := 2, cells := 0, slots := 0, locals := 43 } (zPre K [(a0, zO 10 83 g0)] sz [.ref a0, .int x0, .int (nI j1), .int x2, .int x3, .int x4, .int x5]) (va_Qi (fun (r : Int32) (_ : Nat → Nat) => r = 0) (zB K (va_A [(a0, zO 10 83 g0)] sz) (fun u : Nat → Nat => [(a0, zO 10 83 (va_up g0 81 (.int 1)))])) (va_A [(a0, zO 10 83 g0)] sz)) 0 0 (va_A [(a0, zO 10 83 g0)] sz) := by
  refine z_met (Qc := fun A => (va_Qi (fun (r : Int32) (_ : Nat → Nat) => r = 0) (zB K A (fun u : Nat → Nat => [(a0, zO 10 83 (va_up g0 81 (.int 1)))])) A)) (by decide +kernel) (Nat.le_of_ble_eq_true rfl) ?_
  intro p e s m args below meth c A ls H hx hb hr hg hown hlocks hml hin hK hP hD hA hS hZ hl
  have hown : s.vm.findClass RX12 = some m.cls := hown
  have hl : lv_has ls 8 [(0, .ref a0), (1, .int x0), (2, .int (nI j1)), (3, .int x2), (4, .int x3), (5, .int x4), (6, .int x5)] := hl
  refine lv_aload_n hx hb dX12_match_0 rfl (lv_at hl 0 rfl) ?_
  refine lv_iload_n hx hb dX12_match_1 rfl (lv_at hl 1 rfl) ?_
  refine z_calli [(a0, zO 10 83 g0)] [] [0] [] hP hD hS hA rfl rfl (by decide) (by decide) (by decide +kernel) 0 0 rfl rfl (fun hPc hDc hF => z_runV (As := [.int x0]) (rest := []) ⟨hx, hb, hml, hown, hg⟩ (cX12_isNode_2 l K H.size a0 g0 x0 e0 e1 e2) kV_RX12_200 hd_X12_isNode rfl rfl ⟨(Nat.le_of_ble_eq_true rfl), (Nat.le_of_ble_eq_true rfl)⟩ hK hS hZ hPc hDc hF 0 rfl rfl rfl hl.1 rfl (Nat.le_of_ble_eq_true rfl) dX12_match_2 ⟨(Nat.le_of_ble_eq_true rfl), (Nat.le_of_ble_eq_true rfl)⟩) (fun r3 u1 H locs w2 hP hD hS => ?_)
  subst w2
  have hP : va_P K.1 classes [(a0, zO 10 83 g0)] H := hP
  have hD : va_D A [(a0, zO 10 83 g0)] := hD
  refine lv_if_eq (tgt := 30) hx hb dX12_match_5 (by decide) (fun _ => ?_) (fun c => absurd (by decide) c)
  refine lv_iconst (v := 0) hx hb dX12_match_30 (by decide) ?_
  refine lv_istore (lv' := [(7, .int 0), (0, .ref a0), (1, .int x0), (2, .int (nI j1)), (3, .int x2), (4, .int x3), (5, .int x4), (6, .int x5)]) hx hb dX12_match_31 hl (by decide) rfl (fun ls hl => ?_)
  refine lv_aload_n hx hb dX12_match_33 rfl (lv_at hl 1 rfl) ?_
  refine lv_iload hx hb dX12_match_34 (lv_at hl 0 rfl) ?_
  refine lv_iload_n hx hb dX12_match_36 rfl (lv_at hl 3 rfl) ?_
  refine lv_iconst (v := 0) hx hb dX12_match_37 (by decide) ?_
  refine lv_iconst (v := 3) hx hb dX12_match_38 (by decide) ?_
  refine z_calli [] [(a0, zO 10 83 g0)] [] [0] hP hD hS hA rfl rfl (by decide) (by decide) (by decide +kernel) 0 0 rfl rfl (fun hPc hDc hF => z_runS (As := [.int (nI j1), .int 0, .int 3]) (rest := [.int 0, .ref a0]) ⟨hx, hb, hml, hown, hg⟩ (cX12_isIn_10 l K H.size j1 hj1) kS_RX12_175 hd_X12_isIn rfl rfl ⟨(Nat.le_of_ble_eq_true rfl), (Nat.le_of_ble_eq_true rfl)⟩ hK hS hZ hPc hDc hF rfl hl.1 rfl (Nat.le_of_ble_eq_true rfl) dX12_match_39 ⟨(Nat.le_of_ble_eq_true rfl), (Nat.le_of_ble_eq_true rfl)⟩) (fun r6 u4 H locs w5 hP hD hS => ?_)
  subst w5
  have hP : va_P K.1 classes [(a0, zO 10 83 g0)] H := hP
  have hD : va_D A [(a0, zO 10 83 g0)] := hD
  refine lv_if_eq (tgt := 64) hx hb dX12_match_42 (by decide) (fun c => absurd c (by decide)) (fun _ => ?_)
  refine lv_iload_n hx hb dX12_match_45 rfl (lv_at hl 4 rfl) ?_
  refine z_calli [] [(a0, zO 10 83 g0)] [] [0] hP hD hS hA rfl rfl (by decide) (by decide) (by decide +kernel) 0 0 rfl rfl (fun hPc hDc hF => z_runS (As := [.int x2]) (rest := [.int 0, .ref a0]) ⟨hx, hb, hml, hown, hg⟩ (cX12_isName_1 l K H.size x2 e3) kS_RX12_190 hd_X12_isName rfl rfl ⟨(Nat.le_of_ble_eq_true rfl), (Nat.le_of_ble_eq_true rfl)⟩ hK hS hZ hPc hDc hF rfl hl.1 rfl (Nat.le_of_ble_eq_true rfl) dX12_match_46 ⟨(Nat.le_of_ble_eq_true rfl), (Nat.le_of_ble_eq_true rfl)⟩) (fun r9 u7 H locs w8 hP hD hS => ?_)
  subst w8
  have hP : va_P K.1 classes [(a0, zO 10 83 g0)] H := hP
  have hD : va_D A [(a0, zO 10 83 g0)] := hD
  refine lv_if_eq (tgt := 64) hx hb dX12_match_49 (by decide) (fun _ => ?_) (fun c => absurd (by decide) c)
  refine lv_iconst (v := 0) hx hb dX12_match_64 (by decide) ?_
  refine z_calli [(a0, zO 10 83 g0)] [] [0] [] hP hD hS hA rfl rfl (by decide) (by decide) (by decide +kernel) 0 0 rfl rfl (fun hPc hDc hF => z_runV (As := [.int 0, .int 0]) (rest := []) ⟨hx, hb, hml, hown, hg⟩ (cX12_mayTell_1 l K H.size a0 g0) kV_RX12_203 hd_X12_mayTell rfl rfl ⟨(Nat.le_of_ble_eq_true rfl), (Nat.le_of_ble_eq_true rfl)⟩ hK hS hZ hPc hDc hF 0 rfl rfl rfl hl.1 rfl (Nat.le_of_ble_eq_true rfl) dX12_match_65 ⟨(Nat.le_of_ble_eq_true rfl), (Nat.le_of_ble_eq_true rfl)⟩) (fun r12 u10 H locs w11 hP hD hS => ?_)
  subst w11
  have hP : va_P K.1 classes [(a0, zO 10 83 (va_up g0 81 (.int 1)))] H := hP
  have hD : va_D A [(a0, zO 10 83 (va_up g0 81 (.int 1)))] := hD
  refine lv_if_ne (tgt := 73) hx hb dX12_match_68 (by decide) (fun c => absurd (by decide) c) (fun _ => ?_)
  refine lv_iconst (v := 0) hx hb dX12_match_71 (by decide) ?_
  have hP9 : va_P K.1 classes [(a0, zO 10 83 (va_up g0 81 (.int 1)))] H := hP.sub [0] rfl
  have hD9 : va_D A [(a0, zO 10 83 (va_up g0 81 (.int 1)))] := hD.sub [0] (by decide) rfl
  exact z_iret hx hb hr (fun _ => 0) rfl hP9 hD9 hS (Nat.le_of_ble_eq_true rfl) (Nat.le_of_ble_eq_true rfl) hlocks dX12_match_72
set_option maxHeartbeats 4000000 in
set_option maxRecDepth 100000 in
theorem cX11_match_7 (l : Launch) (hl9 : l.stackTraces = false) (K : zK) (sz : Nat) (a0 : Nat) (a1 : Nat) (g0 : Nat → Value) (g1 : Nat → Value) (x0 : Int32) (j1 : Nat) (hj1 : j1 < 4) (j2 : Nat) (hj2 : j2 < 16) (x3 : Int32) (x4 : Int32) (x5 : Int32) (e0 : g0 0 = (.ref a1)) (e1 : ¬ x0 < (0 : Int32)) (e2 : g1 5 = (.int 0)) (e3 : (0 : Int32) ≤ x0) : vx_Met l yX11_match (Cond.code yX11_match cX11_match 7 (some .int) :: WG) { frames := 7, cells := 1, slots := 6, locals := 103 } (zPre K [(a0, zO 9 9 g0), (a1, zO 7 6 g1)] sz [.ref a0, .int x0, .int (nI j1), .int (nI j2), .int x3, .int x4, .int x5]) (va_Qv (fun _ : Unit => False) (fun _ _ => True) (va_A [(a0, zO 9 9 g0), (a1, zO 7 6 g1)] sz)) (zX (va_A [(a0, zO 9 9 g0), (a1, zO 7 6 g1)] sz) zIB) 1 6 (va_A [(a0, zO 9 9 g0), (a1, zO 7 6 g1)] sz) := by
  refine z_xmet (Qc := fun A => va_Qv (fun _ : Unit => False) (fun _ _ => True) A) (XC := fun A => zX A zIB) (by decide +kernel) (Nat.le_of_ble_eq_true rfl) ?_
  intro p e s m args below meth c A ls H hx hb hr hg hown hlocks hml hno hK hP hD hA hS hZ hl
  have hown : s.vm.findClass RX11 = some m.cls := hown
  have hl : lv_has ls 7 [(0, .ref a0), (1, .int x0), (2, .int (nI j1)), (3, .int (nI j2)), (4, .int x3), (5, .int x4), (6, .int x5)] := hl
  refine lv_aload_n hx hb dX11_match_0 rfl (lv_at hl 0 rfl) ?_
  refine lv_iload_n hx hb dX11_match_1 rfl (lv_at hl 1 rfl) ?_
  refine z_xcall (EX := zIB) [(a0, zO 9 9 g0), (a1, zO 7 6 g1)] [0, 1] hP hD hS hA rfl (by decide) 1 6 rfl rfl (fun hPc hDc hF => z_xrunV (As := [.int x0]) (rest := []) ⟨hx, hb, hml, hown, hg⟩ (cX11_checkTold_2 l hl9 K H.size a0 a1 g0 g1 x0 e0 e1 e2 e3) kV_RX11_76 hd_X11_checkTold rfl rfl ⟨(Nat.le_of_ble_eq_true rfl), (Nat.le_of_ble_eq_true rfl)⟩ hK hS hZ hPc hDc hF 0 rfl rfl rfl hl.1 rfl (Nat.le_of_ble_eq_true rfl) dX11_match_2 ⟨(Nat.le_of_ble_eq_true rfl), (Nat.le_of_ble_eq_true rfl)⟩) (fun ce q9 H locs hS hce hcv hcl => ?_)
  exact z_xout hno hlocks hS hce hcv hcl (Nat.le_of_ble_eq_true rfl) (Nat.le_of_ble_eq_true rfl)
set_option maxHeartbeats 4000000 in
set_option maxRecDepth 100000 in
theorem cL_match_7 (l : Launch) (hl9 : l.stackTraces = false) (K : zK) (sz : Nat) (a0 : Nat) (a1 : Nat) (a2 : Nat) (g0 : Nat → Value) (g2 : Nat → Value) (x0 : Int32) (j1 : Nat) (hj1 : j1 < 4) (j2 : Nat) (hj2 : j2 < 16) (x3 : Int32) (x4 : Int32) (x5 : Int32) (e0 : g0 0 = (.ref a2)) (e1 : ¬ x0 < (0 : Int32)) (e2 : g2 5 = (.int 0)) (e3 : (0 : Int32) ≤ x0) : vx_Met l yL_match (Cond.codeWith yL_match cL_match 9 (some .int) [(0, 18, 21, 27), (0, 18, 25, 18), (0, 18, 29, 13)] :: WG) { frames := 8, cells := 1, slots := 6, locals := 129 } (zPre K [(a0, zO 9 9 g0), (a2, zO 7 6 g2)] sz [.ref a0, .int x0, .int (nI j1), .int (nI j2), .int x3, .int x4, .int x5, .ref a1]) (va_Qi (fun (r : Int32) (_ : Nat → Nat) => r = 1) (zB K (va_A [(a0, zO 9 9 g0), (a2, zO 7 6 g2)] sz) (fun u : Nat → Nat => [])) (va_A [(a0, zO 9 9 g0), (a2, zO 7 6 g2)] sz)) (vx_X (fun _ : Unit => False) (fun _ _ _ => True) (va_A [(a0, zO 9 9 g0), (a2, zO 7 6 g2)] sz)) 1 6 (va_A [(a0, zO 9 9 g0), (a2, zO 7 6 g2)] sz) := by
  refine z_hmet (Qc := fun A => (va_Qi (fun (r : Int32) (_ : Nat → Nat) => r = 1) (zB K A (fun u : Nat → Nat => [])) A)) (XC := fun A => vx_X (fun _ : Unit => False) (fun _ _ _ => True) A) (by decide +kernel) (Nat.le_of_ble_eq_true rfl) ?_
  intro p e s m args below meth c A ls H hx hb hr hg hown hlocks hml hTab hK hP hD hA hS hZ hl
  have hown : s.vm.findClass RL = some m.cls := hown
  have hl : lv_has ls 9 [(0, .ref a0), (1, .int x0), (2, .int (nI j1)), (3, .int (nI j2)), (4, .int x3), (5, .int x4), (6, .int x5), (7, .ref a1)] := hl
  refine lv_aload hx hb dL_match_0 (lv_at hl 7 rfl) ?_
  refine lv_iconst (v := 0) hx hb dL_match_2 (by decide) ?_
  refine lv_aload_n hx hb dL_match_3 rfl (lv_at hl 0 rfl) ?_
  refine lv_iload_n hx hb dL_match_4 rfl (lv_at hl 1 rfl) ?_
  refine lv_iload_n hx hb dL_match_5 rfl (lv_at hl 2 rfl) ?_
  refine lv_iload_n hx hb dL_match_6 rfl (lv_at hl 3 rfl) ?_
  refine lv_iload hx hb dL_match_7 (lv_at hl 4 rfl) ?_
  refine lv_iload hx hb dL_match_9 (lv_at hl 5 rfl) ?_
  refine lv_iload hx hb dL_match_11 (lv_at hl 6 rfl) ?_
  refine z_xcall (EX := zIB) [(a0, zO 9 9 g0), (a2, zO 7 6 g2)] [0, 1] hP hD hS hA rfl (by decide) 1 6 rfl rfl (fun hPc hDc hF => z_xrunV (As := [.int x0, .int (nI j1), .int (nI j2), .int x3, .int x4, .int x5]) (rest := [.int 0, .ref a1]) ⟨hx, hb, hml, hown, hg⟩ (cX11_match_7 l hl9 K H.size a0 a2 g0 g2 x0 j1 hj1 j2 hj2 x3 x4 x5 e0 e1 e2 e3) kV_RL_39 hd_X11_match rfl rfl ⟨(Nat.le_of_ble_eq_true rfl), (Nat.le_of_ble_eq_true rfl)⟩ hK hS hZ hPc hDc hF 0 rfl rfl rfl hl.1 rfl (Nat.le_of_ble_eq_true rfl) dL_match_13 ⟨(Nat.le_of_ble_eq_true rfl), (Nat.le_of_ble_eq_true rfl)⟩) (fun ce q9 H locs hS hce hcv hcl => ?_)
  refine vx_catch (own := RL) (name := zIB) (E := zIB) hown [] ⟨0, 18, 21, 27⟩ [⟨0, 18, 25, 18⟩, ⟨0, 18, 29, 13⟩] (by rw [hTab]; rfl) (fun z hz => nomatch hz) (by decide) (by decide) (hg _ mt526) (va_Nw.use rfl hZ.1.1.2.2.2.1) hce hcv hcl ?_
  have hP : va_P K.1 classes [] H := z_P0
  have hD : va_D A [] := z_D0
  refine lv_astore (lv' := [(8, .ref q9), (0, .ref a0), (1, .int x0), (2, .int (nI j1)), (3, .int (nI j2)), (4, .int x3), (5, .int x4), (6, .int x5), (7, .ref a1)]) hx hb dL_match_21 hl (by decide) rfl (fun ls hl => ?_)
  refine lv_iconst (v := 1) hx hb dL_match_23 (by decide) ?_
  have hP9 : va_P K.1 classes [] H := hP.sub [] rfl
  have hD9 : va_D A [] := hD.sub [] (by decide) rfl
  exact z_iret hx hb hr (fun _ => 0) rfl hP9 hD9 hS (Nat.le_of_ble_eq_true rfl) (Nat.le_of_ble_eq_true rfl) hlocks dL_match_24
set_option maxHeartbeats 4000000 in
set_option maxRecDepth 100000 in
theorem cX12_match_10 (l : Launch) (K : zK) (sz : Nat) (a0 : Nat) (g0 : Nat → Value) (x0 : Int32) (j1 : Nat) (hj1 : j1 < 4) (j2 : Nat) (hj2 : j2 < 16) (x3 : Int32) (x4 : Int32) (x5 : Int32) (e0 : g0 0 = (.int 0)) (e1 : ¬ x0 < (0 : Int32)) (e2 : (-1 : Int32) < x0) (e3 : x3 < (0 : Int32)) : Met l yX12_match (Cond.code yX12_match cX12_match 8 (some .int) :: WG) { frames := 2, cells := 0, slots := 0, locals := 43 } (zPre K [(a0, zO 10 83 g0)] sz [.ref a0, .int x0, .int (nI j1), .int (nI j2), .int x3, .int x4, .int x5]) (va_Qi (fun (r : Int32) (_ : Nat → Nat) => r = 0) (zB K (va_A [(a0, zO 10 83 g0)] sz) (fun u : Nat → Nat => [(a0, zO 10 83 (va_up g0 81 (.int 1)))])) (va_A [(a0, zO 10 83 g0)] sz)) 0 0 (va_A [(a0, zO 10 83 g0)] sz) := by
  refine z_met (Qc := fun A => (va_Qi (fun (r : Int32) (_ : Nat → Nat) => r = 0) (zB K A (fun u : Nat → Nat => [(a0, zO 10 83 (va_up g0 81 (.int 1)))])) A)) (by decide +kernel) (Nat.le_of_ble_eq_true rfl) ?_
  intro p e s m args below meth c A ls H hx hb hr hg hown hlocks hml hin hK hP hD hA hS hZ hl
  have hown : s.vm.findClass RX12 = some m.cls := hown
  have hl : lv_has ls 8 [(0, .ref a0), (1, .int x0), (2, .int (nI j1)), (3, .int (nI j2)), (4, .int x3), (5, .int x4), (6, .int x5)] := hl
  refine lv_aload_n hx hb dX12_match_0 rfl (lv_at hl 0 rfl) ?_
  refine lv_iload_n hx hb dX12_match_1 rfl (lv_at hl 1 rfl) ?_
  refine z_calli [(a0, zO 10 83 g0)] [] [0] [] hP hD hS hA rfl rfl (by decide) (by decide) (by decide +kernel) 0 0 rfl rfl (fun hPc hDc hF => z_runV (As := [.int x0]) (rest := []) ⟨hx, hb, hml, hown, hg⟩ (cX12_isNode_2 l K H.size a0 g0 x0 e0 e1 e2) kV_RX12_200 hd_X12_isNode rfl rfl ⟨(Nat.le_of_ble_eq_true rfl), (Nat.le_of_ble_eq_true rfl)⟩ hK hS hZ hPc hDc hF 0 rfl rfl rfl hl.1 rfl (Nat.le_of_ble_eq_true rfl) dX12_match_2 ⟨(Nat.le_of_ble_eq_true rfl), (Nat.le_of_ble_eq_true rfl)⟩) (fun r3 u1 H locs w2 hP hD hS => ?_)
  subst w2
  have hP : va_P K.1 classes [(a0, zO 10 83 g0)] H := hP
  have hD : va_D A [(a0, zO 10 83 g0)] := hD
  refine lv_if_eq (tgt := 30) hx hb dX12_match_5 (by decide) (fun _ => ?_) (fun c => absurd (by decide) c)
  refine lv_iconst (v := 0) hx hb dX12_match_30 (by decide) ?_
  refine lv_istore (lv' := [(7, .int 0), (0, .ref a0), (1, .int x0), (2, .int (nI j1)), (3, .int (nI j2)), (4, .int x3), (5, .int x4), (6, .int x5)]) hx hb dX12_match_31 hl (by decide) rfl (fun ls hl => ?_)
  refine lv_aload_n hx hb dX12_match_33 rfl (lv_at hl 1 rfl) ?_
  refine lv_iload hx hb dX12_match_34 (lv_at hl 0 rfl) ?_
  refine lv_iload_n hx hb dX12_match_36 rfl (lv_at hl 3 rfl) ?_
  refine lv_iconst (v := 0) hx hb dX12_match_37 (by decide) ?_
  refine lv_iconst (v := 3) hx hb dX12_match_38 (by decide) ?_
  refine z_calli [] [(a0, zO 10 83 g0)] [] [0] hP hD hS hA rfl rfl (by decide) (by decide) (by decide +kernel) 0 0 rfl rfl (fun hPc hDc hF => z_runS (As := [.int (nI j1), .int 0, .int 3]) (rest := [.int 0, .ref a0]) ⟨hx, hb, hml, hown, hg⟩ (cX12_isIn_10 l K H.size j1 hj1) kS_RX12_175 hd_X12_isIn rfl rfl ⟨(Nat.le_of_ble_eq_true rfl), (Nat.le_of_ble_eq_true rfl)⟩ hK hS hZ hPc hDc hF rfl hl.1 rfl (Nat.le_of_ble_eq_true rfl) dX12_match_39 ⟨(Nat.le_of_ble_eq_true rfl), (Nat.le_of_ble_eq_true rfl)⟩) (fun r6 u4 H locs w5 hP hD hS => ?_)
  subst w5
  have hP : va_P K.1 classes [(a0, zO 10 83 g0)] H := hP
  have hD : va_D A [(a0, zO 10 83 g0)] := hD
  refine lv_if_eq (tgt := 64) hx hb dX12_match_42 (by decide) (fun c => absurd c (by decide)) (fun _ => ?_)
  refine lv_iload_n hx hb dX12_match_45 rfl (lv_at hl 4 rfl) ?_
  refine z_calli [] [(a0, zO 10 83 g0)] [] [0] hP hD hS hA rfl rfl (by decide) (by decide) (by decide +kernel) 0 0 rfl rfl (fun hPc hDc hF => z_runS (As := [.int (nI j2)]) (rest := [.int 0, .ref a0]) ⟨hx, hb, hml, hown, hg⟩ (cX12_isName_2 l K H.size j2 hj2) kS_RX12_190 hd_X12_isName rfl rfl ⟨(Nat.le_of_ble_eq_true rfl), (Nat.le_of_ble_eq_true rfl)⟩ hK hS hZ hPc hDc hF rfl hl.1 rfl (Nat.le_of_ble_eq_true rfl) dX12_match_46 ⟨(Nat.le_of_ble_eq_true rfl), (Nat.le_of_ble_eq_true rfl)⟩) (fun r9 u7 H locs w8 hP hD hS => ?_)
  subst w8
  have hP : va_P K.1 classes [(a0, zO 10 83 g0)] H := hP
  have hD : va_D A [(a0, zO 10 83 g0)] := hD
  refine lv_if_eq (tgt := 64) hx hb dX12_match_49 (by decide) (fun c => absurd c (by decide)) (fun _ => ?_)
  refine lv_iload hx hb dX12_match_52 (lv_at hl 5 rfl) ?_
  refine z_calli [] [(a0, zO 10 83 g0)] [] [0] hP hD hS hA rfl rfl (by decide) (by decide) (by decide +kernel) 0 0 rfl rfl (fun hPc hDc hF => z_runS (As := [.int x3]) (rest := [.int 0, .ref a0]) ⟨hx, hb, hml, hown, hg⟩ (cX12_isName_1 l K H.size x3 e3) kS_RX12_190 hd_X12_isName rfl rfl ⟨(Nat.le_of_ble_eq_true rfl), (Nat.le_of_ble_eq_true rfl)⟩ hK hS hZ hPc hDc hF rfl hl.1 rfl (Nat.le_of_ble_eq_true rfl) dX12_match_54 ⟨(Nat.le_of_ble_eq_true rfl), (Nat.le_of_ble_eq_true rfl)⟩) (fun r12 u10 H locs w11 hP hD hS => ?_)
  subst w11
  have hP : va_P K.1 classes [(a0, zO 10 83 g0)] H := hP
  have hD : va_D A [(a0, zO 10 83 g0)] := hD
  refine lv_if_eq (tgt := 64) hx hb dX12_match_57 (by decide) (fun _ => ?_) (fun c => absurd (by decide) c)
  refine lv_iconst (v := 0) hx hb dX12_match_64 (by decide) ?_
  refine z_calli [(a0, zO 10 83 g0)] [] [0] [] hP hD hS hA rfl rfl (by decide) (by decide) (by decide +kernel) 0 0 rfl rfl (fun hPc hDc hF => z_runV (As := [.int 0, .int 0]) (rest := []) ⟨hx, hb, hml, hown, hg⟩ (cX12_mayTell_1 l K H.size a0 g0) kV_RX12_203 hd_X12_mayTell rfl rfl ⟨(Nat.le_of_ble_eq_true rfl), (Nat.le_of_ble_eq_true rfl)⟩ hK hS hZ hPc hDc hF 0 rfl rfl rfl hl.1 rfl (Nat.le_of_ble_eq_true rfl) dX12_match_65 ⟨(Nat.le_of_ble_eq_true rfl), (Nat.le_of_ble_eq_true rfl)⟩) (fun r15 u13 H locs w14 hP hD hS => ?_)
  subst w14
  have hP : va_P K.1 classes [(a0, zO 10 83 (va_up g0 81 (.int 1)))] H := hP
  have hD : va_D A [(a0, zO 10 83 (va_up g0 81 (.int 1)))] := hD
  refine lv_if_ne (tgt := 73) hx hb dX12_match_68 (by decide) (fun c => absurd (by decide) c) (fun _ => ?_)
  refine lv_iconst (v := 0) hx hb dX12_match_71 (by decide) ?_
  have hP9 : va_P K.1 classes [(a0, zO 10 83 (va_up g0 81 (.int 1)))] H := hP.sub [0] rfl
  have hD9 : va_D A [(a0, zO 10 83 (va_up g0 81 (.int 1)))] := hD.sub [0] (by decide) rfl
  exact z_iret hx hb hr (fun _ => 0) rfl hP9 hD9 hS (Nat.le_of_ble_eq_true rfl) (Nat.le_of_ble_eq_true rfl) hlocks dX12_match_72
set_option maxHeartbeats 4000000 in
set_option maxRecDepth 100000 in
theorem cX11_match_8 (l : Launch) (hl9 : l.stackTraces = false) (K : zK) (sz : Nat) (a0 : Nat) (a1 : Nat) (g0 : Nat → Value) (g1 : Nat → Value) (x0 : Int32) (j1 : Nat) (hj1 : j1 < 4) (j2 : Nat) (hj2 : j2 < 16) (j3 : Nat) (hj3 : j3 < 16) (x4 : Int32) (x5 : Int32) (e0 : g0 0 = (.ref a1)) (e1 : ¬ x0 < (0 : Int32)) (e2 : g1 5 = (.int 0)) (e3 : (0 : Int32) ≤ x0) : vx_Met l yX11_match (Cond.code yX11_match cX11_match 7 (some .int) :: WG) { frames := 7, cells := 1, slots := 6, locals := 103 } (zPre K [(a0, zO 9 9 g0), (a1, zO 7 6 g1)] sz [.ref a0, .int x0, .int (nI j1), .int (nI j2), .int (nI j3), .int x4, .int x5]) (va_Qv (fun _ : Unit => False) (fun _ _ => True) (va_A [(a0, zO 9 9 g0), (a1, zO 7 6 g1)] sz)) (zX (va_A [(a0, zO 9 9 g0), (a1, zO 7 6 g1)] sz) zIB) 1 6 (va_A [(a0, zO 9 9 g0), (a1, zO 7 6 g1)] sz) := by
  refine z_xmet (Qc := fun A => va_Qv (fun _ : Unit => False) (fun _ _ => True) A) (XC := fun A => zX A zIB) (by decide +kernel) (Nat.le_of_ble_eq_true rfl) ?_
  intro p e s m args below meth c A ls H hx hb hr hg hown hlocks hml hno hK hP hD hA hS hZ hl
  have hown : s.vm.findClass RX11 = some m.cls := hown
  have hl : lv_has ls 7 [(0, .ref a0), (1, .int x0), (2, .int (nI j1)), (3, .int (nI j2)), (4, .int (nI j3)), (5, .int x4), (6, .int x5)] := hl
  refine lv_aload_n hx hb dX11_match_0 rfl (lv_at hl 0 rfl) ?_
  refine lv_iload_n hx hb dX11_match_1 rfl (lv_at hl 1 rfl) ?_
  refine z_xcall (EX := zIB) [(a0, zO 9 9 g0), (a1, zO 7 6 g1)] [0, 1] hP hD hS hA rfl (by decide) 1 6 rfl rfl (fun hPc hDc hF => z_xrunV (As := [.int x0]) (rest := []) ⟨hx, hb, hml, hown, hg⟩ (cX11_checkTold_2 l hl9 K H.size a0 a1 g0 g1 x0 e0 e1 e2 e3) kV_RX11_76 hd_X11_checkTold rfl rfl ⟨(Nat.le_of_ble_eq_true rfl), (Nat.le_of_ble_eq_true rfl)⟩ hK hS hZ hPc hDc hF 0 rfl rfl rfl hl.1 rfl (Nat.le_of_ble_eq_true rfl) dX11_match_2 ⟨(Nat.le_of_ble_eq_true rfl), (Nat.le_of_ble_eq_true rfl)⟩) (fun ce q9 H locs hS hce hcv hcl => ?_)
  exact z_xout hno hlocks hS hce hcv hcl (Nat.le_of_ble_eq_true rfl) (Nat.le_of_ble_eq_true rfl)
set_option maxHeartbeats 4000000 in
set_option maxRecDepth 100000 in
theorem cL_match_8 (l : Launch) (hl9 : l.stackTraces = false) (K : zK) (sz : Nat) (a0 : Nat) (a1 : Nat) (a2 : Nat) (g0 : Nat → Value) (g2 : Nat → Value) (x0 : Int32) (j1 : Nat) (hj1 : j1 < 4) (j2 : Nat) (hj2 : j2 < 16) (j3 : Nat) (hj3 : j3 < 16) (x4 : Int32) (x5 : Int32) (e0 : g0 0 = (.ref a2)) (e1 : ¬ x0 < (0 : Int32)) (e2 : g2 5 = (.int 0)) (e3 : (0 : Int32) ≤ x0) : vx_Met l yL_match (Cond.codeWith yL_match cL_match 9 (some .int) [(0, 18, 21, 27), (0, 18, 25, 18), (0, 18, 29, 13)] :: WG) { frames := 8, cells := 1, slots := 6, locals := 129 } (zPre K [(a0, zO 9 9 g0), (a2, zO 7 6 g2)] sz [.ref a0, .int x0, .int (nI j1), .int (nI j2), .int (nI j3), .int x4, .int x5, .ref a1]) (va_Qi (fun (r : Int32) (_ : Nat → Nat) => r = 1) (zB K (va_A [(a0, zO 9 9 g0), (a2, zO 7 6 g2)] sz) (fun u : Nat → Nat => [])) (va_A [(a0, zO 9 9 g0), (a2, zO 7 6 g2)] sz)) (vx_X (fun _ : Unit => False) (fun _ _ _ => True) (va_A [(a0, zO 9 9 g0), (a2, zO 7 6 g2)] sz)) 1 6 (va_A [(a0, zO 9 9 g0), (a2, zO 7 6 g2)] sz) := by
  refine z_hmet (Qc := fun A => (va_Qi (fun (r : Int32) (_ : Nat → Nat) => r = 1) (zB K A (fun u : Nat → Nat => [])) A)) (XC := fun A => vx_X (fun _ : Unit => False) (fun _ _ _ => True) A) (by decide +kernel) (Nat.le_of_ble_eq_true rfl) ?_
  intro p e s m args below meth c A ls H hx hb hr hg hown hlocks hml hTab hK hP hD hA hS hZ hl
  have hown : s.vm.findClass RL = some m.cls := hown
  have hl : lv_has ls 9 [(0, .ref a0), (1, .int x0), (2, .int (nI j1)), (3, .int (nI j2)), (4, .int (nI j3)), (5, .int x4), (6, .int x5), (7, .ref a1)] := hl
  refine lv_aload hx hb dL_match_0 (lv_at hl 7 rfl) ?_
  refine lv_iconst (v := 0) hx hb dL_match_2 (by decide) ?_
  refine lv_aload_n hx hb dL_match_3 rfl (lv_at hl 0 rfl) ?_
  refine lv_iload_n hx hb dL_match_4 rfl (lv_at hl 1 rfl) ?_
  refine lv_iload_n hx hb dL_match_5 rfl (lv_at hl 2 rfl) ?_
  refine lv_iload_n hx hb dL_match_6 rfl (lv_at hl 3 rfl) ?_
  refine lv_iload hx hb dL_match_7 (lv_at hl 4 rfl) ?_
  refine lv_iload hx hb dL_match_9 (lv_at hl 5 rfl) ?_
  refine lv_iload hx hb dL_match_11 (lv_at hl 6 rfl) ?_
  refine z_xcall (EX := zIB) [(a0, zO 9 9 g0), (a2, zO 7 6 g2)] [0, 1] hP hD hS hA rfl (by decide) 1 6 rfl rfl (fun hPc hDc hF => z_xrunV (As := [.int x0, .int (nI j1), .int (nI j2), .int (nI j3), .int x4, .int x5]) (rest := [.int 0, .ref a1]) ⟨hx, hb, hml, hown, hg⟩ (cX11_match_8 l hl9 K H.size a0 a2 g0 g2 x0 j1 hj1 j2 hj2 j3 hj3 x4 x5 e0 e1 e2 e3) kV_RL_39 hd_X11_match rfl rfl ⟨(Nat.le_of_ble_eq_true rfl), (Nat.le_of_ble_eq_true rfl)⟩ hK hS hZ hPc hDc hF 0 rfl rfl rfl hl.1 rfl (Nat.le_of_ble_eq_true rfl) dL_match_13 ⟨(Nat.le_of_ble_eq_true rfl), (Nat.le_of_ble_eq_true rfl)⟩) (fun ce q9 H locs hS hce hcv hcl => ?_)
  refine vx_catch (own := RL) (name := zIB) (E := zIB) hown [] ⟨0, 18, 21, 27⟩ [⟨0, 18, 25, 18⟩, ⟨0, 18, 29, 13⟩] (by rw [hTab]; rfl) (fun z hz => nomatch hz) (by decide) (by decide) (hg _ mt526) (va_Nw.use rfl hZ.1.1.2.2.2.1) hce hcv hcl ?_
  have hP : va_P K.1 classes [] H := z_P0
  have hD : va_D A [] := z_D0
  refine lv_astore (lv' := [(8, .ref q9), (0, .ref a0), (1, .int x0), (2, .int (nI j1)), (3, .int (nI j2)), (4, .int (nI j3)), (5, .int x4), (6, .int x5), (7, .ref a1)]) hx hb dL_match_21 hl (by decide) rfl (fun ls hl => ?_)
  refine lv_iconst (v := 1) hx hb dL_match_23 (by decide) ?_
  have hP9 : va_P K.1 classes [] H := hP.sub [] rfl
  have hD9 : va_D A [] := hD.sub [] (by decide) rfl
  exact z_iret hx hb hr (fun _ => 0) rfl hP9 hD9 hS (Nat.le_of_ble_eq_true rfl) (Nat.le_of_ble_eq_true rfl) hlocks dL_match_24
set_option maxHeartbeats 4000000 in
set_option maxRecDepth 100000 in
theorem cX12_match_11 (l : Launch) (K : zK) (sz : Nat) (a0 : Nat) (g0 : Nat → Value) (x0 : Int32) (j1 : Nat) (hj1 : j1 < 4) (j2 : Nat) (hj2 : j2 < 16) (j3 : Nat) (hj3 : j3 < 16) (x4 : Int32) (x5 : Int32) (e0 : g0 0 = (.int 0)) (e1 : ¬ x0 < (0 : Int32)) (e2 : (-1 : Int32) < x0) : Met l yX12_match (Cond.code yX12_match cX12_match 8 (some .int) :: WG) { frames := 2, cells := 0, slots := 0, locals := 43 } (zPre K [(a0, zO 10 83 g0)] sz [.ref a0, .int x0, .int (nI j1), .int (nI j2), .int (nI j3), .int x4, .int x5]) (va_Qi (fun (r : Int32) (_ : Nat → Nat) => r = 0) (zB K (va_A [(a0, zO 10 83 g0)] sz) (fun u : Nat → Nat => [(a0, zO 10 83 (va_up g0 81 (.int 1)))])) (va_A [(a0, zO 10 83 g0)] sz)) 0 0 (va_A [(a0, zO 10 83 g0)] sz) := by
  refine z_met (Qc := fun A => (va_Qi (fun (r : Int32) (_ : Nat → Nat) => r = 0) (zB K A (fun u : Nat → Nat => [(a0, zO 10 83 (va_up g0 81 (.int 1)))])) A)) (by decide +kernel) (Nat.le_of_ble_eq_true rfl) ?_
  intro p e s m args below meth c A ls H hx hb hr hg hown hlocks hml hin hK hP hD hA hS hZ hl
  have hown : s.vm.findClass RX12 = some m.cls := hown
  have hl : lv_has ls 8 [(0, .ref a0), (1, .int x0), (2, .int (nI j1)), (3, .int (nI j2)), (4, .int (nI j3)), (5, .int x4), (6, .int x5)] := hl
  refine lv_aload_n hx hb dX12_match_0 rfl (lv_at hl 0 rfl) ?_
  refine lv_iload_n hx hb dX12_match_1 rfl (lv_at hl 1 rfl) ?_
  refine z_calli [(a0, zO 10 83 g0)] [] [0] [] hP hD hS hA rfl rfl (by decide) (by decide) (by decide +kernel) 0 0 rfl rfl (fun hPc hDc hF => z_runV (As := [.int x0]) (rest := []) ⟨hx, hb, hml, hown, hg⟩ (cX12_isNode_2 l K H.size a0 g0 x0 e0 e1 e2) kV_RX12_200 hd_X12_isNode rfl rfl ⟨(Nat.le_of_ble_eq_true rfl), (Nat.le_of_ble_eq_true rfl)⟩ hK hS hZ hPc hDc hF 0 rfl rfl rfl hl.1 rfl (Nat.le_of_ble_eq_true rfl) dX12_match_2 ⟨(Nat.le_of_ble_eq_true rfl), (Nat.le_of_ble_eq_true rfl)⟩) (fun r3 u1 H locs w2 hP hD hS => ?_)
  subst w2
  have hP : va_P K.1 classes [(a0, zO 10 83 g0)] H := hP
  have hD : va_D A [(a0, zO 10 83 g0)] := hD
  refine lv_if_eq (tgt := 30) hx hb dX12_match_5 (by decide) (fun _ => ?_) (fun c => absurd (by decide) c)
  refine lv_iconst (v := 0) hx hb dX12_match_30 (by decide) ?_
  refine lv_istore (lv' := [(7, .int 0), (0, .ref a0), (1, .int x0), (2, .int (nI j1)), (3, .int (nI j2)), (4, .int (nI j3)), (5, .int x4), (6, .int x5)]) hx hb dX12_match_31 hl (by decide) rfl (fun ls hl => ?_)
  refine lv_aload_n hx hb dX12_match_33 rfl (lv_at hl 1 rfl) ?_
  refine lv_iload hx hb dX12_match_34 (lv_at hl 0 rfl) ?_
  refine lv_iload_n hx hb dX12_match_36 rfl (lv_at hl 3 rfl) ?_
  refine lv_iconst (v := 0) hx hb dX12_match_37 (by decide) ?_
  refine lv_iconst (v := 3) hx hb dX12_match_38 (by decide) ?_
  refine z_calli [] [(a0, zO 10 83 g0)] [] [0] hP hD hS hA rfl rfl (by decide) (by decide) (by decide +kernel) 0 0 rfl rfl (fun hPc hDc hF => z_runS (As := [.int (nI j1), .int 0, .int 3]) (rest := [.int 0, .ref a0]) ⟨hx, hb, hml, hown, hg⟩ (cX12_isIn_10 l K H.size j1 hj1) kS_RX12_175 hd_X12_isIn rfl rfl ⟨(Nat.le_of_ble_eq_true rfl), (Nat.le_of_ble_eq_true rfl)⟩ hK hS hZ hPc hDc hF rfl hl.1 rfl (Nat.le_of_ble_eq_true rfl) dX12_match_39 ⟨(Nat.le_of_ble_eq_true rfl), (Nat.le_of_ble_eq_true rfl)⟩) (fun r6 u4 H locs w5 hP hD hS => ?_)
  subst w5
  have hP : va_P K.1 classes [(a0, zO 10 83 g0)] H := hP
  have hD : va_D A [(a0, zO 10 83 g0)] := hD
  refine lv_if_eq (tgt := 64) hx hb dX12_match_42 (by decide) (fun c => absurd c (by decide)) (fun _ => ?_)
  refine lv_iload_n hx hb dX12_match_45 rfl (lv_at hl 4 rfl) ?_
  refine z_calli [] [(a0, zO 10 83 g0)] [] [0] hP hD hS hA rfl rfl (by decide) (by decide) (by decide +kernel) 0 0 rfl rfl (fun hPc hDc hF => z_runS (As := [.int (nI j2)]) (rest := [.int 0, .ref a0]) ⟨hx, hb, hml, hown, hg⟩ (cX12_isName_2 l K H.size j2 hj2) kS_RX12_190 hd_X12_isName rfl rfl ⟨(Nat.le_of_ble_eq_true rfl), (Nat.le_of_ble_eq_true rfl)⟩ hK hS hZ hPc hDc hF rfl hl.1 rfl (Nat.le_of_ble_eq_true rfl) dX12_match_46 ⟨(Nat.le_of_ble_eq_true rfl), (Nat.le_of_ble_eq_true rfl)⟩) (fun r9 u7 H locs w8 hP hD hS => ?_)
  subst w8
  have hP : va_P K.1 classes [(a0, zO 10 83 g0)] H := hP
  have hD : va_D A [(a0, zO 10 83 g0)] := hD
  refine lv_if_eq (tgt := 64) hx hb dX12_match_49 (by decide) (fun c => absurd c (by decide)) (fun _ => ?_)
  refine lv_iload hx hb dX12_match_52 (lv_at hl 5 rfl) ?_
  refine z_calli [] [(a0, zO 10 83 g0)] [] [0] hP hD hS hA rfl rfl (by decide) (by decide) (by decide +kernel) 0 0 rfl rfl (fun hPc hDc hF => z_runS (As := [.int (nI j3)]) (rest := [.int 0, .ref a0]) ⟨hx, hb, hml, hown, hg⟩ (cX12_isName_2 l K H.size j3 hj3) kS_RX12_190 hd_X12_isName rfl rfl ⟨(Nat.le_of_ble_eq_true rfl), (Nat.le_of_ble_eq_true rfl)⟩ hK hS hZ hPc hDc hF rfl hl.1 rfl (Nat.le_of_ble_eq_true rfl) dX12_match_54 ⟨(Nat.le_of_ble_eq_true rfl), (Nat.le_of_ble_eq_true rfl)⟩) (fun r12 u10 H locs w11 hP hD hS => ?_)
  subst w11
  have hP : va_P K.1 classes [(a0, zO 10 83 g0)] H := hP
  have hD : va_D A [(a0, zO 10 83 g0)] := hD
  refine lv_if_eq (tgt := 64) hx hb dX12_match_57 (by decide) (fun c => absurd c (by decide)) (fun _ => ?_)
  refine lv_iconst (v := 1) hx hb dX12_match_60 (by decide) ?_
  refine lv_goto (tgt := 65) hx hb dX12_match_61 (by decide) ?_
  refine z_calli [(a0, zO 10 83 g0)] [] [0] [] hP hD hS hA rfl rfl (by decide) (by decide) (by decide +kernel) 0 0 rfl rfl (fun hPc hDc hF => z_runV (As := [.int 0, .int 1]) (rest := []) ⟨hx, hb, hml, hown, hg⟩ (cX12_mayTell_2 l K H.size a0 g0) kV_RX12_203 hd_X12_mayTell rfl rfl ⟨(Nat.le_of_ble_eq_true rfl), (Nat.le_of_ble_eq_true rfl)⟩ hK hS hZ hPc hDc hF 0 rfl rfl rfl hl.1 rfl (Nat.le_of_ble_eq_true rfl) dX12_match_65 ⟨(Nat.le_of_ble_eq_true rfl), (Nat.le_of_ble_eq_true rfl)⟩) (fun r15 u13 H locs w14 hP hD hS => ?_)
  subst w14
  have hP : va_P K.1 classes [(a0, zO 10 83 (va_up g0 81 (.int 1)))] H := hP
  have hD : va_D A [(a0, zO 10 83 (va_up g0 81 (.int 1)))] := hD
  refine lv_if_ne (tgt := 73) hx hb dX12_match_68 (by decide) (fun c => absurd (by decide) c) (fun _ => ?_)
  refine lv_iconst (v := 0) hx hb dX12_match_71 (by decide) ?_
  have hP9 : va_P K.1 classes [(a0, zO 10 83 (va_up g0 81 (.int 1)))] H := hP.sub [0] rfl
  have hD9 : va_D A [(a0, zO 10 83 (va_up g0 81 (.int 1)))] := hD.sub [0] (by decide) rfl
  exact z_iret hx hb hr (fun _ => 0) rfl hP9 hD9 hS (Nat.le_of_ble_eq_true rfl) (Nat.le_of_ble_eq_true rfl) hlocks dX12_match_72
set_option maxHeartbeats 4000000 in
set_option maxRecDepth 100000 in
theorem cX12_match_12 (l : Launch) (K : zK) (sz : Nat) (a0 : Nat) (g0 : Nat → Value) (x0 : Int32) (j1 : Nat) (hj1 : j1 < 4) (j2 : Nat) (hj2 : j2 < 16) (x3 : Int32) (x4 : Int32) (x5 : Int32) (e0 : g0 0 = (.int 0)) (e1 : ¬ x0 < (0 : Int32)) (e2 : (-1 : Int32) < x0) (e3 : ¬ x3 < (0 : Int32)) (e4 : (15 : Int32) < x3) : Met l yX12_match (Cond.code yX12_match cX12_match 8 (some .int) :: WG) { frames := 2, cells := 0, slots := 0, locals := 43 } (zPre K [(a0, zO 10 83 g0)] sz [.ref a0, .int x0, .int (nI j1), .int (nI j2), .int x3, .int x4, .int x5]) (va_Qi (fun (r : Int32) (_ : Nat → Nat) => r = 0) (zB K (va_A [(a0, zO 10 83 g0)] sz) (fun u : Nat → Nat => [(a0, zO 10 83 (va_up g0 81 (.int 1)))])) (va_A [(a0, zO 10 83 g0)] sz)) 0 0 (va_A [(a0, zO 10 83 g0)] sz) := by
  refine z_met (Qc := fun A => (va_Qi (fun (r : Int32) (_ : Nat → Nat) => r = 0) (zB K A (fun u : Nat → Nat => [(a0, zO 10 83 (va_up g0 81 (.int 1)))])) A)) (by decide +kernel) (Nat.le_of_ble_eq_true rfl) ?_
  intro p e s m args below meth c A ls H hx hb hr hg hown hlocks hml hin hK hP hD hA hS hZ hl
  have hown : s.vm.findClass RX12 = some m.cls := hown
  have hl : lv_has ls 8 [(0, .ref a0), (1, .int x0), (2, .int (nI j1)), (3, .int (nI j2)), (4, .int x3), (5, .int x4), (6, .int x5)] := hl
  refine lv_aload_n hx hb dX12_match_0 rfl (lv_at hl 0 rfl) ?_
  refine lv_iload_n hx hb dX12_match_1 rfl (lv_at hl 1 rfl) ?_
  refine z_calli [(a0, zO 10 83 g0)] [] [0] [] hP hD hS hA rfl rfl (by decide) (by decide) (by decide +kernel) 0 0 rfl rfl (fun hPc hDc hF => z_runV (As := [.int x0]) (rest := []) ⟨hx, hb, hml, hown, hg⟩ (cX12_isNode_2 l K H.size a0 g0 x0 e0 e1 e2) kV_RX12_200 hd_X12_isNode rfl rfl ⟨(Nat.le_of_ble_eq_true rfl), (Nat.le_of_ble_eq_true rfl)⟩ hK hS hZ hPc hDc hF 0 rfl rfl rfl hl.1 rfl (Nat.le_of_ble_eq_true rfl) dX12_match_2 ⟨(Nat.le_of_ble_eq_true rfl), (Nat.le_of_ble_eq_true rfl)⟩) (fun r3 u1 H locs w2 hP hD hS => ?_)
  subst w2
  have hP : va_P K.1 classes [(a0, zO 10 83 g0)] H := hP
  have hD : va_D A [(a0, zO 10 83 g0)] := hD
  refine lv_if_eq (tgt := 30) hx hb dX12_match_5 (by decide) (fun _ => ?_) (fun c => absurd (by decide) c)
  refine lv_iconst (v := 0) hx hb dX12_match_30 (by decide) ?_
  refine lv_istore (lv' := [(7, .int 0), (0, .ref a0), (1, .int x0), (2, .int (nI j1)), (3, .int (nI j2)), (4, .int x3), (5, .int x4), (6, .int x5)]) hx hb dX12_match_31 hl (by decide) rfl (fun ls hl => ?_)
  refine lv_aload_n hx hb dX12_match_33 rfl (lv_at hl 1 rfl) ?_
  refine lv_iload hx hb dX12_match_34 (lv_at hl 0 rfl) ?_
  refine lv_iload_n hx hb dX12_match_36 rfl (lv_at hl 3 rfl) ?_
  refine lv_iconst (v := 0) hx hb dX12_match_37 (by decide) ?_
  refine lv_iconst (v := 3) hx hb dX12_match_38 (by decide) ?_
  refine z_calli [] [(a0, zO 10 83 g0)] [] [0] hP hD hS hA rfl rfl (by decide) (by decide) (by decide +kernel) 0 0 rfl rfl (fun hPc hDc hF => z_runS (As := [.int (nI j1), .int 0, .int 3]) (rest := [.int 0, .ref a0]) ⟨hx, hb, hml, hown, hg⟩ (cX12_isIn_10 l K H.size j1 hj1) kS_RX12_175 hd_X12_isIn rfl rfl ⟨(Nat.le_of_ble_eq_true rfl), (Nat.le_of_ble_eq_true rfl)⟩ hK hS hZ hPc hDc hF rfl hl.1 rfl (Nat.le_of_ble_eq_true rfl) dX12_match_39 ⟨(Nat.le_of_ble_eq_true rfl), (Nat.le_of_ble_eq_true rfl)⟩) (fun r6 u4 H locs w5 hP hD hS => ?_)
  subst w5
  have hP : va_P K.1 classes [(a0, zO 10 83 g0)] H := hP
  have hD : va_D A [(a0, zO 10 83 g0)] := hD
  refine lv_if_eq (tgt := 64) hx hb dX12_match_42 (by decide) (fun c => absurd c (by decide)) (fun _ => ?_)
  refine lv_iload_n hx hb dX12_match_45 rfl (lv_at hl 4 rfl) ?_
  refine z_calli [] [(a0, zO 10 83 g0)] [] [0] hP hD hS hA rfl rfl (by decide) (by decide) (by decide +kernel) 0 0 rfl rfl (fun hPc hDc hF => z_runS (As := [.int (nI j2)]) (rest := [.int 0, .ref a0]) ⟨hx, hb, hml, hown, hg⟩ (cX12_isName_2 l K H.size j2 hj2) kS_RX12_190 hd_X12_isName rfl rfl ⟨(Nat.le_of_ble_eq_true rfl), (Nat.le_of_ble_eq_true rfl)⟩ hK hS hZ hPc hDc hF rfl hl.1 rfl (Nat.le_of_ble_eq_true rfl) dX12_match_46 ⟨(Nat.le_of_ble_eq_true rfl), (Nat.le_of_ble_eq_true rfl)⟩) (fun r9 u7 H locs w8 hP hD hS => ?_)
  subst w8
  have hP : va_P K.1 classes [(a0, zO 10 83 g0)] H := hP
  have hD : va_D A [(a0, zO 10 83 g0)] := hD
  refine lv_if_eq (tgt := 64) hx hb dX12_match_49 (by decide) (fun c => absurd c (by decide)) (fun _ => ?_)
  refine lv_iload hx hb dX12_match_52 (lv_at hl 5 rfl) ?_
  refine z_calli [] [(a0, zO 10 83 g0)] [] [0] hP hD hS hA rfl rfl (by decide) (by decide) (by decide +kernel) 0 0 rfl rfl (fun hPc hDc hF => z_runS (As := [.int x3]) (rest := [.int 0, .ref a0]) ⟨hx, hb, hml, hown, hg⟩ (cX12_isName_3 l K H.size x3 e3 e4) kS_RX12_190 hd_X12_isName rfl rfl ⟨(Nat.le_of_ble_eq_true rfl), (Nat.le_of_ble_eq_true rfl)⟩ hK hS hZ hPc hDc hF rfl hl.1 rfl (Nat.le_of_ble_eq_true rfl) dX12_match_54 ⟨(Nat.le_of_ble_eq_true rfl), (Nat.le_of_ble_eq_true rfl)⟩) (fun r12 u10 H locs w11 hP hD hS => ?_)
  subst w11
  have hP : va_P K.1 classes [(a0, zO 10 83 g0)] H := hP
  have hD : va_D A [(a0, zO 10 83 g0)] := hD
  refine lv_if_eq (tgt := 64) hx hb dX12_match_57 (by decide) (fun _ => ?_) (fun c => absurd (by decide) c)
  refine lv_iconst (v := 0) hx hb dX12_match_64 (by decide) ?_
  refine z_calli [(a0, zO 10 83 g0)] [] [0] [] hP hD hS hA rfl rfl (by decide) (by decide) (by decide +kernel) 0 0 rfl rfl (fun hPc hDc hF => z_runV (As := [.int 0, .int 0]) (rest := []) ⟨hx, hb, hml, hown, hg⟩ (cX12_mayTell_1 l K H.size a0 g0) kV_RX12_203 hd_X12_mayTell rfl rfl ⟨(Nat.le_of_ble_eq_true rfl), (Nat.le_of_ble_eq_true rfl)⟩ hK hS hZ hPc hDc hF 0 rfl rfl rfl hl.1 rfl (Nat.le_of_ble_eq_true rfl) dX12_match_65 ⟨(Nat.le_of_ble_eq_true rfl), (Nat.le_of_ble_eq_true rfl)⟩) (fun r15 u13 H locs w14 hP hD hS => ?_)
  subst w14
  have hP : va_P K.1 classes [(a0, zO 10 83 (va_up g0 81 (.int 1)))] H := hP
  have hD : va_D A [(a0, zO 10 83 (va_up g0 81 (.int 1)))] := hD
  refine lv_if_ne (tgt := 73) hx hb dX12_match_68 (by decide) (fun c => absurd (by decide) c) (fun _ => ?_)
  refine lv_iconst (v := 0) hx hb dX12_match_71 (by decide) ?_
  have hP9 : va_P K.1 classes [(a0, zO 10 83 (va_up g0 81 (.int 1)))] H := hP.sub [0] rfl
  have hD9 : va_D A [(a0, zO 10 83 (va_up g0 81 (.int 1)))] := hD.sub [0] (by decide) rfl
  exact z_iret hx hb hr (fun _ => 0) rfl hP9 hD9 hS (Nat.le_of_ble_eq_true rfl) (Nat.le_of_ble_eq_true rfl) hlocks dX12_match_72
set_option maxHeartbeats 4000000 in
set_option maxRecDepth 100000 in
theorem cX12_match_13 (l : Launch) (K : zK) (sz : Nat) (a0 : Nat) (g0 : Nat → Value) (x0 : Int32) (j1 : Nat) (hj1 : j1 < 4) (x2 : Int32) (x3 : Int32) (x4 : Int32) (x5 : Int32) (e0 : g0 0 = (.int 0)) (e1 : ¬ x0 < (0 : Int32)) (e2 : (-1 : Int32) < x0) (e3 : ¬ x2 < (0 : Int32)) (e4 : (15 : Int32) < x2) : Met l yX12_match (Cond.code yX12_match cX12_match 8 (some .int) :: WG) { frames := 2, cells := 0, slots := 0, locals := 43 } (zPre K [(a0, zO 10 83 g0)] sz [.ref a0, .int x0, .int (nI j1), .int x2, .int x3, .int x4, .int x5]) (va_Qi (fun (r : Int32) (_ : Nat → Nat) => r = 0) (zB K (va_A [(a0, zO 10 83 g0)] sz) (fun u : Nat → Nat => [(a0, zO 10 83 (va_up g0 81 (.int 1)))])) (va_A [(a0, zO 10 83 g0)] sz)) 0 0 (va_A [(a0, zO 10 83 g0)] sz) := by
  refine z_met (Qc := fun A => (va_Qi (fun (r : Int32) (_ : Nat → Nat) => r = 0) (zB K A (fun u : Nat → Nat => [(a0, zO 10 83 (va_up g0 81 (.int 1)))])) A)) (by decide +kernel) (Nat.le_of_ble_eq_true rfl) ?_
  intro p e s m args below meth c A ls H hx hb hr hg hown hlocks hml hin hK hP hD hA hS hZ hl
  have hown : s.vm.findClass RX12 = some m.cls := hown
  have hl : lv_has ls 8 [(0, .ref a0), (1, .int x0), (2, .int (nI j1)), (3, .int x2), (4, .int x3), (5, .int x4), (6, .int x5)] := hl
  refine lv_aload_n hx hb dX12_match_0 rfl (lv_at hl 0 rfl) ?_
  refine lv_iload_n hx hb dX12_match_1 rfl (lv_at hl 1 rfl) ?_
  refine z_calli [(a0, zO 10 83 g0)] [] [0] [] hP hD hS hA rfl rfl (by decide) (by decide) (by decide +kernel) 0 0 rfl rfl (fun hPc hDc hF => z_runV (As := [.int x0]) (rest := []) ⟨hx, hb, hml, hown, hg⟩ (cX12_isNode_2 l K H.size a0 g0 x0 e0 e1 e2) kV_RX12_200 hd_X12_isNode rfl rfl ⟨(Nat.le_of_ble_eq_true rfl), (Nat.le_of_ble_eq_true rfl)⟩ hK hS hZ hPc hDc hF 0 rfl rfl rfl hl.1 rfl (Nat.le_of_ble_eq_true rfl) dX12_match_2 ⟨(Nat.le_of_ble_eq_true rfl), (Nat.le_of_ble_eq_true rfl)⟩) (fun r3 u1 H locs w2 hP hD hS => ?_)
  subst w2
  have hP : va_P K.1 classes [(a0, zO 10 83 g0)] H := hP
  have hD : va_D A [(a0, zO 10 83 g0)] := hD
  refine lv_if_eq (tgt := 30) hx hb dX12_match_5 (by decide) (fun _ => ?_) (fun c => absurd (by decide) c)
  refine lv_iconst (v := 0) hx hb dX12_match_30 (by decide) ?_
  refine lv_istore (lv' := [(7, .int 0), (0, .ref a0), (1, .int x0), (2, .int (nI j1)), (3, .int x2), (4, .int x3), (5, .int x4), (6, .int x5)]) hx hb dX12_match_31 hl (by decide) rfl (fun ls hl => ?_)
  refine lv_aload_n hx hb dX12_match_33 rfl (lv_at hl 1 rfl) ?_
  refine lv_iload hx hb dX12_match_34 (lv_at hl 0 rfl) ?_
  refine lv_iload_n hx hb dX12_match_36 rfl (lv_at hl 3 rfl) ?_
  refine lv_iconst (v := 0) hx hb dX12_match_37 (by decide) ?_
  refine lv_iconst (v := 3) hx hb dX12_match_38 (by decide) ?_
  refine z_calli [] [(a0, zO 10 83 g0)] [] [0] hP hD hS hA rfl rfl (by decide) (by decide) (by decide +kernel) 0 0 rfl rfl (fun hPc hDc hF => z_runS (As := [.int (nI j1), .int 0, .int 3]) (rest := [.int 0, .ref a0]) ⟨hx, hb, hml, hown, hg⟩ (cX12_isIn_10 l K H.size j1 hj1) kS_RX12_175 hd_X12_isIn rfl rfl ⟨(Nat.le_of_ble_eq_true rfl), (Nat.le_of_ble_eq_true rfl)⟩ hK hS hZ hPc hDc hF rfl hl.1 rfl (Nat.le_of_ble_eq_true rfl) dX12_match_39 ⟨(Nat.le_of_ble_eq_true rfl), (Nat.le_of_ble_eq_true rfl)⟩) (fun r6 u4 H locs w5 hP hD hS => ?_)
  subst w5
  have hP : va_P K.1 classes [(a0, zO 10 83 g0)] H := hP
  have hD : va_D A [(a0, zO 10 83 g0)] := hD
  refine lv_if_eq (tgt := 64) hx hb dX12_match_42 (by decide) (fun c => absurd c (by decide)) (fun _ => ?_)
  refine lv_iload_n hx hb dX12_match_45 rfl (lv_at hl 4 rfl) ?_
  refine z_calli [] [(a0, zO 10 83 g0)] [] [0] hP hD hS hA rfl rfl (by decide) (by decide) (by decide +kernel) 0 0 rfl rfl (fun hPc hDc hF => z_runS (As := [.int x2]) (rest := [.int 0, .ref a0]) ⟨hx, hb, hml, hown, hg⟩ (cX12_isName_3 l K H.size x2 e3 e4) kS_RX12_190 hd_X12_isName rfl rfl ⟨(Nat.le_of_ble_eq_true rfl), (Nat.le_of_ble_eq_true rfl)⟩ hK hS hZ hPc hDc hF rfl hl.1 rfl (Nat.le_of_ble_eq_true rfl) dX12_match_46 ⟨(Nat.le_of_ble_eq_true rfl), (Nat.le_of_ble_eq_true rfl)⟩) (fun r9 u7 H locs w8 hP hD hS => ?_)
  subst w8
  have hP : va_P K.1 classes [(a0, zO 10 83 g0)] H := hP
  have hD : va_D A [(a0, zO 10 83 g0)] := hD
  refine lv_if_eq (tgt := 64) hx hb dX12_match_49 (by decide) (fun _ => ?_) (fun c => absurd (by decide) c)
  refine lv_iconst (v := 0) hx hb dX12_match_64 (by decide) ?_
  refine z_calli [(a0, zO 10 83 g0)] [] [0] [] hP hD hS hA rfl rfl (by decide) (by decide) (by decide +kernel) 0 0 rfl rfl (fun hPc hDc hF => z_runV (As := [.int 0, .int 0]) (rest := []) ⟨hx, hb, hml, hown, hg⟩ (cX12_mayTell_1 l K H.size a0 g0) kV_RX12_203 hd_X12_mayTell rfl rfl ⟨(Nat.le_of_ble_eq_true rfl), (Nat.le_of_ble_eq_true rfl)⟩ hK hS hZ hPc hDc hF 0 rfl rfl rfl hl.1 rfl (Nat.le_of_ble_eq_true rfl) dX12_match_65 ⟨(Nat.le_of_ble_eq_true rfl), (Nat.le_of_ble_eq_true rfl)⟩) (fun r12 u10 H locs w11 hP hD hS => ?_)
  subst w11
  have hP : va_P K.1 classes [(a0, zO 10 83 (va_up g0 81 (.int 1)))] H := hP
  have hD : va_D A [(a0, zO 10 83 (va_up g0 81 (.int 1)))] := hD
  refine lv_if_ne (tgt := 73) hx hb dX12_match_68 (by decide) (fun c => absurd (by decide) c) (fun _ => ?_)
  refine lv_iconst (v := 0) hx hb dX12_match_71 (by decide) ?_
  have hP9 : va_P K.1 classes [(a0, zO 10 83 (va_up g0 81 (.int 1)))] H := hP.sub [0] rfl
  have hD9 : va_D A [(a0, zO 10 83 (va_up g0 81 (.int 1)))] := hD.sub [0] (by decide) rfl
  exact z_iret hx hb hr (fun _ => 0) rfl hP9 hD9 hS (Nat.le_of_ble_eq_true rfl) (Nat.le_of_ble_eq_true rfl) hlocks dX12_match_72
set_option maxHeartbeats 4000000 in
set_option maxRecDepth 100000 in
theorem cX12_match_14 (l : Launch) (K : zK) (sz : Nat) (a0 : Nat) (g0 : Nat → Value) (x0 : Int32) (x1 : Int32) (x2 : Int32) (x3 : Int32) (x4 : Int32) (x5 : Int32) (e0 : g0 0 = (.int 0)) (e1 : ¬ x0 < (0 : Int32)) (e2 : (-1 : Int32) < x0) (e3 : ¬ x1 < (0 : Int32)) (e4 : (3 : Int32) < x1) : Met l yX12_match (Cond.code yX12_match cX12_match 8 (some .int) :: WG) { frames := 2, cells := 0, slots := 0, locals := 43 } (zPre K [(a0, zO 10 83 g0)] sz [.ref a0, .int x0, .int x1, .int x2, .int x3, .int x4, .int x5]) (va_Qi (fun (r : Int32) (_ : Nat → Nat) => r = 0) (zB K (va_A [(a0, zO 10 83 g0)] sz) (fun u : Nat → Nat => [(a0, zO 10 83 (va_up g0 81 (.int 1)))])) (va_A [(a0, zO 10 83 g0)] sz)) 0 0 (va_A [(a0, zO 10 83 g0)] sz) := by
  refine z_met (Qc := fun A => (va_Qi (fun (r : Int32) (_ : Nat → Nat) => r = 0) (zB K A (fun u : Nat → Nat => [(a0, zO 10 83 (va_up g0 81 (.int 1)))])) A)) (by decide +kernel) (Nat.le_of_ble_eq_true rfl) ?_
  intro p e s m args below meth c A ls H hx hb hr hg hown hlocks hml hin hK hP hD hA hS hZ hl
  have hown : s.vm.findClass RX12 = some m.cls := hown
  have hl : lv_has ls 8 [(0, .ref a0), (1, .int x0), (2, .int x1), (3, .int x2), (4, .int x3), (5, .int x4), (6, .int x5)] := hl
  refine lv_aload_n hx hb dX12_match_0 rfl (lv_at hl 0 rfl) ?_
  refine lv_iload_n hx hb dX12_match_1 rfl (lv_at hl 1 rfl) ?_
  refine z_calli [(a0, zO 10 83 g0)] [] [0] [] hP hD hS hA rfl rfl (by decide) (by decide) (by decide +kernel) 0 0 rfl rfl (fun hPc hDc hF => z_runV (As := [.int x0]) (rest := []) ⟨hx, hb, hml, hown, hg⟩ (cX12_isNode_2 l K H.size a0 g0 x0 e0 e1 e2) kV_RX12_200 hd_X12_isNode rfl rfl ⟨(Nat.le_of_ble_eq_true rfl), (Nat.le_of_ble_eq_true rfl)⟩ hK hS hZ hPc hDc hF 0 rfl rfl rfl hl.1 rfl (Nat.le_of_ble_eq_true rfl) dX12_match_2 ⟨(Nat.le_of_ble_eq_true rfl), (Nat.le_of_ble_eq_true rfl)⟩) (fun r3 u1 H locs w2 hP hD hS => ?_)
  subst w2
  have hP : va_P K.1 classes [(a0, zO 10 83 g0)] H := hP
  have hD : va_D A [(a0, zO 10 83 g0)] := hD
  refine lv_if_eq (tgt := 30) hx hb dX12_match_5 (by decide) (fun _ => ?_) (fun c => absurd (by decide) c)
  refine lv_iconst (v := 0) hx hb dX12_match_30 (by decide) ?_
  refine lv_istore (lv' := [(7, .int 0), (0, .ref a0), (1, .int x0), (2, .int x1), (3, .int x2), (4, .int x3), (5, .int x4), (6, .int x5)]) hx hb dX12_match_31 hl (by decide) rfl (fun ls hl => ?_)
  refine lv_aload_n hx hb dX12_match_33 rfl (lv_at hl 1 rfl) ?_
  refine lv_iload hx hb dX12_match_34 (lv_at hl 0 rfl) ?_
  refine lv_iload_n hx hb dX12_match_36 rfl (lv_at hl 3 rfl) ?_
  refine lv_iconst (v := 0) hx hb dX12_match_37 (by decide) ?_
  refine lv_iconst (v := 3) hx hb dX12_match_38 (by decide) ?_
  refine z_calli [] [(a0, zO 10 83 g0)] [] [0] hP hD hS hA rfl rfl (by decide) (by decide) (by decide +kernel) 0 0 rfl rfl (fun hPc hDc hF => z_runS (As := [.int x1, .int 0, .int 3]) (rest := [.int 0, .ref a0]) ⟨hx, hb, hml, hown, hg⟩ (cX12_isIn_11 l K H.size x1 e3 e4) kS_RX12_175 hd_X12_isIn rfl rfl ⟨(Nat.le_of_ble_eq_true rfl), (Nat.le_of_ble_eq_true rfl)⟩ hK hS hZ hPc hDc hF rfl hl.1 rfl (Nat.le_of_ble_eq_true rfl) dX12_match_39 ⟨(Nat.le_of_ble_eq_true rfl), (Nat.le_of_ble_eq_true rfl)⟩) (fun r6 u4 H locs w5 hP hD hS => ?_)
  subst w5
  have hP : va_P K.1 classes [(a0, zO 10 83 g0)] H := hP
  have hD : va_D A [(a0, zO 10 83 g0)] := hD
  refine lv_if_eq (tgt := 64) hx hb dX12_match_42 (by decide) (fun _ => ?_) (fun c => absurd (by decide) c)
  refine lv_iconst (v := 0) hx hb dX12_match_64 (by decide) ?_
  refine z_calli [(a0, zO 10 83 g0)] [] [0] [] hP hD hS hA rfl rfl (by decide) (by decide) (by decide +kernel) 0 0 rfl rfl (fun hPc hDc hF => z_runV (As := [.int 0, .int 0]) (rest := []) ⟨hx, hb, hml, hown, hg⟩ (cX12_mayTell_1 l K H.size a0 g0) kV_RX12_203 hd_X12_mayTell rfl rfl ⟨(Nat.le_of_ble_eq_true rfl), (Nat.le_of_ble_eq_true rfl)⟩ hK hS hZ hPc hDc hF 0 rfl rfl rfl hl.1 rfl (Nat.le_of_ble_eq_true rfl) dX12_match_65 ⟨(Nat.le_of_ble_eq_true rfl), (Nat.le_of_ble_eq_true rfl)⟩) (fun r9 u7 H locs w8 hP hD hS => ?_)
  subst w8
  have hP : va_P K.1 classes [(a0, zO 10 83 (va_up g0 81 (.int 1)))] H := hP
  have hD : va_D A [(a0, zO 10 83 (va_up g0 81 (.int 1)))] := hD
  refine lv_if_ne (tgt := 73) hx hb dX12_match_68 (by decide) (fun c => absurd (by decide) c) (fun _ => ?_)
  refine lv_iconst (v := 0) hx hb dX12_match_71 (by decide) ?_
  have hP9 : va_P K.1 classes [(a0, zO 10 83 (va_up g0 81 (.int 1)))] H := hP.sub [0] rfl
  have hD9 : va_D A [(a0, zO 10 83 (va_up g0 81 (.int 1)))] := hD.sub [0] (by decide) rfl
  exact z_iret hx hb hr (fun _ => 0) rfl hP9 hD9 hS (Nat.le_of_ble_eq_true rfl) (Nat.le_of_ble_eq_true rfl) hlocks dX12_match_72
set_option maxHeartbeats 4000000 in
set_option maxRecDepth 100000 in
theorem cX11_choose_1 (l : Launch) (hl9 : l.stackTraces = false) (K : zK) (sz : Nat) (a0 : Nat) (a1 : Nat) (g0 : Nat → Value) (g1 : Nat → Value) (x0 : Int32) (x1 : Int32) (x2 : Int32) (e0 : g0 0 = (.ref a1)) (e1 : x0 < (0 : Int32)) : vx_Met l yX11_choose (Cond.code yX11_choose cX11_choose 4 (some .int) :: WG) { frames := 7, cells := 1, slots := 6, locals := 103 } (zPre K [(a0, zO 9 9 g0), (a1, zO 7 6 g1)] sz [.ref a0, .int x0, .int x1, .int x2]) (va_Qv (fun _ : Unit => False) (fun _ _ => True) (va_A [(a0, zO 9 9 g0), (a1, zO 7 6 g1)] sz)) (zX (va_A [(a0, zO 9 9 g0), (a1, zO 7 6 g1)] sz) zIB) 1 6 (va_A [(a0, zO 9 9 g0), (a1, zO 7 6 g1)] sz) := by
  refine z_xmet (Qc := fun A => va_Qv (fun _ : Unit => False) (fun _ _ => True) A) (XC := fun A => zX A zIB) (by decide +kernel) (Nat.le_of_ble_eq_true rfl) ?_
  intro p e s m args below meth c A ls H hx hb hr hg hown hlocks hml hno hK hP hD hA hS hZ hl
  have hown : s.vm.findClass RX11 = some m.cls := hown
  have hl : lv_has ls 4 [(0, .ref a0), (1, .int x0), (2, .int x1), (3, .int x2)] := hl
  refine lv_aload_n hx hb dX11_choose_0 rfl (lv_at hl 0 rfl) ?_
  refine lv_iload_n hx hb dX11_choose_1 rfl (lv_at hl 1 rfl) ?_
  refine z_xcall (EX := zIB) [(a0, zO 9 9 g0), (a1, zO 7 6 g1)] [0, 1] hP hD hS hA rfl (by decide) 1 6 rfl rfl (fun hPc hDc hF => z_xrunV (As := [.int x0]) (rest := []) ⟨hx, hb, hml, hown, hg⟩ (cX11_checkTold_1 l hl9 K H.size a0 a1 g0 g1 x0 e0 e1) kV_RX11_76 hd_X11_checkTold rfl rfl ⟨(Nat.le_of_ble_eq_true rfl), (Nat.le_of_ble_eq_true rfl)⟩ hK hS hZ hPc hDc hF 0 rfl rfl rfl hl.1 rfl (Nat.le_of_ble_eq_true rfl) dX11_choose_2 ⟨(Nat.le_of_ble_eq_true rfl), (Nat.le_of_ble_eq_true rfl)⟩) (fun ce q9 H locs hS hce hcv hcl => ?_)
  exact z_xout hno hlocks hS hce hcv hcl (Nat.le_of_ble_eq_true rfl) (Nat.le_of_ble_eq_true rfl)
set_option maxHeartbeats 4000000 in
set_option maxRecDepth 100000 in
theorem cL_choose_1 (l : Launch) (hl9 : l.stackTraces = false) (K : zK) (sz : Nat) (a0 : Nat) (a1 : Nat) (a2 : Nat) (g0 : Nat → Value) (g2 : Nat → Value) (x0 : Int32) (x1 : Int32) (x2 : Int32) (e0 : g0 0 = (.ref a2)) (e1 : x0 < (0 : Int32)) : vx_Met l yL_choose (Cond.codeWith yL_choose cL_choose 6 (some .int) [(0, 12, 15, 27), (0, 12, 19, 13)] :: WG) { frames := 8, cells := 1, slots := 6, locals := 126 } (zPre K [(a0, zO 9 9 g0), (a2, zO 7 6 g2)] sz [.ref a0, .int x0, .int x1, .int x2, .ref a1]) (va_Qi (fun (r : Int32) (_ : Nat → Nat) => r = 1) (zB K (va_A [(a0, zO 9 9 g0), (a2, zO 7 6 g2)] sz) (fun u : Nat → Nat => [])) (va_A [(a0, zO 9 9 g0), (a2, zO 7 6 g2)] sz)) (vx_X (fun _ : Unit => False) (fun _ _ _ => True) (va_A [(a0, zO 9 9 g0), (a2, zO 7 6 g2)] sz)) 1 6 (va_A [(a0, zO 9 9 g0), (a2, zO 7 6 g2)] sz) := by
  refine z_hmet (Qc := fun A => (va_Qi (fun (r : Int32) (_ : Nat → Nat) => r = 1) (zB K A (fun u : Nat → Nat => [])) A)) (XC := fun A => vx_X (fun _ : Unit => False) (fun _ _ _ => True) A) (by decide +kernel) (Nat.le_of_ble_eq_true rfl) ?_
  intro p e s m args below meth c A ls H hx hb hr hg hown hlocks hml hTab hK hP hD hA hS hZ hl
  have hown : s.vm.findClass RL = some m.cls := hown
  have hl : lv_has ls 6 [(0, .ref a0), (1, .int x0), (2, .int x1), (3, .int x2), (4, .ref a1)] := hl
  refine lv_aload hx hb dL_choose_0 (lv_at hl 4 rfl) ?_
  refine lv_iconst (v := 0) hx hb dL_choose_2 (by decide) ?_
  refine lv_aload_n hx hb dL_choose_3 rfl (lv_at hl 0 rfl) ?_
  refine lv_iload_n hx hb dL_choose_4 rfl (lv_at hl 1 rfl) ?_
  refine lv_iload_n hx hb dL_choose_5 rfl (lv_at hl 2 rfl) ?_
  refine lv_iload_n hx hb dL_choose_6 rfl (lv_at hl 3 rfl) ?_
  refine z_xcall (EX := zIB) [(a0, zO 9 9 g0), (a2, zO 7 6 g2)] [0, 1] hP hD hS hA rfl (by decide) 1 6 rfl rfl (fun hPc hDc hF => z_xrunV (As := [.int x0, .int x1, .int x2]) (rest := [.int 0, .ref a1]) ⟨hx, hb, hml, hown, hg⟩ (cX11_choose_1 l hl9 K H.size a0 a2 g0 g2 x0 x1 x2 e0 e1) kV_RL_43 hd_X11_choose rfl rfl ⟨(Nat.le_of_ble_eq_true rfl), (Nat.le_of_ble_eq_true rfl)⟩ hK hS hZ hPc hDc hF 0 rfl rfl rfl hl.1 rfl (Nat.le_of_ble_eq_true rfl) dL_choose_7 ⟨(Nat.le_of_ble_eq_true rfl), (Nat.le_of_ble_eq_true rfl)⟩) (fun ce q9 H locs hS hce hcv hcl => ?_)
  refine vx_catch (own := RL) (name := zIB) (E := zIB) hown [] ⟨0, 12, 15, 27⟩ [⟨0, 12, 19, 13⟩] (by rw [hTab]; rfl) (fun z hz => nomatch hz) (by decide) (by decide) (hg _ mt526) (va_Nw.use rfl hZ.1.1.2.2.2.1) hce hcv hcl ?_
  have hP : va_P K.1 classes [] H := z_P0
  have hD : va_D A [] := z_D0
  refine lv_astore (lv' := [(5, .ref q9), (0, .ref a0), (1, .int x0), (2, .int x1), (3, .int x2), (4, .ref a1)]) hx hb dL_choose_15 hl (by decide) rfl (fun ls hl => ?_)
  refine lv_iconst (v := 1) hx hb dL_choose_17 (by decide) ?_
  have hP9 : va_P K.1 classes [] H := hP.sub [] rfl
  have hD9 : va_D A [] := hD.sub [] (by decide) rfl
  exact z_iret hx hb hr (fun _ => 0) rfl hP9 hD9 hS (Nat.le_of_ble_eq_true rfl) (Nat.le_of_ble_eq_true rfl) hlocks dL_choose_18
set_option maxHeartbeats 4000000 in
set_option maxRecDepth 100000 in
theorem cX12_choose_1 (l : Launch) (K : zK) (sz : Nat) (a0 : Nat) (g0 : Nat → Value) (x0 : Int32) (x1 : Int32) (x2 : Int32) (e0 : g0 0 = (.int 0)) (e1 : x0 < (0 : Int32)) : Met l yX12_choose (Cond.code yX12_choose cX12_choose 4 (some .int) :: WG) { frames := 2, cells := 0, slots := 0, locals := 43 } (zPre K [(a0, zO 10 83 g0)] sz [.ref a0, .int x0, .int x1, .int x2]) (va_Qi (fun (r : Int32) (_ : Nat → Nat) => r = 0) (zB K (va_A [(a0, zO 10 83 g0)] sz) (fun u : Nat → Nat => [(a0, zO 10 83 (va_up g0 81 (.int 1)))])) (va_A [(a0, zO 10 83 g0)] sz)) 0 0 (va_A [(a0, zO 10 83 g0)] sz) := by
  refine z_met (Qc := fun A => (va_Qi (fun (r : Int32) (_ : Nat → Nat) => r = 0) (zB K A (fun u : Nat → Nat => [(a0, zO 10 83 (va_up g0 81 (.int 1)))])) A)) (by decide +kernel) (Nat.le_of_ble_eq_true rfl) ?_
  intro p e s m args below meth c A ls H hx hb hr hg hown hlocks hml hin hK hP hD hA hS hZ hl
  have hown : s.vm.findClass RX12 = some m.cls := hown
  have hl : lv_has ls 4 [(0, .ref a0), (1, .int x0), (2, .int x1), (3, .int x2)] := hl
  refine lv_aload_n hx hb dX12_choose_0 rfl (lv_at hl 0 rfl) ?_
  refine lv_aload_n hx hb dX12_choose_1 rfl (lv_at hl 0 rfl) ?_
  refine lv_iload_n hx hb dX12_choose_2 rfl (lv_at hl 1 rfl) ?_
  refine z_calli [(a0, zO 10 83 g0)] [] [0] [] hP hD hS hA rfl rfl (by decide) (by decide) (by decide +kernel) 0 0 rfl rfl (fun hPc hDc hF => z_runV (As := [.int x0]) (rest := [.ref a0]) ⟨hx, hb, hml, hown, hg⟩ (cX12_isNode_1 l K H.size a0 g0 x0 e0 e1) kV_RX12_200 hd_X12_isNode rfl rfl ⟨(Nat.le_of_ble_eq_true rfl), (Nat.le_of_ble_eq_true rfl)⟩ hK hS hZ hPc hDc hF 0 rfl rfl rfl hl.1 rfl (Nat.le_of_ble_eq_true rfl) dX12_choose_3 ⟨(Nat.le_of_ble_eq_true rfl), (Nat.le_of_ble_eq_true rfl)⟩) (fun r3 u1 H locs w2 hP hD hS => ?_)
  subst w2
  have hP : va_P K.1 classes [(a0, zO 10 83 g0)] H := hP
  have hD : va_D A [(a0, zO 10 83 g0)] := hD
  refine lv_if_eq (tgt := 29) hx hb dX12_choose_6 (by decide) (fun _ => ?_) (fun c => absurd (by decide) c)
  refine lv_iconst (v := 0) hx hb dX12_choose_29 (by decide) ?_
  refine z_calli [(a0, zO 10 83 g0)] [] [0] [] hP hD hS hA rfl rfl (by decide) (by decide) (by decide +kernel) 0 0 rfl rfl (fun hPc hDc hF => z_runV (As := [.int 0]) (rest := []) ⟨hx, hb, hml, hown, hg⟩ (cX12_mayTellAlone_1 l K H.size a0 g0) kV_RX12_193 hd_X12_mayTellAlone rfl rfl ⟨(Nat.le_of_ble_eq_true rfl), (Nat.le_of_ble_eq_true rfl)⟩ hK hS hZ hPc hDc hF 0 rfl rfl rfl hl.1 rfl (Nat.le_of_ble_eq_true rfl) dX12_choose_30 ⟨(Nat.le_of_ble_eq_true rfl), (Nat.le_of_ble_eq_true rfl)⟩) (fun r6 u4 H locs w5 hP hD hS => ?_)
  subst w5
  have hP : va_P K.1 classes [(a0, zO 10 83 (va_up g0 81 (.int 1)))] H := hP
  have hD : va_D A [(a0, zO 10 83 (va_up g0 81 (.int 1)))] := hD
  refine lv_if_eq (tgt := 50) hx hb dX12_choose_33 (by decide) (fun _ => ?_) (fun c => absurd (by decide) c)
  refine lv_iconst (v := 0) hx hb dX12_choose_50 (by decide) ?_
  have hP9 : va_P K.1 classes [(a0, zO 10 83 (va_up g0 81 (.int 1)))] H := hP.sub [0] rfl
  have hD9 : va_D A [(a0, zO 10 83 (va_up g0 81 (.int 1)))] := hD.sub [0] (by decide) rfl
  exact z_iret hx hb hr (fun _ => 0) rfl hP9 hD9 hS (Nat.le_of_ble_eq_true rfl) (Nat.le_of_ble_eq_true rfl) hlocks dX12_choose_51
set_option maxHeartbeats 4000000 in
set_option maxRecDepth 100000 in
theorem cX11_choose_2 (l : Launch) (hl9 : l.stackTraces = false) (K : zK) (sz : Nat) (a0 : Nat) (a1 : Nat) (g0 : Nat → Value) (g1 : Nat → Value) (x0 : Int32) (x1 : Int32) (x2 : Int32) (e0 : g0 0 = (.ref a1)) (e1 : ¬ x0 < (0 : Int32)) (e2 : g1 5 = (.int 0)) (e3 : (0 : Int32) ≤ x0) : vx_Met l yX11_choose (Cond.code yX11_choose cX11_choose 4 (some .int) :: WG) { frames := 7, cells := 1, slots := 6, locals := 103 } (zPre K [(a0, zO 9 9 g0), (a1, zO 7 6 g1)] sz [.ref a0, .int x0, .int x1, .int x2]) (va_Qv (fun _ : Unit => False) (fun _ _ => True) (va_A [(a0, zO 9 9 g0), (a1, zO 7 6 g1)] sz)) (zX (va_A [(a0, zO 9 9 g0), (a1, zO 7 6 g1)] sz) zIB) 1 6 (va_A [(a0, zO 9 9 g0), (a1, zO 7 6 g1)] sz) := by
  refine z_xmet (Qc := fun A => va_Qv (fun _ : Unit => False) (fun _ _ => True) A) (XC := fun A => zX A zIB) (by decide +kernel) (Nat.le_of_ble_eq_true rfl) ?_
  intro p e s m args below meth c A ls H hx hb hr hg hown hlocks hml hno hK hP hD hA hS hZ hl
  have hown : s.vm.findClass RX11 = some m.cls := hown
  have hl : lv_has ls 4 [(0, .ref a0), (1, .int x0), (2, .int x1), (3, .int x2)] := hl
  refine lv_aload_n hx hb dX11_choose_0 rfl (lv_at hl 0 rfl) ?_
  refine lv_iload_n hx hb dX11_choose_1 rfl (lv_at hl 1 rfl) ?_
  refine z_xcall (EX := zIB) [(a0, zO 9 9 g0), (a1, zO 7 6 g1)] [0, 1] hP hD hS hA rfl (by decide) 1 6 rfl rfl (fun hPc hDc hF => z_xrunV (As := [.int x0]) (rest := []) ⟨hx, hb, hml, hown, hg⟩ (cX11_checkTold_2 l hl9 K H.size a0 a1 g0 g1 x0 e0 e1 e2 e3) kV_RX11_76 hd_X11_checkTold rfl rfl ⟨(Nat.le_of_ble_eq_true rfl), (Nat.le_of_ble_eq_true rfl)⟩ hK hS hZ hPc hDc hF 0 rfl rfl rfl hl.1 rfl (Nat.le_of_ble_eq_true rfl) dX11_choose_2 ⟨(Nat.le_of_ble_eq_true rfl), (Nat.le_of_ble_eq_true rfl)⟩) (fun ce q9 H locs hS hce hcv hcl => ?_)
  exact z_xout hno hlocks hS hce hcv hcl (Nat.le_of_ble_eq_true rfl) (Nat.le_of_ble_eq_true rfl)
set_option maxHeartbeats 4000000 in
set_option maxRecDepth 100000 in
theorem cL_choose_2 (l : Launch) (hl9 : l.stackTraces = false) (K : zK) (sz : Nat) (a0 : Nat) (a1 : Nat) (a2 : Nat) (g0 : Nat → Value) (g2 : Nat → Value) (x0 : Int32) (x1 : Int32) (x2 : Int32) (e0 : g0 0 = (.ref a2)) (e1 : ¬ x0 < (0 : Int32)) (e2 : g2 5 = (.int 0)) (e3 : (0 : Int32) ≤ x0) : vx_Met l yL_choose (Cond.codeWith yL_choose cL_choose 6 (some .int) [(0, 12, 15, 27), (0, 12, 19, 13)] :: WG) { frames := 8, cells := 1, slots := 6, locals := 126 } (zPre K [(a0, zO 9 9 g0), (a2, zO 7 6 g2)] sz [.ref a0, .int x0, .int x1, .int x2, .ref a1]) (va_Qi (fun (r : Int32) (_ : Nat → Nat) => r = 1) (zB K (va_A [(a0, zO 9 9 g0), (a2, zO 7 6 g2)] sz) (fun u : Nat → Nat => [])) (va_A [(a0, zO 9 9 g0), (a2, zO 7 6 g2)] sz)) (vx_X (fun _ : Unit => False) (fun _ _ _ => True) (va_A [(a0, zO 9 9 g0), (a2, zO 7 6 g2)] sz)) 1 6 (va_A [(a0, zO 9 9 g0), (a2, zO 7 6 g2)] sz) := by
  refine z_hmet (Qc := fun A => (va_Qi (fun (r : Int32) (_ : Nat → Nat) => r = 1) (zB K A (fun u : Nat → Nat => [])) A)) (XC := fun A => vx_X (fun _ : Unit => False) (fun _ _ _ => True) A) (by decide +kernel) (Nat.le_of_ble_eq_true rfl) ?_
  intro p e s m args below meth c A ls H hx hb hr hg hown hlocks hml hTab hK hP hD hA hS hZ hl
  have hown : s.vm.findClass RL = some m.cls := hown
  have hl : lv_has ls 6 [(0, .ref a0), (1, .int x0), (2, .int x1), (3, .int x2), (4, .ref a1)] := hl
  refine lv_aload hx hb dL_choose_0 (lv_at hl 4 rfl) ?_
  refine lv_iconst (v := 0) hx hb dL_choose_2 (by decide) ?_
  refine lv_aload_n hx hb dL_choose_3 rfl (lv_at hl 0 rfl) ?_
  refine lv_iload_n hx hb dL_choose_4 rfl (lv_at hl 1 rfl) ?_
  refine lv_iload_n hx hb dL_choose_5 rfl (lv_at hl 2 rfl) ?_
  refine lv_iload_n hx hb dL_choose_6 rfl (lv_at hl 3 rfl) ?_
  refine z_xcall (EX := zIB) [(a0, zO 9 9 g0), (a2, zO 7 6 g2)] [0, 1] hP hD hS hA rfl (by decide) 1 6 rfl rfl (fun hPc hDc hF => z_xrunV (As := [.int x0, .int x1, .int x2]) (rest := [.int 0, .ref a1]) ⟨hx, hb, hml, hown, hg⟩ (cX11_choose_2 l hl9 K H.size a0 a2 g0 g2 x0 x1 x2 e0 e1 e2 e3) kV_RL_43 hd_X11_choose rfl rfl ⟨(Nat.le_of_ble_eq_true rfl), (Nat.le_of_ble_eq_true rfl)⟩ hK hS hZ hPc hDc hF 0 rfl rfl rfl hl.1 rfl (Nat.le_of_ble_eq_true rfl) dL_choose_7 ⟨(Nat.le_of_ble_eq_true rfl), (Nat.le_of_ble_eq_true rfl)⟩) (fun ce q9 H locs hS hce hcv hcl => ?_)
  refine vx_catch (own := RL) (name := zIB) (E := zIB) hown [] ⟨0, 12, 15, 27⟩ [⟨0, 12, 19, 13⟩] (by rw [hTab]; rfl) (fun z hz => nomatch hz) (by decide) (by decide) (hg _ mt526) (va_Nw.use rfl hZ.1.1.2.2.2.1) hce hcv hcl ?_
  have hP : va_P K.1 classes [] H := z_P0
  have hD : va_D A [] := z_D0
  refine lv_astore (lv' := [(5, .ref q9), (0, .ref a0), (1, .int x0), (2, .int x1), (3, .int x2), (4, .ref a1)]) hx hb dL_choose_15 hl (by decide) rfl (fun ls hl => ?_)
  refine lv_iconst (v := 1) hx hb dL_choose_17 (by decide) ?_
  have hP9 : va_P K.1 classes [] H := hP.sub [] rfl
  have hD9 : va_D A [] := hD.sub [] (by decide) rfl
  exact z_iret hx hb hr (fun _ => 0) rfl hP9 hD9 hS (Nat.le_of_ble_eq_true rfl) (Nat.le_of_ble_eq_true rfl) hlocks dL_choose_18
set_option maxHeartbeats 4000000 in
set_option maxRecDepth 100000 in
theorem cX12_choose_2 (l : Launch) (K : zK) (sz : Nat) (a0 : Nat) (g0 : Nat → Value) (x0 : Int32) (x1 : Int32) (x2 : Int32) (e0 : g0 0 = (.int 0)) (e1 : ¬ x0 < (0 : Int32)) (e2 : (-1 : Int32) < x0) : Met l yX12_choose (Cond.code yX12_choose cX12_choose 4 (some .int) :: WG) { frames := 2, cells := 0, slots := 0, locals := 43 } (zPre K [(a0, zO 10 83 g0)] sz [.ref a0, .int x0, .int x1, .int x2]) (va_Qi (fun (r : Int32) (_ : Nat → Nat) => r = 0) (zB K (va_A [(a0, zO 10 83 g0)] sz) (fun u : Nat → Nat => [(a0, zO 10 83 (va_up g0 81 (.int 1)))])) (va_A [(a0, zO 10 83 g0)] sz)) 0 0 (va_A [(a0, zO 10 83 g0)] sz) := by
  refine z_met (Qc := fun A => (va_Qi (fun (r : Int32) (_ : Nat → Nat) => r = 0) (zB K A (fun u : Nat → Nat => [(a0, zO 10 83 (va_up g0 81 (.int 1)))])) A)) (by decide +kernel) (Nat.le_of_ble_eq_true rfl) ?_
  intro p e s m args below meth c A ls H hx hb hr hg hown hlocks hml hin hK hP hD hA hS hZ hl
  have hown : s.vm.findClass RX12 = some m.cls := hown
  have hl : lv_has ls 4 [(0, .ref a0), (1, .int x0), (2, .int x1), (3, .int x2)] := hl
  refine lv_aload_n hx hb dX12_choose_0 rfl (lv_at hl 0 rfl) ?_
  refine lv_aload_n hx hb dX12_choose_1 rfl (lv_at hl 0 rfl) ?_
  refine lv_iload_n hx hb dX12_choose_2 rfl (lv_at hl 1 rfl) ?_
  refine z_calli [(a0, zO 10 83 g0)] [] [0] [] hP hD hS hA rfl rfl (by decide) (by decide) (by decide +kernel) 0 0 rfl rfl (fun hPc hDc hF => z_runV (As := [.int x0]) (rest := [.ref a0]) ⟨hx, hb, hml, hown, hg⟩ (cX12_isNode_2 l K H.size a0 g0 x0 e0 e1 e2) kV_RX12_200 hd_X12_isNode rfl rfl ⟨(Nat.le_of_ble_eq_true rfl), (Nat.le_of_ble_eq_true rfl)⟩ hK hS hZ hPc hDc hF 0 rfl rfl rfl hl.1 rfl (Nat.le_of_ble_eq_true rfl) dX12_choose_3 ⟨(Nat.le_of_ble_eq_true rfl), (Nat.le_of_ble_eq_true rfl)⟩) (fun r3 u1 H locs w2 hP hD hS => ?_)
  subst w2
  have hP : va_P K.1 classes [(a0, zO 10 83 g0)] H := hP
  have hD : va_D A [(a0, zO 10 83 g0)] := hD
  refine lv_if_eq (tgt := 29) hx hb dX12_choose_6 (by decide) (fun _ => ?_) (fun c => absurd (by decide) c)
  refine lv_iconst (v := 0) hx hb dX12_choose_29 (by decide) ?_
  refine z_calli [(a0, zO 10 83 g0)] [] [0] [] hP hD hS hA rfl rfl (by decide) (by decide) (by decide +kernel) 0 0 rfl rfl (fun hPc hDc hF => z_runV (As := [.int 0]) (rest := []) ⟨hx, hb, hml, hown, hg⟩ (cX12_mayTellAlone_1 l K H.size a0 g0) kV_RX12_193 hd_X12_mayTellAlone rfl rfl ⟨(Nat.le_of_ble_eq_true rfl), (Nat.le_of_ble_eq_true rfl)⟩ hK hS hZ hPc hDc hF 0 rfl rfl rfl hl.1 rfl (Nat.le_of_ble_eq_true rfl) dX12_choose_30 ⟨(Nat.le_of_ble_eq_true rfl), (Nat.le_of_ble_eq_true rfl)⟩) (fun r6 u4 H locs w5 hP hD hS => ?_)
  subst w5
  have hP : va_P K.1 classes [(a0, zO 10 83 (va_up g0 81 (.int 1)))] H := hP
  have hD : va_D A [(a0, zO 10 83 (va_up g0 81 (.int 1)))] := hD
  refine lv_if_eq (tgt := 50) hx hb dX12_choose_33 (by decide) (fun _ => ?_) (fun c => absurd (by decide) c)
  refine lv_iconst (v := 0) hx hb dX12_choose_50 (by decide) ?_
  have hP9 : va_P K.1 classes [(a0, zO 10 83 (va_up g0 81 (.int 1)))] H := hP.sub [0] rfl
  have hD9 : va_D A [(a0, zO 10 83 (va_up g0 81 (.int 1)))] := hD.sub [0] (by decide) rfl
  exact z_iret hx hb hr (fun _ => 0) rfl hP9 hD9 hS (Nat.le_of_ble_eq_true rfl) (Nat.le_of_ble_eq_true rfl) hlocks dX12_choose_51
set_option maxHeartbeats 4000000 in
set_option maxRecDepth 100000 in
theorem cX11_prim_1 (l : Launch) (hl9 : l.stackTraces = false) (K : zK) (sz : Nat) (a0 : Nat) (a1 : Nat) (g0 : Nat → Value) (g1 : Nat → Value) (x0 : Int32) (x1 : Int32) (x2 : Int32) (e0 : g0 0 = (.ref a1)) (e1 : x1 < (0 : Int32)) : vx_Met l yX11_prim (Cond.code yX11_prim cX11_prim 4 (some .int) :: WG) { frames := 7, cells := 1, slots := 6, locals := 103 } (zPre K [(a0, zO 9 9 g0), (a1, zO 7 6 g1)] sz [.ref a0, .int x0, .int x1, .int x2]) (va_Qv (fun _ : Unit => False) (fun _ _ => True) (va_A [(a0, zO 9 9 g0), (a1, zO 7 6 g1)] sz)) (zX (va_A [(a0, zO 9 9 g0), (a1, zO 7 6 g1)] sz) zIB) 1 6 (va_A [(a0, zO 9 9 g0), (a1, zO 7 6 g1)] sz) := by
  refine z_xmet (Qc := fun A => va_Qv (fun _ : Unit => False) (fun _ _ => True) A) (XC := fun A => zX A zIB) (by decide +kernel) (Nat.le_of_ble_eq_true rfl) ?_
  intro p e s m args below meth c A ls H hx hb hr hg hown hlocks hml hno hK hP hD hA hS hZ hl
  have hown : s.vm.findClass RX11 = some m.cls := hown
  have hl : lv_has ls 4 [(0, .ref a0), (1, .int x0), (2, .int x1), (3, .int x2)] := hl
  refine lv_aload_n hx hb dX11_prim_0 rfl (lv_at hl 0 rfl) ?_
  refine lv_iload_n hx hb dX11_prim_1 rfl (lv_at hl 2 rfl) ?_
  refine z_xcall (EX := zIB) [(a0, zO 9 9 g0), (a1, zO 7 6 g1)] [0, 1] hP hD hS hA rfl (by decide) 1 6 rfl rfl (fun hPc hDc hF => z_xrunV (As := [.int x1]) (rest := []) ⟨hx, hb, hml, hown, hg⟩ (cX11_checkTold_1 l hl9 K H.size a0 a1 g0 g1 x1 e0 e1) kV_RX11_76 hd_X11_checkTold rfl rfl ⟨(Nat.le_of_ble_eq_true rfl), (Nat.le_of_ble_eq_true rfl)⟩ hK hS hZ hPc hDc hF 0 rfl rfl rfl hl.1 rfl (Nat.le_of_ble_eq_true rfl) dX11_prim_2 ⟨(Nat.le_of_ble_eq_true rfl), (Nat.le_of_ble_eq_true rfl)⟩) (fun ce q9 H locs hS hce hcv hcl => ?_)
  exact z_xout hno hlocks hS hce hcv hcl (Nat.le_of_ble_eq_true rfl) (Nat.le_of_ble_eq_true rfl)
set_option maxHeartbeats 4000000 in
set_option maxRecDepth 100000 in
theorem cL_prim_1 (l : Launch) (hl9 : l.stackTraces = false) (K : zK) (sz : Nat) (a0 : Nat) (a1 : Nat) (a2 : Nat) (g0 : Nat → Value) (g2 : Nat → Value) (x0 : Int32) (x1 : Int32) (x2 : Int32) (e0 : g0 0 = (.ref a2)) (e1 : x1 < (0 : Int32)) : vx_Met l yL_prim (Cond.codeWith yL_prim cL_prim 6 (some .int) [(0, 12, 15, 27), (0, 12, 19, 18), (0, 12, 23, 13)] :: WG) { frames := 8, cells := 1, slots := 6, locals := 126 } (zPre K [(a0, zO 9 9 g0), (a2, zO 7 6 g2)] sz [.ref a0, .int x0, .int x1, .int x2, .ref a1]) (va_Qi (fun (r : Int32) (_ : Nat → Nat) => r = 1) (zB K (va_A [(a0, zO 9 9 g0), (a2, zO 7 6 g2)] sz) (fun u : Nat → Nat => [])) (va_A [(a0, zO 9 9 g0), (a2, zO 7 6 g2)] sz)) (vx_X (fun _ : Unit => False) (fun _ _ _ => True) (va_A [(a0, zO 9 9 g0), (a2, zO 7 6 g2)] sz)) 1 6 (va_A [(a0, zO 9 9 g0), (a2, zO 7 6 g2)] sz) := by
  refine z_hmet (Qc := fun A => (va_Qi (fun (r : Int32) (_ : Nat → Nat) => r = 1) (zB K A (fun u : Nat → Nat => [])) A)) (XC := fun A => vx_X (fun _ : Unit => False) (fun _ _ _ => True) A) (by decide +kernel) (Nat.le_of_ble_eq_true rfl) ?_
  intro p e s m args below meth c A ls H hx hb hr hg hown hlocks hml hTab hK hP hD hA hS hZ hl
  have hown : s.vm.findClass RL = some m.cls := hown
  have hl : lv_has ls 6 [(0, .ref a0), (1, .int x0), (2, .int x1), (3, .int x2), (4, .ref a1)] := hl
  refine lv_aload hx hb dL_prim_0 (lv_at hl 4 rfl) ?_
  refine lv_iconst (v := 0) hx hb dL_prim_2 (by decide) ?_
  refine lv_aload_n hx hb dL_prim_3 rfl (lv_at hl 0 rfl) ?_
  refine lv_iload_n hx hb dL_prim_4 rfl (lv_at hl 1 rfl) ?_
  refine lv_iload_n hx hb dL_prim_5 rfl (lv_at hl 2 rfl) ?_
  refine lv_iload_n hx hb dL_prim_6 rfl (lv_at hl 3 rfl) ?_
  refine z_xcall (EX := zIB) [(a0, zO 9 9 g0), (a2, zO 7 6 g2)] [0, 1] hP hD hS hA rfl (by decide) 1 6 rfl rfl (fun hPc hDc hF => z_xrunV (As := [.int x0, .int x1, .int x2]) (rest := [.int 0, .ref a1]) ⟨hx, hb, hml, hown, hg⟩ (cX11_prim_1 l hl9 K H.size a0 a2 g0 g2 x0 x1 x2 e0 e1) kV_RL_46 hd_X11_prim rfl rfl ⟨(Nat.le_of_ble_eq_true rfl), (Nat.le_of_ble_eq_true rfl)⟩ hK hS hZ hPc hDc hF 0 rfl rfl rfl hl.1 rfl (Nat.le_of_ble_eq_true rfl) dL_prim_7 ⟨(Nat.le_of_ble_eq_true rfl), (Nat.le_of_ble_eq_true rfl)⟩) (fun ce q9 H locs hS hce hcv hcl => ?_)
  refine vx_catch (own := RL) (name := zIB) (E := zIB) hown [] ⟨0, 12, 15, 27⟩ [⟨0, 12, 19, 18⟩, ⟨0, 12, 23, 13⟩] (by rw [hTab]; rfl) (fun z hz => nomatch hz) (by decide) (by decide) (hg _ mt526) (va_Nw.use rfl hZ.1.1.2.2.2.1) hce hcv hcl ?_
  have hP : va_P K.1 classes [] H := z_P0
  have hD : va_D A [] := z_D0
  refine lv_astore (lv' := [(5, .ref q9), (0, .ref a0), (1, .int x0), (2, .int x1), (3, .int x2), (4, .ref a1)]) hx hb dL_prim_15 hl (by decide) rfl (fun ls hl => ?_)
  refine lv_iconst (v := 1) hx hb dL_prim_17 (by decide) ?_
  have hP9 : va_P K.1 classes [] H := hP.sub [] rfl
  have hD9 : va_D A [] := hD.sub [] (by decide) rfl
  exact z_iret hx hb hr (fun _ => 0) rfl hP9 hD9 hS (Nat.le_of_ble_eq_true rfl) (Nat.le_of_ble_eq_true rfl) hlocks dL_prim_18
set_option maxHeartbeats 4000000 in
set_option maxRecDepth 100000 in
theorem cX12_isIn_12 (l : Launch) (K : zK) (sz : Nat) (x0 : Int32) (e0 : x0 < (0 : Int32)) : Met l yX12_isIn (Cond.code yX12_isIn cX12_isIn 3 (some .boolean) :: WG) { frames := 0, cells := 0, slots := 0, locals := 0 } (zPre K [] sz [.int x0, .int 0, .int 4]) (va_Qi (fun (r : Int32) (_ : Nat → Nat) => r = 0) (zB K (va_A [] sz) (fun u : Nat → Nat => [])) (va_A [] sz)) 0 0 (va_A [] sz) := by
  refine z_met (Qc := fun A => (va_Qi (fun (r : Int32) (_ : Nat → Nat) => r = 0) (zB K A (fun u : Nat → Nat => [])) A)) (by decide +kernel) (Nat.le_of_ble_eq_true rfl) ?_
  intro p e s m args below meth c A ls H hx hb hr hg hown hlocks hml hin hK hP hD hA hS hZ hl
  have hown : s.vm.findClass RX12 = some m.cls := hown
  have hl : lv_has ls 3 [(0, .int x0), (1, .int 0), (2, .int 4)] := hl
  refine lv_iload_n hx hb dX12_isIn_0 rfl (lv_at hl 0 rfl) ?_
  refine lv_iload_n hx hb dX12_isIn_1 rfl (lv_at hl 1 rfl) ?_
  refine lv_icmp_lt (tgt := 14) hx hb dX12_isIn_2 (by decide) (fun _ => ?_) (fun c => absurd e0 c)
  refine lv_iconst (v := 0) hx hb dX12_isIn_14 (by decide) ?_
  have hP9 : va_P K.1 classes [] H := hP.sub [] rfl
  have hD9 : va_D A [] := hD.sub [] (by decide) rfl
  exact z_zret hx hb hr rfl (fun _ => 0) rfl hP9 hD9 hS (Nat.le_of_ble_eq_true rfl) (Nat.le_of_ble_eq_true rfl) hlocks dX12_isIn_15
set_option maxHeartbeats 4000000 in
set_option maxRecDepth 100000 in
theorem cX12_prim_1 (l : Launch) (K : zK) (sz : Nat) (a0 : Nat) (g0 : Nat → Value) (x0 : Int32) (x1 : Int32) (x2 : Int32) (e0 : g0 0 = (.int 0)) (e1 : x1 < (0 : Int32)) (e2 : x0 < (0 : Int32)) : Met l yX12_prim (Cond.code yX12_prim cX12_prim 4 (some .int) :: WG) { frames := 2, cells := 0, slots := 0, locals := 43 } (zPre K [(a0, zO 10 83 g0)] sz [.ref a0, .int x0, .int x1, .int x2]) (va_Qi (fun (r : Int32) (_ : Nat → Nat) => r = 0) (zB K (va_A [(a0, zO 10 83 g0)] sz) (fun u : Nat → Nat => [(a0, zO 10 83 (va_up g0 81 (.int 1)))])) (va_A [(a0, zO 10 83 g0)] sz)) 0 0 (va_A [(a0, zO 10 83 g0)] sz) := by
  refine z_met (Qc := fun A => (va_Qi (fun (r : Int32) (_ : Nat → Nat) => r = 0) (zB K A (fun u : Nat → Nat => [(a0, zO 10 83 (va_up g0 81 (.int 1)))])) A)) (by decide +kernel) (Nat.le_of_ble_eq_true rfl) ?_
  intro p e s m args below meth c A ls H hx hb hr hg hown hlocks hml hin hK hP hD hA hS hZ hl
  have hown : s.vm.findClass RX12 = some m.cls := hown
  have hl : lv_has ls 4 [(0, .ref a0), (1, .int x0), (2, .int x1), (3, .int x2)] := hl
  refine lv_aload_n hx hb dX12_prim_0 rfl (lv_at hl 0 rfl) ?_
  refine lv_aload_n hx hb dX12_prim_1 rfl (lv_at hl 0 rfl) ?_
  refine lv_iload_n hx hb dX12_prim_2 rfl (lv_at hl 2 rfl) ?_
  refine z_calli [(a0, zO 10 83 g0)] [] [0] [] hP hD hS hA rfl rfl (by decide) (by decide) (by decide +kernel) 0 0 rfl rfl (fun hPc hDc hF => z_runV (As := [.int x1]) (rest := [.ref a0]) ⟨hx, hb, hml, hown, hg⟩ (cX12_isNode_1 l K H.size a0 g0 x1 e0 e1) kV_RX12_200 hd_X12_isNode rfl rfl ⟨(Nat.le_of_ble_eq_true rfl), (Nat.le_of_ble_eq_true rfl)⟩ hK hS hZ hPc hDc hF 0 rfl rfl rfl hl.1 rfl (Nat.le_of_ble_eq_true rfl) dX12_prim_3 ⟨(Nat.le_of_ble_eq_true rfl), (Nat.le_of_ble_eq_true rfl)⟩) (fun r3 u1 H locs w2 hP hD hS => ?_)
  subst w2
  have hP : va_P K.1 classes [(a0, zO 10 83 g0)] H := hP
  have hD : va_D A [(a0, zO 10 83 g0)] := hD
  refine lv_if_eq (tgt := 21) hx hb dX12_prim_6 (by decide) (fun _ => ?_) (fun c => absurd (by decide) c)
  refine lv_iconst (v := 0) hx hb dX12_prim_21 (by decide) ?_
  refine lv_iload_n hx hb dX12_prim_22 rfl (lv_at hl 1 rfl) ?_
  refine lv_iconst (v := 0) hx hb dX12_prim_23 (by decide) ?_
  refine lv_iconst (v := 4) hx hb dX12_prim_24 (by decide) ?_
  refine z_calli [] [(a0, zO 10 83 g0)] [] [0] hP hD hS hA rfl rfl (by decide) (by decide) (by decide +kernel) 0 0 rfl rfl (fun hPc hDc hF => z_runS (As := [.int x0, .int 0, .int 4]) (rest := [.int 0, .ref a0]) ⟨hx, hb, hml, hown, hg⟩ (cX12_isIn_12 l K H.size x0 e2) kS_RX12_175 hd_X12_isIn rfl rfl ⟨(Nat.le_of_ble_eq_true rfl), (Nat.le_of_ble_eq_true rfl)⟩ hK hS hZ hPc hDc hF rfl hl.1 rfl (Nat.le_of_ble_eq_true rfl) dX12_prim_25 ⟨(Nat.le_of_ble_eq_true rfl), (Nat.le_of_ble_eq_true rfl)⟩) (fun r6 u4 H locs w5 hP hD hS => ?_)
  subst w5
  have hP : va_P K.1 classes [(a0, zO 10 83 g0)] H := hP
  have hD : va_D A [(a0, zO 10 83 g0)] := hD
  refine z_calli [(a0, zO 10 83 g0)] [] [0] [] hP hD hS hA rfl rfl (by decide) (by decide) (by decide +kernel) 0 0 rfl rfl (fun hPc hDc hF => z_runV (As := [.int 0, .int 0]) (rest := []) ⟨hx, hb, hml, hown, hg⟩ (cX12_mayTell_1 l K H.size a0 g0) kV_RX12_203 hd_X12_mayTell rfl rfl ⟨(Nat.le_of_ble_eq_true rfl), (Nat.le_of_ble_eq_true rfl)⟩ hK hS hZ hPc hDc hF 0 rfl rfl rfl hl.1 rfl (Nat.le_of_ble_eq_true rfl) dX12_prim_28 ⟨(Nat.le_of_ble_eq_true rfl), (Nat.le_of_ble_eq_true rfl)⟩) (fun r9 u7 H locs w8 hP hD hS => ?_)
  subst w8
  have hP : va_P K.1 classes [(a0, zO 10 83 (va_up g0 81 (.int 1)))] H := hP
  have hD : va_D A [(a0, zO 10 83 (va_up g0 81 (.int 1)))] := hD
  refine lv_if_eq (tgt := 48) hx hb dX12_prim_31 (by decide) (fun _ => ?_) (fun c => absurd (by decide) c)
  refine lv_iconst (v := 0) hx hb dX12_prim_48 (by decide) ?_
  have hP9 : va_P K.1 classes [(a0, zO 10 83 (va_up g0 81 (.int 1)))] H := hP.sub [0] rfl
  have hD9 : va_D A [(a0, zO 10 83 (va_up g0 81 (.int 1)))] := hD.sub [0] (by decide) rfl
  exact z_iret hx hb hr (fun _ => 0) rfl hP9 hD9 hS (Nat.le_of_ble_eq_true rfl) (Nat.le_of_ble_eq_true rfl) hlocks dX12_prim_49
set_option maxHeartbeats 4000000 in
set_option maxRecDepth 100000 in
theorem cX11_prim_2 (l : Launch) (hl9 : l.stackTraces = false) (K : zK) (sz : Nat) (a0 : Nat) (a1 : Nat) (g0 : Nat → Value) (g1 : Nat → Value) (j0 : Nat) (hj0 : j0 < 5) (x1 : Int32) (x2 : Int32) (e0 : g0 0 = (.ref a1)) (e1 : x1 < (0 : Int32)) : vx_Met l yX11_prim (Cond.code yX11_prim cX11_prim 4 (some .int) :: WG) { frames := 7, cells := 1, slots := 6, locals := 103 } (zPre K [(a0, zO 9 9 g0), (a1, zO 7 6 g1)] sz [.ref a0, .int (nI j0), .int x1, .int x2]) (va_Qv (fun _ : Unit => False) (fun _ _ => True) (va_A [(a0, zO 9 9 g0), (a1, zO 7 6 g1)] sz)) (zX (va_A [(a0, zO 9 9 g0), (a1, zO 7 6 g1)] sz) zIB) 1 6 (va_A [(a0, zO 9 9 g0), (a1, zO 7 6 g1)] sz) := by
  refine z_xmet (Qc := fun A => va_Qv (fun _ : Unit => False) (fun _ _ => True) A) (XC := fun A => zX A zIB) (by decide +kernel) (Nat.le_of_ble_eq_true rfl) ?_
  intro p e s m args below meth c A ls H hx hb hr hg hown hlocks hml hno hK hP hD hA hS hZ hl
  have hown : s.vm.findClass RX11 = some m.cls := hown
  have hl : lv_has ls 4 [(0, .ref a0), (1, .int (nI j0)), (2, .int x1), (3, .int x2)] := hl
  refine lv_aload_n hx hb dX11_prim_0 rfl (lv_at hl 0 rfl) ?_
  refine lv_iload_n hx hb dX11_prim_1 rfl (lv_at hl 2 rfl) ?_
  refine z_xcall (EX := zIB) [(a0, zO 9 9 g0), (a1, zO 7 6 g1)] [0, 1] hP hD hS hA rfl (by decide) 1 6 rfl rfl (fun hPc hDc hF => z_xrunV (As := [.int x1]) (rest := []) ⟨hx, hb, hml, hown, hg⟩ (cX11_checkTold_1 l hl9 K H.size a0 a1 g0 g1 x1 e0 e1) kV_RX11_76 hd_X11_checkTold rfl rfl ⟨(Nat.le_of_ble_eq_true rfl), (Nat.le_of_ble_eq_true rfl)⟩ hK hS hZ hPc hDc hF 0 rfl rfl rfl hl.1 rfl (Nat.le_of_ble_eq_true rfl) dX11_prim_2 ⟨(Nat.le_of_ble_eq_true rfl), (Nat.le_of_ble_eq_true rfl)⟩) (fun ce q9 H locs hS hce hcv hcl => ?_)
  exact z_xout hno hlocks hS hce hcv hcl (Nat.le_of_ble_eq_true rfl) (Nat.le_of_ble_eq_true rfl)
set_option maxHeartbeats 4000000 in
set_option maxRecDepth 100000 in
theorem cL_prim_2 (l : Launch) (hl9 : l.stackTraces = false) (K : zK) (sz : Nat) (a0 : Nat) (a1 : Nat) (a2 : Nat) (g0 : Nat → Value) (g2 : Nat → Value) (j0 : Nat) (hj0 : j0 < 5) (x1 : Int32) (x2 : Int32) (e0 : g0 0 = (.ref a2)) (e1 : x1 < (0 : Int32)) : vx_Met l yL_prim (Cond.codeWith yL_prim cL_prim 6 (some .int) [(0, 12, 15, 27), (0, 12, 19, 18), (0, 12, 23, 13)] :: WG) { frames := 8, cells := 1, slots := 6, locals := 126 } (zPre K [(a0, zO 9 9 g0), (a2, zO 7 6 g2)] sz [.ref a0, .int (nI j0), .int x1, .int x2, .ref a1]) (va_Qi (fun (r : Int32) (_ : Nat → Nat) => r = 1) (zB K (va_A [(a0, zO 9 9 g0), (a2, zO 7 6 g2)] sz) (fun u : Nat → Nat => [])) (va_A [(a0, zO 9 9 g0), (a2, zO 7 6 g2)] sz)) (vx_X (fun _ : Unit => False) (fun _ _ _ => True) (va_A [(a0, zO 9 9 g0), (a2, zO 7 6 g2)] sz)) 1 6 (va_A [(a0, zO 9 9 g0), (a2, zO 7 6 g2)] sz) := by
  refine z_hmet (Qc := fun A => (va_Qi (fun (r : Int32) (_ : Nat → Nat) => r = 1) (zB K A (fun u : Nat → Nat => [])) A)) (XC := fun A => vx_X (fun _ : Unit => False) (fun _ _ _ => True) A) (by decide +kernel) (Nat.le_of_ble_eq_true rfl) ?_
  intro p e s m args below meth c A ls H hx hb hr hg hown hlocks hml hTab hK hP hD hA hS hZ hl
  have hown : s.vm.findClass RL = some m.cls := hown
  have hl : lv_has ls 6 [(0, .ref a0), (1, .int (nI j0)), (2, .int x1), (3, .int x2), (4, .ref a1)] := hl
  refine lv_aload hx hb dL_prim_0 (lv_at hl 4 rfl) ?_
  refine lv_iconst (v := 0) hx hb dL_prim_2 (by decide) ?_
  refine lv_aload_n hx hb dL_prim_3 rfl (lv_at hl 0 rfl) ?_
  refine lv_iload_n hx hb dL_prim_4 rfl (lv_at hl 1 rfl) ?_
  refine lv_iload_n hx hb dL_prim_5 rfl (lv_at hl 2 rfl) ?_
  refine lv_iload_n hx hb dL_prim_6 rfl (lv_at hl 3 rfl) ?_
  refine z_xcall (EX := zIB) [(a0, zO 9 9 g0), (a2, zO 7 6 g2)] [0, 1] hP hD hS hA rfl (by decide) 1 6 rfl rfl (fun hPc hDc hF => z_xrunV (As := [.int (nI j0), .int x1, .int x2]) (rest := [.int 0, .ref a1]) ⟨hx, hb, hml, hown, hg⟩ (cX11_prim_2 l hl9 K H.size a0 a2 g0 g2 j0 hj0 x1 x2 e0 e1) kV_RL_46 hd_X11_prim rfl rfl ⟨(Nat.le_of_ble_eq_true rfl), (Nat.le_of_ble_eq_true rfl)⟩ hK hS hZ hPc hDc hF 0 rfl rfl rfl hl.1 rfl (Nat.le_of_ble_eq_true rfl) dL_prim_7 ⟨(Nat.le_of_ble_eq_true rfl), (Nat.le_of_ble_eq_true rfl)⟩) (fun ce q9 H locs hS hce hcv hcl => ?_)
  refine vx_catch (own := RL) (name := zIB) (E := zIB) hown [] ⟨0, 12, 15, 27⟩ [⟨0, 12, 19, 18⟩, ⟨0, 12, 23, 13⟩] (by rw [hTab]; rfl) (fun z hz => nomatch hz) (by decide) (by decide) (hg _ mt526) (va_Nw.use rfl hZ.1.1.2.2.2.1) hce hcv hcl ?_
  have hP : va_P K.1 classes [] H := z_P0
  have hD : va_D A [] := z_D0
  refine lv_astore (lv' := [(5, .ref q9), (0, .ref a0), (1, .int (nI j0)), (2, .int x1), (3, .int x2), (4, .ref a1)]) hx hb dL_prim_15 hl (by decide) rfl (fun ls hl => ?_)
  refine lv_iconst (v := 1) hx hb dL_prim_17 (by decide) ?_
  have hP9 : va_P K.1 classes [] H := hP.sub [] rfl
  have hD9 : va_D A [] := hD.sub [] (by decide) rfl
  exact z_iret hx hb hr (fun _ => 0) rfl hP9 hD9 hS (Nat.le_of_ble_eq_true rfl) (Nat.le_of_ble_eq_true rfl) hlocks dL_prim_18
set_option maxHeartbeats 4000000 in
set_option maxRecDepth 100000 in
theorem cX12_isIn_13 (l : Launch) (K : zK) (sz : Nat) (j0 : Nat) (hj0 : j0 < 5) : Met l yX12_isIn (Cond.code yX12_isIn cX12_isIn 3 (some .boolean) :: WG) { frames := 0, cells := 0, slots := 0, locals := 0 } (zPre K [] sz [.int (nI j0), .int 0, .int 4]) (va_Qi (fun (r : Int32) (_ : Nat → Nat) => r = 1) (zB K (va_A [] sz) (fun u : Nat → Nat => [])) (va_A [] sz)) 0 0 (va_A [] sz) := by
  refine z_met (Qc := fun A => (va_Qi (fun (r : Int32) (_ : Nat → Nat) => r = 1) (zB K A (fun u : Nat → Nat => [])) A)) (by decide +kernel) (Nat.le_of_ble_eq_true rfl) ?_
  intro p e s m args below meth c A ls H hx hb hr hg hown hlocks hml hin hK hP hD hA hS hZ hl
  have hown : s.vm.findClass RX12 = some m.cls := hown
  have hl : lv_has ls 3 [(0, .int (nI j0)), (1, .int 0), (2, .int 4)] := hl
  refine lv_iload_n hx hb dX12_isIn_0 rfl (lv_at hl 0 rfl) ?_
  refine lv_iload_n hx hb dX12_isIn_1 rfl (lv_at hl 1 rfl) ?_
  refine lv_icmp_lt (tgt := 14) hx hb dX12_isIn_2 (by decide) (fun c => absurd c ((by decide : ∀ j, j < 5 → ¬ ((nI j) < (0 : Int32))) j0 hj0)) (fun _ => ?_)
  refine lv_iload_n hx hb dX12_isIn_5 rfl (lv_at hl 0 rfl) ?_
  refine lv_iload_n hx hb dX12_isIn_6 rfl (lv_at hl 2 rfl) ?_
  refine lv_icmp_gt (tgt := 14) hx hb dX12_isIn_7 (by decide) (fun c => absurd c ((by decide : ∀ j, j < 5 → ¬ ((4 : Int32) < (nI j))) j0 hj0)) (fun _ => ?_)
  refine lv_iconst (v := 1) hx hb dX12_isIn_10 (by decide) ?_
  refine lv_goto (tgt := 15) hx hb dX12_isIn_11 (by decide) ?_
  have hP9 : va_P K.1 classes [] H := hP.sub [] rfl
  have hD9 : va_D A [] := hD.sub [] (by decide) rfl
  exact z_zret hx hb hr rfl (fun _ => 0) rfl hP9 hD9 hS (Nat.le_of_ble_eq_true rfl) (Nat.le_of_ble_eq_true rfl) hlocks dX12_isIn_15
set_option maxHeartbeats 4000000 in
set_option maxRecDepth 100000 in
theorem cX12_prim_2 (l : Launch) (K : zK) (sz : Nat) (a0 : Nat) (g0 : Nat → Value) (j0 : Nat) (hj0 : j0 < 5) (x1 : Int32) (x2 : Int32) (e0 : g0 0 = (.int 0)) (e1 : x1 < (0 : Int32)) : Met l yX12_prim (Cond.code yX12_prim cX12_prim 4 (some .int) :: WG) { frames := 2, cells := 0, slots := 0, locals := 43 } (zPre K [(a0, zO 10 83 g0)] sz [.ref a0, .int (nI j0), .int x1, .int x2]) (va_Qi (fun (r : Int32) (_ : Nat → Nat) => r = 0) (zB K (va_A [(a0, zO 10 83 g0)] sz) (fun u : Nat → Nat => [(a0, zO 10 83 (va_up g0 81 (.int 1)))])) (va_A [(a0, zO 10 83 g0)] sz)) 0 0 (va_A [(a0, zO 10 83 g0)] sz) := by
  refine z_met (Qc := fun A => (va_Qi (fun (r : Int32) (_ : Nat → Nat) => r = 0) (zB K A (fun u : Nat → Nat => [(a0, zO 10 83 (va_up g0 81 (.int 1)))])) A)) (by decide +kernel) (Nat.le_of_ble_eq_true rfl) ?_
  intro p e s m args below meth c A ls H hx hb hr hg hown hlocks hml hin hK hP hD hA hS hZ hl
  have hown : s.vm.findClass RX12 = some m.cls := hown
  have hl : lv_has ls 4 [(0, .ref a0), (1, .int (nI j0)), (2, .int x1), (3, .int x2)] := hl
  refine lv_aload_n hx hb dX12_prim_0 rfl (lv_at hl 0 rfl) ?_
  refine lv_aload_n hx hb dX12_prim_1 rfl (lv_at hl 0 rfl) ?_
  refine lv_iload_n hx hb dX12_prim_2 rfl (lv_at hl 2 rfl) ?_
  refine z_calli [(a0, zO 10 83 g0)] [] [0] [] hP hD hS hA rfl rfl (by decide) (by decide) (by decide +kernel) 0 0 rfl rfl (fun hPc hDc hF => z_runV (As := [.int x1]) (rest := [.ref a0]) ⟨hx, hb, hml, hown, hg⟩ (cX12_isNode_1 l K H.size a0 g0 x1 e0 e1) kV_RX12_200 hd_X12_isNode rfl rfl ⟨(Nat.le_of_ble_eq_true rfl), (Nat.le_of_ble_eq_true rfl)⟩ hK hS hZ hPc hDc hF 0 rfl rfl rfl hl.1 rfl (Nat.le_of_ble_eq_true rfl) dX12_prim_3 ⟨(Nat.le_of_ble_eq_true rfl), (Nat.le_of_ble_eq_true rfl)⟩) (fun r3 u1 H locs w2 hP hD hS => ?_)
  subst w2
  have hP : va_P K.1 classes [(a0, zO 10 83 g0)] H := hP
  have hD : va_D A [(a0, zO 10 83 g0)] := hD
  refine lv_if_eq (tgt := 21) hx hb dX12_prim_6 (by decide) (fun _ => ?_) (fun c => absurd (by decide) c)
  refine lv_iconst (v := 0) hx hb dX12_prim_21 (by decide) ?_
  refine lv_iload_n hx hb dX12_prim_22 rfl (lv_at hl 1 rfl) ?_
  refine lv_iconst (v := 0) hx hb dX12_prim_23 (by decide) ?_
  refine lv_iconst (v := 4) hx hb dX12_prim_24 (by decide) ?_
  refine z_calli [] [(a0, zO 10 83 g0)] [] [0] hP hD hS hA rfl rfl (by decide) (by decide) (by decide +kernel) 0 0 rfl rfl (fun hPc hDc hF => z_runS (As := [.int (nI j0), .int 0, .int 4]) (rest := [.int 0, .ref a0]) ⟨hx, hb, hml, hown, hg⟩ (cX12_isIn_13 l K H.size j0 hj0) kS_RX12_175 hd_X12_isIn rfl rfl ⟨(Nat.le_of_ble_eq_true rfl), (Nat.le_of_ble_eq_true rfl)⟩ hK hS hZ hPc hDc hF rfl hl.1 rfl (Nat.le_of_ble_eq_true rfl) dX12_prim_25 ⟨(Nat.le_of_ble_eq_true rfl), (Nat.le_of_ble_eq_true rfl)⟩) (fun r6 u4 H locs w5 hP hD hS => ?_)
  subst w5
  have hP : va_P K.1 classes [(a0, zO 10 83 g0)] H := hP
  have hD : va_D A [(a0, zO 10 83 g0)] := hD
  refine z_calli [(a0, zO 10 83 g0)] [] [0] [] hP hD hS hA rfl rfl (by decide) (by decide) (by decide +kernel) 0 0 rfl rfl (fun hPc hDc hF => z_runV (As := [.int 0, .int 1]) (rest := []) ⟨hx, hb, hml, hown, hg⟩ (cX12_mayTell_2 l K H.size a0 g0) kV_RX12_203 hd_X12_mayTell rfl rfl ⟨(Nat.le_of_ble_eq_true rfl), (Nat.le_of_ble_eq_true rfl)⟩ hK hS hZ hPc hDc hF 0 rfl rfl rfl hl.1 rfl (Nat.le_of_ble_eq_true rfl) dX12_prim_28 ⟨(Nat.le_of_ble_eq_true rfl), (Nat.le_of_ble_eq_true rfl)⟩) (fun r9 u7 H locs w8 hP hD hS => ?_)
  subst w8
  have hP : va_P K.1 classes [(a0, zO 10 83 (va_up g0 81 (.int 1)))] H := hP
  have hD : va_D A [(a0, zO 10 83 (va_up g0 81 (.int 1)))] := hD
  refine lv_if_eq (tgt := 48) hx hb dX12_prim_31 (by decide) (fun _ => ?_) (fun c => absurd (by decide) c)
  refine lv_iconst (v := 0) hx hb dX12_prim_48 (by decide) ?_
  have hP9 : va_P K.1 classes [(a0, zO 10 83 (va_up g0 81 (.int 1)))] H := hP.sub [0] rfl
  have hD9 : va_D A [(a0, zO 10 83 (va_up g0 81 (.int 1)))] := hD.sub [0] (by decide) rfl
  exact z_iret hx hb hr (fun _ => 0) rfl hP9 hD9 hS (Nat.le_of_ble_eq_true rfl) (Nat.le_of_ble_eq_true rfl) hlocks dX12_prim_49
set_option maxHeartbeats 4000000 in
set_option maxRecDepth 100000 in
theorem cX12_isIn_14 (l : Launch) (K : zK) (sz : Nat) (x0 : Int32) (e0 : ¬ x0 < (0 : Int32)) (e1 : (4 : Int32) < x0) : Met l yX12_isIn (Cond.code yX12_isIn cX12_isIn 3 (some .boolean) :: WG) { frames := 0, cells := 0, slots := 0, locals := 0 } (zPre K [] sz [.int x0, .int 0, .int 4]) (va_Qi (fun (r : Int32) (_ : Nat → Nat) => r = 0) (zB K (va_A [] sz) (fun u : Nat → Nat => [])) (va_A [] sz)) 0 0 (va_A [] sz) := by
  refine z_met (Qc := fun A => (va_Qi (fun (r : Int32) (_ : Nat → Nat) => r = 0) (zB K A (fun u : Nat → Nat => [])) A)) (by decide +kernel) (Nat.le_of_ble_eq_true rfl) ?_
  intro p e s m args below meth c A ls H hx hb hr hg hown hlocks hml hin hK hP hD hA hS hZ hl
  have hown : s.vm.findClass RX12 = some m.cls := hown
  have hl : lv_has ls 3 [(0, .int x0), (1, .int 0), (2, .int 4)] := hl
  refine lv_iload_n hx hb dX12_isIn_0 rfl (lv_at hl 0 rfl) ?_
  refine lv_iload_n hx hb dX12_isIn_1 rfl (lv_at hl 1 rfl) ?_
  refine lv_icmp_lt (tgt := 14) hx hb dX12_isIn_2 (by decide) (fun c => absurd c e0) (fun _ => ?_)
  refine lv_iload_n hx hb dX12_isIn_5 rfl (lv_at hl 0 rfl) ?_
  refine lv_iload_n hx hb dX12_isIn_6 rfl (lv_at hl 2 rfl) ?_
  refine lv_icmp_gt (tgt := 14) hx hb dX12_isIn_7 (by decide) (fun _ => ?_) (fun c => absurd e1 c)
  refine lv_iconst (v := 0) hx hb dX12_isIn_14 (by decide) ?_
  have hP9 : va_P K.1 classes [] H := hP.sub [] rfl
  have hD9 : va_D A [] := hD.sub [] (by decide) rfl
  exact z_zret hx hb hr rfl (fun _ => 0) rfl hP9 hD9 hS (Nat.le_of_ble_eq_true rfl) (Nat.le_of_ble_eq_true rfl) hlocks dX12_isIn_15
set_option maxHeartbeats 4000000 in
set_option maxRecDepth 100000 in
theorem cX12_prim_3 (l : Launch) (K : zK) (sz : Nat) (a0 : Nat) (g0 : Nat → Value) (x0 : Int32) (x1 : Int32) (x2 : Int32) (e0 : g0 0 = (.int 0)) (e1 : x1 < (0 : Int32)) (e2 : ¬ x0 < (0 : Int32)) (e3 : (4 : Int32) < x0) : Met l yX12_prim (Cond.code yX12_prim cX12_prim 4 (some .int) :: WG) { frames := 2, cells := 0, slots := 0, locals := 43 } (zPre K [(a0, zO 10 83 g0)] sz [.ref a0, .int x0, .int x1, .int x2]) (va_Qi (fun (r : Int32) (_ : Nat → Nat) => r = 0) (zB K (va_A [(a0, zO 10 83 g0)] sz) (fun u : Nat → Nat => [(a0, zO 10 83 (va_up g0 81 (.int 1)))])) (va_A [(a0, zO 10 83 g0)] sz)) 0 0 (va_A [(a0, zO 10 83 g0)] sz) := by
  refine z_met (Qc := fun A => (va_Qi (fun (r : Int32) (_ : Nat → Nat) => r = 0) (zB K A (fun u : Nat → Nat => [(a0, zO 10 83 (va_up g0 81 (.int 1)))])) A)) (by decide +kernel) (Nat.le_of_ble_eq_true rfl) ?_
  intro p e s m args below meth c A ls H hx hb hr hg hown hlocks hml hin hK hP hD hA hS hZ hl
  have hown : s.vm.findClass RX12 = some m.cls := hown
  have hl : lv_has ls 4 [(0, .ref a0), (1, .int x0), (2, .int x1), (3, .int x2)] := hl
  refine lv_aload_n hx hb dX12_prim_0 rfl (lv_at hl 0 rfl) ?_
  refine lv_aload_n hx hb dX12_prim_1 rfl (lv_at hl 0 rfl) ?_
  refine lv_iload_n hx hb dX12_prim_2 rfl (lv_at hl 2 rfl) ?_
  refine z_calli [(a0, zO 10 83 g0)] [] [0] [] hP hD hS hA rfl rfl (by decide) (by decide) (by decide +kernel) 0 0 rfl rfl (fun hPc hDc hF => z_runV (As := [.int x1]) (rest := [.ref a0]) ⟨hx, hb, hml, hown, hg⟩ (cX12_isNode_1 l K H.size a0 g0 x1 e0 e1) kV_RX12_200 hd_X12_isNode rfl rfl ⟨(Nat.le_of_ble_eq_true rfl), (Nat.le_of_ble_eq_true rfl)⟩ hK hS hZ hPc hDc hF 0 rfl rfl rfl hl.1 rfl (Nat.le_of_ble_eq_true rfl) dX12_prim_3 ⟨(Nat.le_of_ble_eq_true rfl), (Nat.le_of_ble_eq_true rfl)⟩) (fun r3 u1 H locs w2 hP hD hS => ?_)
  subst w2
  have hP : va_P K.1 classes [(a0, zO 10 83 g0)] H := hP
  have hD : va_D A [(a0, zO 10 83 g0)] := hD
  refine lv_if_eq (tgt := 21) hx hb dX12_prim_6 (by decide) (fun _ => ?_) (fun c => absurd (by decide) c)
  refine lv_iconst (v := 0) hx hb dX12_prim_21 (by decide) ?_
  refine lv_iload_n hx hb dX12_prim_22 rfl (lv_at hl 1 rfl) ?_
  refine lv_iconst (v := 0) hx hb dX12_prim_23 (by decide) ?_
  refine lv_iconst (v := 4) hx hb dX12_prim_24 (by decide) ?_
  refine z_calli [] [(a0, zO 10 83 g0)] [] [0] hP hD hS hA rfl rfl (by decide) (by decide) (by decide +kernel) 0 0 rfl rfl (fun hPc hDc hF => z_runS (As := [.int x0, .int 0, .int 4]) (rest := [.int 0, .ref a0]) ⟨hx, hb, hml, hown, hg⟩ (cX12_isIn_14 l K H.size x0 e2 e3) kS_RX12_175 hd_X12_isIn rfl rfl ⟨(Nat.le_of_ble_eq_true rfl), (Nat.le_of_ble_eq_true rfl)⟩ hK hS hZ hPc hDc hF rfl hl.1 rfl (Nat.le_of_ble_eq_true rfl) dX12_prim_25 ⟨(Nat.le_of_ble_eq_true rfl), (Nat.le_of_ble_eq_true rfl)⟩) (fun r6 u4 H locs w5 hP hD hS => ?_)
  subst w5
  have hP : va_P K.1 classes [(a0, zO 10 83 g0)] H := hP
  have hD : va_D A [(a0, zO 10 83 g0)] := hD
  refine z_calli [(a0, zO 10 83 g0)] [] [0] [] hP hD hS hA rfl rfl (by decide) (by decide) (by decide +kernel) 0 0 rfl rfl (fun hPc hDc hF => z_runV (As := [.int 0, .int 0]) (rest := []) ⟨hx, hb, hml, hown, hg⟩ (cX12_mayTell_1 l K H.size a0 g0) kV_RX12_203 hd_X12_mayTell rfl rfl ⟨(Nat.le_of_ble_eq_true rfl), (Nat.le_of_ble_eq_true rfl)⟩ hK hS hZ hPc hDc hF 0 rfl rfl rfl hl.1 rfl (Nat.le_of_ble_eq_true rfl) dX12_prim_28 ⟨(Nat.le_of_ble_eq_true rfl), (Nat.le_of_ble_eq_true rfl)⟩) (fun r9 u7 H locs w8 hP hD hS => ?_)
  subst w8
  have hP : va_P K.1 classes [(a0, zO 10 83 (va_up g0 81 (.int 1)))] H := hP
  have hD : va_D A [(a0, zO 10 83 (va_up g0 81 (.int 1)))] := hD
  refine lv_if_eq (tgt := 48) hx hb dX12_prim_31 (by decide) (fun _ => ?_) (fun c => absurd (by decide) c)
  refine lv_iconst (v := 0) hx hb dX12_prim_48 (by decide) ?_
  have hP9 : va_P K.1 classes [(a0, zO 10 83 (va_up g0 81 (.int 1)))] H := hP.sub [0] rfl
  have hD9 : va_D A [(a0, zO 10 83 (va_up g0 81 (.int 1)))] := hD.sub [0] (by decide) rfl
  exact z_iret hx hb hr (fun _ => 0) rfl hP9 hD9 hS (Nat.le_of_ble_eq_true rfl) (Nat.le_of_ble_eq_true rfl) hlocks dX12_prim_49
set_option maxHeartbeats 4000000 in
set_option maxRecDepth 100000 in
theorem cX11_prim_3 (l : Launch) (hl9 : l.stackTraces = false) (K : zK) (sz : Nat) (a0 : Nat) (a1 : Nat) (g0 : Nat → Value) (g1 : Nat → Value) (x0 : Int32) (x1 : Int32) (x2 : Int32) (e0 : g0 0 = (.ref a1)) (e1 : ¬ x1 < (0 : Int32)) (e2 : g1 5 = (.int 0)) (e3 : (0 : Int32) ≤ x1) : vx_Met l yX11_prim (Cond.code yX11_prim cX11_prim 4 (some .int) :: WG) { frames := 7, cells := 1, slots := 6, locals := 103 } (zPre K [(a0, zO 9 9 g0), (a1, zO 7 6 g1)] sz [.ref a0, .int x0, .int x1, .int x2]) (va_Qv (fun _ : Unit => False) (fun _ _ => True) (va_A [(a0, zO 9 9 g0), (a1, zO 7 6 g1)] sz)) (zX (va_A [(a0, zO 9 9 g0), (a1, zO 7 6 g1)] sz) zIB) 1 6 (va_A [(a0, zO 9 9 g0), (a1, zO 7 6 g1)] sz) := by
  refine z_xmet (Qc := fun A => va_Qv (fun _ : Unit => False) (fun _ _ => True) A) (XC := fun A => zX A zIB) (by decide +kernel) (Nat.le_of_ble_eq_true rfl) ?_
  intro p e s m args below meth c A ls H hx hb hr hg hown hlocks hml hno hK hP hD hA hS hZ hl
  have hown : s.vm.findClass RX11 = some m.cls := hown
  have hl : lv_has ls 4 [(0, .ref a0), (1, .int x0), (2, .int x1), (3, .int x2)] := hl
  refine lv_aload_n hx hb dX11_prim_0 rfl (lv_at hl 0 rfl) ?_
  refine lv_iload_n hx hb dX11_prim_1 rfl (lv_at hl 2 rfl) ?_
  refine z_xcall (EX := zIB) [(a0, zO 9 9 g0), (a1, zO 7 6 g1)] [0, 1] hP hD hS hA rfl (by decide) 1 6 rfl rfl (fun hPc hDc hF => z_xrunV (As := [.int x1]) (rest := []) ⟨hx, hb, hml, hown, hg⟩ (cX11_checkTold_2 l hl9 K H.size a0 a1 g0 g1 x1 e0 e1 e2 e3) kV_RX11_76 hd_X11_checkTold rfl rfl ⟨(Nat.le_of_ble_eq_true rfl), (Nat.le_of_ble_eq_true rfl)⟩ hK hS hZ hPc hDc hF 0 rfl rfl rfl hl.1 rfl (Nat.le_of_ble_eq_true rfl) dX11_prim_2 ⟨(Nat.le_of_ble_eq_true rfl), (Nat.le_of_ble_eq_true rfl)⟩) (fun ce q9 H locs hS hce hcv hcl => ?_)
  exact z_xout hno hlocks hS hce hcv hcl (Nat.le_of_ble_eq_true rfl) (Nat.le_of_ble_eq_true rfl)
set_option maxHeartbeats 4000000 in
set_option maxRecDepth 100000 in
theorem cL_prim_3 (l : Launch) (hl9 : l.stackTraces = false) (K : zK) (sz : Nat) (a0 : Nat) (a1 : Nat) (a2 : Nat) (g0 : Nat → Value) (g2 : Nat → Value) (x0 : Int32) (x1 : Int32) (x2 : Int32) (e0 : g0 0 = (.ref a2)) (e1 : ¬ x1 < (0 : Int32)) (e2 : g2 5 = (.int 0)) (e3 : (0 : Int32) ≤ x1) : vx_Met l yL_prim (Cond.codeWith yL_prim cL_prim 6 (some .int) [(0, 12, 15, 27), (0, 12, 19, 18), (0, 12, 23, 13)] :: WG) { frames := 8, cells := 1, slots := 6, locals := 126 } (zPre K [(a0, zO 9 9 g0), (a2, zO 7 6 g2)] sz [.ref a0, .int x0, .int x1, .int x2, .ref a1]) (va_Qi (fun (r : Int32) (_ : Nat → Nat) => r = 1) (zB K (va_A [(a0, zO 9 9 g0), (a2, zO 7 6 g2)] sz) (fun u : Nat → Nat => [])) (va_A [(a0, zO 9 9 g0), (a2, zO 7 6 g2)] sz)) (vx_X (fun _ : Unit => False) (fun _ _ _ => True) (va_A [(a0, zO 9 9 g0), (a2, zO 7 6 g2)] sz)) 1 6 (va_A [(a0, zO 9 9 g0), (a2, zO 7 6 g2)] sz) := by
  refine z_hmet (Qc := fun A => (va_Qi (fun (r : Int32) (_ : Nat → Nat) => r = 1) (zB K A (fun u : Nat → Nat => [])) A)) (XC := fun A => vx_X (fun _ : Unit => False) (fun _ _ _ => True) A) (by decide +kernel) (Nat.le_of_ble_eq_true rfl) ?_
  intro p e s m args below meth c A ls H hx hb hr hg hown hlocks hml hTab hK hP hD hA hS hZ hl
  have hown : s.vm.findClass RL = some m.cls := hown
  have hl : lv_has ls 6 [(0, .ref a0), (1, .int x0), (2, .int x1), (3, .int x2), (4, .ref a1)] := hl
  refine lv_aload hx hb dL_prim_0 (lv_at hl 4 rfl) ?_
  refine lv_iconst (v := 0) hx hb dL_prim_2 (by decide) ?_
  refine lv_aload_n hx hb dL_prim_3 rfl (lv_at hl 0 rfl) ?_
  refine lv_iload_n hx hb dL_prim_4 rfl (lv_at hl 1 rfl) ?_
  refine lv_iload_n hx hb dL_prim_5 rfl (lv_at hl 2 rfl) ?_
  refine lv_iload_n hx hb dL_prim_6 rfl (lv_at hl 3 rfl) ?_
  refine z_xcall (EX := zIB) [(a0, zO 9 9 g0), (a2, zO 7 6 g2)] [0, 1] hP hD hS hA rfl (by decide) 1 6 rfl rfl (fun hPc hDc hF => z_xrunV (As := [.int x0, .int x1, .int x2]) (rest := [.int 0, .ref a1]) ⟨hx, hb, hml, hown, hg⟩ (cX11_prim_3 l hl9 K H.size a0 a2 g0 g2 x0 x1 x2 e0 e1 e2 e3) kV_RL_46 hd_X11_prim rfl rfl ⟨(Nat.le_of_ble_eq_true rfl), (Nat.le_of_ble_eq_true rfl)⟩ hK hS hZ hPc hDc hF 0 rfl rfl rfl hl.1 rfl (Nat.le_of_ble_eq_true rfl) dL_prim_7 ⟨(Nat.le_of_ble_eq_true rfl), (Nat.le_of_ble_eq_true rfl)⟩) (fun ce q9 H locs hS hce hcv hcl => ?_)
  refine vx_catch (own := RL) (name := zIB) (E := zIB) hown [] ⟨0, 12, 15, 27⟩ [⟨0, 12, 19, 18⟩, ⟨0, 12, 23, 13⟩] (by rw [hTab]; rfl) (fun z hz => nomatch hz) (by decide) (by decide) (hg _ mt526) (va_Nw.use rfl hZ.1.1.2.2.2.1) hce hcv hcl ?_
  have hP : va_P K.1 classes [] H := z_P0
  have hD : va_D A [] := z_D0
  refine lv_astore (lv' := [(5, .ref q9), (0, .ref a0), (1, .int x0), (2, .int x1), (3, .int x2), (4, .ref a1)]) hx hb dL_prim_15 hl (by decide) rfl (fun ls hl => ?_)
  refine lv_iconst (v := 1) hx hb dL_prim_17 (by decide) ?_
  have hP9 : va_P K.1 classes [] H := hP.sub [] rfl
  have hD9 : va_D A [] := hD.sub [] (by decide) rfl
  exact z_iret hx hb hr (fun _ => 0) rfl hP9 hD9 hS (Nat.le_of_ble_eq_true rfl) (Nat.le_of_ble_eq_true rfl) hlocks dL_prim_18
set_option maxHeartbeats 4000000 in
set_option maxRecDepth 100000 in
theorem cX12_prim_4 (l : Launch) (K : zK) (sz : Nat) (a0 : Nat) (g0 : Nat → Value) (x0 : Int32) (x1 : Int32) (x2 : Int32) (e0 : g0 0 = (.int 0)) (e1 : ¬ x1 < (0 : Int32)) (e2 : (-1 : Int32) < x1) (e3 : x0 < (0 : Int32)) : Met l yX12_prim (Cond.code yX12_prim cX12_prim 4 (some .int) :: WG) { frames := 2, cells := 0, slots := 0, locals := 43 } (zPre K [(a0, zO 10 83 g0)] sz [.ref a0, .int x0, .int x1, .int x2]) (va_Qi (fun (r : Int32) (_ : Nat → Nat) => r = 0) (zB K (va_A [(a0, zO 10 83 g0)] sz) (fun u : Nat → Nat => [(a0, zO 10 83 (va_up g0 81 (.int 1)))])) (va_A [(a0, zO 10 83 g0)] sz)) 0 0 (va_A [(a0, zO 10 83 g0)] sz) := by
  refine z_met (Qc := fun A => (va_Qi (fun (r : Int32) (_ : Nat → Nat) => r = 0) (zB K A (fun u : Nat → Nat => [(a0, zO 10 83 (va_up g0 81 (.int 1)))])) A)) (by decide +kernel) (Nat.le_of_ble_eq_true rfl) ?_
  intro p e s m args below meth c A ls H hx hb hr hg hown hlocks hml hin hK hP hD hA hS hZ hl
  have hown : s.vm.findClass RX12 = some m.cls := hown
  have hl : lv_has ls 4 [(0, .ref a0), (1, .int x0), (2, .int x1), (3, .int x2)] := hl
  refine lv_aload_n hx hb dX12_prim_0 rfl (lv_at hl 0 rfl) ?_
  refine lv_aload_n hx hb dX12_prim_1 rfl (lv_at hl 0 rfl) ?_
  refine lv_iload_n hx hb dX12_prim_2 rfl (lv_at hl 2 rfl) ?_
  refine z_calli [(a0, zO 10 83 g0)] [] [0] [] hP hD hS hA rfl rfl (by decide) (by decide) (by decide +kernel) 0 0 rfl rfl (fun hPc hDc hF => z_runV (As := [.int x1]) (rest := [.ref a0]) ⟨hx, hb, hml, hown, hg⟩ (cX12_isNode_2 l K H.size a0 g0 x1 e0 e1 e2) kV_RX12_200 hd_X12_isNode rfl rfl ⟨(Nat.le_of_ble_eq_true rfl), (Nat.le_of_ble_eq_true rfl)⟩ hK hS hZ hPc hDc hF 0 rfl rfl rfl hl.1 rfl (Nat.le_of_ble_eq_true rfl) dX12_prim_3 ⟨(Nat.le_of_ble_eq_true rfl), (Nat.le_of_ble_eq_true rfl)⟩) (fun r3 u1 H locs w2 hP hD hS => ?_)
  subst w2
  have hP : va_P K.1 classes [(a0, zO 10 83 g0)] H := hP
  have hD : va_D A [(a0, zO 10 83 g0)] := hD
  refine lv_if_eq (tgt := 21) hx hb dX12_prim_6 (by decide) (fun _ => ?_) (fun c => absurd (by decide) c)
  refine lv_iconst (v := 0) hx hb dX12_prim_21 (by decide) ?_
  refine lv_iload_n hx hb dX12_prim_22 rfl (lv_at hl 1 rfl) ?_
  refine lv_iconst (v := 0) hx hb dX12_prim_23 (by decide) ?_
  refine lv_iconst (v := 4) hx hb dX12_prim_24 (by decide) ?_
  refine z_calli [] [(a0, zO 10 83 g0)] [] [0] hP hD hS hA rfl rfl (by decide) (by decide) (by decide +kernel) 0 0 rfl rfl (fun hPc hDc hF => z_runS (As := [.int x0, .int 0, .int 4]) (rest := [.int 0, .ref a0]) ⟨hx, hb, hml, hown, hg⟩ (cX12_isIn_12 l K H.size x0 e3) kS_RX12_175 hd_X12_isIn rfl rfl ⟨(Nat.le_of_ble_eq_true rfl), (Nat.le_of_ble_eq_true rfl)⟩ hK hS hZ hPc hDc hF rfl hl.1 rfl (Nat.le_of_ble_eq_true rfl) dX12_prim_25 ⟨(Nat.le_of_ble_eq_true rfl), (Nat.le_of_ble_eq_true rfl)⟩) (fun r6 u4 H locs w5 hP hD hS => ?_)
  subst w5
  have hP : va_P K.1 classes [(a0, zO 10 83 g0)] H := hP
  have hD : va_D A [(a0, zO 10 83 g0)] := hD
  refine z_calli [(a0, zO 10 83 g0)] [] [0] [] hP hD hS hA rfl rfl (by decide) (by decide) (by decide +kernel) 0 0 rfl rfl (fun hPc hDc hF => z_runV (As := [.int 0, .int 0]) (rest := []) ⟨hx, hb, hml, hown, hg⟩ (cX12_mayTell_1 l K H.size a0 g0) kV_RX12_203 hd_X12_mayTell rfl rfl ⟨(Nat.le_of_ble_eq_true rfl), (Nat.le_of_ble_eq_true rfl)⟩ hK hS hZ hPc hDc hF 0 rfl rfl rfl hl.1 rfl (Nat.le_of_ble_eq_true rfl) dX12_prim_28 ⟨(Nat.le_of_ble_eq_true rfl), (Nat.le_of_ble_eq_true rfl)⟩) (fun r9 u7 H locs w8 hP hD hS => ?_)
  subst w8
  have hP : va_P K.1 classes [(a0, zO 10 83 (va_up g0 81 (.int 1)))] H := hP
  have hD : va_D A [(a0, zO 10 83 (va_up g0 81 (.int 1)))] := hD
  refine lv_if_eq (tgt := 48) hx hb dX12_prim_31 (by decide) (fun _ => ?_) (fun c => absurd (by decide) c)
  refine lv_iconst (v := 0) hx hb dX12_prim_48 (by decide) ?_
  have hP9 : va_P K.1 classes [(a0, zO 10 83 (va_up g0 81 (.int 1)))] H := hP.sub [0] rfl
  have hD9 : va_D A [(a0, zO 10 83 (va_up g0 81 (.int 1)))] := hD.sub [0] (by decide) rfl
  exact z_iret hx hb hr (fun _ => 0) rfl hP9 hD9 hS (Nat.le_of_ble_eq_true rfl) (Nat.le_of_ble_eq_true rfl) hlocks dX12_prim_49
set_option maxHeartbeats 4000000 in
set_option maxRecDepth 100000 in
theorem cX11_prim_4 (l : Launch) (hl9 : l.stackTraces = false) (K : zK) (sz : Nat) (a0 : Nat) (a1 : Nat) (g0 : Nat → Value) (g1 : Nat → Value) (j0 : Nat) (hj0 : j0 < 5) (x1 : Int32) (x2 : Int32) (e0 : g0 0 = (.ref a1)) (e1 : ¬ x1 < (0 : Int32)) (e2 : g1 5 = (.int 0)) (e3 : (0 : Int32) ≤ x1) : vx_Met l yX11_prim (Cond.code yX11_prim cX11_prim 4 (some .int) :: WG) { frames := 7, cells := 1, slots := 6, locals := 103 } (zPre K [(a0, zO 9 9 g0), (a1, zO 7 6 g1)] sz [.ref a0, .int (nI j0), .int x1, .int x2]) (va_Qv (fun _ : Unit => False) (fun _ _ => True) (va_A [(a0, zO 9 9 g0), (a1, zO 7 6 g1)] sz)) (zX (va_A [(a0, zO 9 9 g0), (a1, zO 7 6 g1)] sz) zIB) 1 6 (va_A [(a0, zO 9 9 g0), (a1, zO 7 6 g1)] sz) := by
  refine z_xmet (Qc := fun A => va_Qv (fun _ : Unit => False) (fun _ _ => True) A) (XC := fun A => zX A zIB) (by decide +kernel) (Nat.le_of_ble_eq_true rfl) ?_
  intro p e s m args below meth c A ls H hx hb hr hg hown hlocks hml hno hK hP hD hA hS hZ hl
  have hown : s.vm.findClass RX11 = some m.cls := hown
  have hl : lv_has ls 4 [(0, .ref a0), (1, .int (nI j0)), (2, .int x1), (3, .int x2)] := hl
  refine lv_aload_n hx hb dX11_prim_0 rfl (lv_at hl 0 rfl) ?_
  refine lv_iload_n hx hb dX11_prim_1 rfl (lv_at hl 2 rfl) ?_
  refine z_xcall (EX := zIB) [(a0, zO 9 9 g0), (a1, zO 7 6 g1)] [0, 1] hP hD hS hA rfl (by decide) 1 6 rfl rfl (fun hPc hDc hF => z_xrunV (As := [.int x1]) (rest := []) ⟨hx, hb, hml, hown, hg⟩ (cX11_checkTold_2 l hl9 K H.size a0 a1 g0 g1 x1 e0 e1 e2 e3) kV_RX11_76 hd_X11_checkTold rfl rfl ⟨(Nat.le_of_ble_eq_true rfl), (Nat.le_of_ble_eq_true rfl)⟩ hK hS hZ hPc hDc hF 0 rfl rfl rfl hl.1 rfl (Nat.le_of_ble_eq_true rfl) dX11_prim_2 ⟨(Nat.le_of_ble_eq_true rfl), (Nat.le_of_ble_eq_true rfl)⟩) (fun ce q9 H locs hS hce hcv hcl => ?_)
  exact z_xout hno hlocks hS hce hcv hcl (Nat.le_of_ble_eq_true rfl) (Nat.le_of_ble_eq_true rfl)
set_option maxHeartbeats 4000000 in
set_option maxRecDepth 100000 in
theorem cL_prim_4 (l : Launch) (hl9 : l.stackTraces = false) (K : zK) (sz : Nat) (a0 : Nat) (a1 : Nat) (a2 : Nat) (g0 : Nat → Value) (g2 : Nat → Value) (j0 : Nat) (hj0 : j0 < 5) (x1 : Int32) (x2 : Int32) (e0 : g0 0 = (.ref a2)) (e1 : ¬ x1 < (0 : Int32)) (e2 : g2 5 = (.int 0)) (e3 : (0 : Int32) ≤ x1) : vx_Met l yL_prim (Cond.codeWith yL_prim cL_prim 6 (some .int) [(0, 12, 15, 27), (0, 12, 19, 18), (0, 12, 23, 13)] :: WG) { frames := 8, cells := 1, slots := 6, locals := 126 } (zPre K [(a0, zO 9 9 g0), (a2, zO 7 6 g2)] sz [.ref a0, .int (nI j0), .int x1, .int x2, .ref a1]) (va_Qi (fun (r : Int32) (_ : Nat → Nat) => r = 1) (zB K (va_A [(a0, zO 9 9 g0), (a2, zO 7 6 g2)] sz) (fun u : Nat → Nat => [])) (va_A [(a0, zO 9 9 g0), (a2, zO 7 6 g2)] sz)) (vx_X (fun _ : Unit => False) (fun _ _ _ => True) (va_A [(a0, zO 9 9 g0), (a2, zO 7 6 g2)] sz)) 1 6 (va_A [(a0, zO 9 9 g0), (a2, zO 7 6 g2)] sz) := by
  refine z_hmet (Qc := fun A => (va_Qi (fun (r : Int32) (_ : Nat → Nat) => r = 1) (zB K A (fun u : Nat → Nat => [])) A)) (XC := fun A => vx_X (fun _ : Unit => False) (fun _ _ _ => True) A) (by decide +kernel) (Nat.le_of_ble_eq_true rfl) ?_
  intro p e s m args below meth c A ls H hx hb hr hg hown hlocks hml hTab hK hP hD hA hS hZ hl
  have hown : s.vm.findClass RL = some m.cls := hown
  have hl : lv_has ls 6 [(0, .ref a0), (1, .int (nI j0)), (2, .int x1), (3, .int x2), (4, .ref a1)] := hl
  refine lv_aload hx hb dL_prim_0 (lv_at hl 4 rfl) ?_
  refine lv_iconst (v := 0) hx hb dL_prim_2 (by decide) ?_
  refine lv_aload_n hx hb dL_prim_3 rfl (lv_at hl 0 rfl) ?_
  refine lv_iload_n hx hb dL_prim_4 rfl (lv_at hl 1 rfl) ?_
  refine lv_iload_n hx hb dL_prim_5 rfl (lv_at hl 2 rfl) ?_
  refine lv_iload_n hx hb dL_prim_6 rfl (lv_at hl 3 rfl) ?_
  refine z_xcall (EX := zIB) [(a0, zO 9 9 g0), (a2, zO 7 6 g2)] [0, 1] hP hD hS hA rfl (by decide) 1 6 rfl rfl (fun hPc hDc hF => z_xrunV (As := [.int (nI j0), .int x1, .int x2]) (rest := [.int 0, .ref a1]) ⟨hx, hb, hml, hown, hg⟩ (cX11_prim_4 l hl9 K H.size a0 a2 g0 g2 j0 hj0 x1 x2 e0 e1 e2 e3) kV_RL_46 hd_X11_prim rfl rfl ⟨(Nat.le_of_ble_eq_true rfl), (Nat.le_of_ble_eq_true rfl)⟩ hK hS hZ hPc hDc hF 0 rfl rfl rfl hl.1 rfl (Nat.le_of_ble_eq_true rfl) dL_prim_7 ⟨(Nat.le_of_ble_eq_true rfl), (Nat.le_of_ble_eq_true rfl)⟩) (fun ce q9 H locs hS hce hcv hcl => ?_)
  refine vx_catch (own := RL) (name := zIB) (E := zIB) hown [] ⟨0, 12, 15, 27⟩ [⟨0, 12, 19, 18⟩, ⟨0, 12, 23, 13⟩] (by rw [hTab]; rfl) (fun z hz => nomatch hz) (by decide) (by decide) (hg _ mt526) (va_Nw.use rfl hZ.1.1.2.2.2.1) hce hcv hcl ?_
  have hP : va_P K.1 classes [] H := z_P0
  have hD : va_D A [] := z_D0
  refine lv_astore (lv' := [(5, .ref q9), (0, .ref a0), (1, .int (nI j0)), (2, .int x1), (3, .int x2), (4, .ref a1)]) hx hb dL_prim_15 hl (by decide) rfl (fun ls hl => ?_)
  refine lv_iconst (v := 1) hx hb dL_prim_17 (by decide) ?_
  have hP9 : va_P K.1 classes [] H := hP.sub [] rfl
  have hD9 : va_D A [] := hD.sub [] (by decide) rfl
  exact z_iret hx hb hr (fun _ => 0) rfl hP9 hD9 hS (Nat.le_of_ble_eq_true rfl) (Nat.le_of_ble_eq_true rfl) hlocks dL_prim_18
set_option maxHeartbeats 4000000 in
set_option maxRecDepth 100000 in
theorem cX12_prim_5 (l : Launch) (K : zK) (sz : Nat) (a0 : Nat) (g0 : Nat → Value) (j0 : Nat) (hj0 : j0 < 5) (x1 : Int32) (x2 : Int32) (e0 : g0 0 = (.int 0)) (e1 : ¬ x1 < (0 : Int32)) (e2 : (-1 : Int32) < x1) : Met l yX12_prim (Cond.code yX12_prim cX12_prim 4 (some .int) :: WG) { frames := 2, cells := 0, slots := 0, locals := 43 } (zPre K [(a0, zO 10 83 g0)] sz [.ref a0, .int (nI j0), .int x1, .int x2]) (va_Qi (fun (r : Int32) (_ : Nat → Nat) => r = 0) (zB K (va_A [(a0, zO 10 83 g0)] sz) (fun u : Nat → Nat => [(a0, zO 10 83 (va_up g0 81 (.int 1)))])) (va_A [(a0, zO 10 83 g0)] sz)) 0 0 (va_A [(a0, zO 10 83 g0)] sz) := by
  refine z_met (Qc := fun A => (va_Qi (fun (r : Int32) (_ : Nat → Nat) => r = 0) (zB K A (fun u : Nat → Nat => [(a0, zO 10 83 (va_up g0 81 (.int 1)))])) A)) (by decide +kernel) (Nat.le_of_ble_eq_true rfl) ?_
  intro p e s m args below meth c A ls H hx hb hr hg hown hlocks hml hin hK hP hD hA hS hZ hl
  have hown : s.vm.findClass RX12 = some m.cls := hown
  have hl : lv_has ls 4 [(0, .ref a0), (1, .int (nI j0)), (2, .int x1), (3, .int x2)] := hl
  refine lv_aload_n hx hb dX12_prim_0 rfl (lv_at hl 0 rfl) ?_
  refine lv_aload_n hx hb dX12_prim_1 rfl (lv_at hl 0 rfl) ?_
  refine lv_iload_n hx hb dX12_prim_2 rfl (lv_at hl 2 rfl) ?_
  refine z_calli [(a0, zO 10 83 g0)] [] [0] [] hP hD hS hA rfl rfl (by decide) (by decide) (by decide +kernel) 0 0 rfl rfl (fun hPc hDc hF => z_runV (As := [.int x1]) (rest := [.ref a0]) ⟨hx, hb, hml, hown, hg⟩ (cX12_isNode_2 l K H.size a0 g0 x1 e0 e1 e2) kV_RX12_200 hd_X12_isNode rfl rfl ⟨(Nat.le_of_ble_eq_true rfl), (Nat.le_of_ble_eq_true rfl)⟩ hK hS hZ hPc hDc hF 0 rfl rfl rfl hl.1 rfl (Nat.le_of_ble_eq_true rfl) dX12_prim_3 ⟨(Nat.le_of_ble_eq_true rfl), (Nat.le_of_ble_eq_true rfl)⟩) (fun r3 u1 H locs w2 hP hD hS => ?_)
  subst w2
  have hP : va_P K.1 classes [(a0, zO 10 83 g0)] H := hP
  have hD : va_D A [(a0, zO 10 83 g0)] := hD
  refine lv_if_eq (tgt := 21) hx hb dX12_prim_6 (by decide) (fun _ => ?_) (fun c => absurd (by decide) c)
  refine lv_iconst (v := 0) hx hb dX12_prim_21 (by decide) ?_
  refine lv_iload_n hx hb dX12_prim_22 rfl (lv_at hl 1 rfl) ?_
  refine lv_iconst (v := 0) hx hb dX12_prim_23 (by decide) ?_
  refine lv_iconst (v := 4) hx hb dX12_prim_24 (by decide) ?_
  refine z_calli [] [(a0, zO 10 83 g0)] [] [0] hP hD hS hA rfl rfl (by decide) (by decide) (by decide +kernel) 0 0 rfl rfl (fun hPc hDc hF => z_runS (As := [.int (nI j0), .int 0, .int 4]) (rest := [.int 0, .ref a0]) ⟨hx, hb, hml, hown, hg⟩ (cX12_isIn_13 l K H.size j0 hj0) kS_RX12_175 hd_X12_isIn rfl rfl ⟨(Nat.le_of_ble_eq_true rfl), (Nat.le_of_ble_eq_true rfl)⟩ hK hS hZ hPc hDc hF rfl hl.1 rfl (Nat.le_of_ble_eq_true rfl) dX12_prim_25 ⟨(Nat.le_of_ble_eq_true rfl), (Nat.le_of_ble_eq_true rfl)⟩) (fun r6 u4 H locs w5 hP hD hS => ?_)
  subst w5
  have hP : va_P K.1 classes [(a0, zO 10 83 g0)] H := hP
  have hD : va_D A [(a0, zO 10 83 g0)] := hD
  refine z_calli [(a0, zO 10 83 g0)] [] [0] [] hP hD hS hA rfl rfl (by decide) (by decide) (by decide +kernel) 0 0 rfl rfl (fun hPc hDc hF => z_runV (As := [.int 0, .int 1]) (rest := []) ⟨hx, hb, hml, hown, hg⟩ (cX12_mayTell_2 l K H.size a0 g0) kV_RX12_203 hd_X12_mayTell rfl rfl ⟨(Nat.le_of_ble_eq_true rfl), (Nat.le_of_ble_eq_true rfl)⟩ hK hS hZ hPc hDc hF 0 rfl rfl rfl hl.1 rfl (Nat.le_of_ble_eq_true rfl) dX12_prim_28 ⟨(Nat.le_of_ble_eq_true rfl), (Nat.le_of_ble_eq_true rfl)⟩) (fun r9 u7 H locs w8 hP hD hS => ?_)
  subst w8
  have hP : va_P K.1 classes [(a0, zO 10 83 (va_up g0 81 (.int 1)))] H := hP
  have hD : va_D A [(a0, zO 10 83 (va_up g0 81 (.int 1)))] := hD
  refine lv_if_eq (tgt := 48) hx hb dX12_prim_31 (by decide) (fun _ => ?_) (fun c => absurd (by decide) c)
  refine lv_iconst (v := 0) hx hb dX12_prim_48 (by decide) ?_
  have hP9 : va_P K.1 classes [(a0, zO 10 83 (va_up g0 81 (.int 1)))] H := hP.sub [0] rfl
  have hD9 : va_D A [(a0, zO 10 83 (va_up g0 81 (.int 1)))] := hD.sub [0] (by decide) rfl
  exact z_iret hx hb hr (fun _ => 0) rfl hP9 hD9 hS (Nat.le_of_ble_eq_true rfl) (Nat.le_of_ble_eq_true rfl) hlocks dX12_prim_49
set_option maxHeartbeats 4000000 in
set_option maxRecDepth 100000 in
theorem cX12_prim_6 (l : Launch) (K : zK) (sz : Nat) (a0 : Nat) (g0 : Nat → Value) (x0 : Int32) (x1 : Int32) (x2 : Int32) (e0 : g0 0 = (.int 0)) (e1 : ¬ x1 < (0 : Int32)) (e2 : (-1 : Int32) < x1) (e3 : ¬ x0 < (0 : Int32)) (e4 : (4 : Int32) < x0) : Met l yX12_prim (Cond.code yX12_prim cX12_prim 4 (some .int) :: WG) { frames := 2, cells := 0, slots := 0, locals := 43 } (zPre K [(a0, zO 10 83 g0)] sz [.ref a0, .int x0, .int x1, .int x2]) (va_Qi (fun (r : Int32) (_ : Nat → Nat) => r = 0) (zB K (va_A [(a0, zO 10 83 g0)] sz) (fun u : Nat → Nat => [(a0, zO 10 83 (va_up g0 81 (.int 1)))])) (va_A [(a0, zO 10 83 g0)] sz)) 0 0 (va_A [(a0, zO 10 83 g0)] sz) := by
  refine z_met (Qc := fun A => (va_Qi (fun (r : Int32) (_ : Nat → Nat) => r = 0) (zB K A (fun u : Nat → Nat => [(a0, zO 10 83 (va_up g0 81 (.int 1)))])) A)) (by decide +kernel) (Nat.le_of_ble_eq_true rfl) ?_
  intro p e s m args below meth c A ls H hx hb hr hg hown hlocks hml hin hK hP hD hA hS hZ hl
  have hown : s.vm.findClass RX12 = some m.cls := hown
  have hl : lv_has ls 4 [(0, .ref a0), (1, .int x0), (2, .int x1), (3, .int x2)] := hl
  refine lv_aload_n hx hb dX12_prim_0 rfl (lv_at hl 0 rfl) ?_
  refine lv_aload_n hx hb dX12_prim_1 rfl (lv_at hl 0 rfl) ?_
  refine lv_iload_n hx hb dX12_prim_2 rfl (lv_at hl 2 rfl) ?_
  refine z_calli [(a0, zO 10 83 g0)] [] [0] [] hP hD hS hA rfl rfl (by decide) (by decide) (by decide +kernel) 0 0 rfl rfl (fun hPc hDc hF => z_runV (As := [.int x1]) (rest := [.ref a0]) ⟨hx, hb, hml, hown, hg⟩ (cX12_isNode_2 l K H.size a0 g0 x1 e0 e1 e2) kV_RX12_200 hd_X12_isNode rfl rfl ⟨(Nat.le_of_ble_eq_true rfl), (Nat.le_of_ble_eq_true rfl)⟩ hK hS hZ hPc hDc hF 0 rfl rfl rfl hl.1 rfl (Nat.le_of_ble_eq_true rfl) dX12_prim_3 ⟨(Nat.le_of_ble_eq_true rfl), (Nat.le_of_ble_eq_true rfl)⟩) (fun r3 u1 H locs w2 hP hD hS => ?_)
  subst w2
  have hP : va_P K.1 classes [(a0, zO 10 83 g0)] H := hP
  have hD : va_D A [(a0, zO 10 83 g0)] := hD
  refine lv_if_eq (tgt := 21) hx hb dX12_prim_6 (by decide) (fun _ => ?_) (fun c => absurd (by decide) c)
  refine lv_iconst (v := 0) hx hb dX12_prim_21 (by decide) ?_
  refine lv_iload_n hx hb dX12_prim_22 rfl (lv_at hl 1 rfl) ?_
  refine lv_iconst (v := 0) hx hb dX12_prim_23 (by decide) ?_
  refine lv_iconst (v := 4) hx hb dX12_prim_24 (by decide) ?_
  refine z_calli [] [(a0, zO 10 83 g0)] [] [0] hP hD hS hA rfl rfl (by decide) (by decide) (by decide +kernel) 0 0 rfl rfl (fun hPc hDc hF => z_runS (As := [.int x0, .int 0, .int 4]) (rest := [.int 0, .ref a0]) ⟨hx, hb, hml, hown, hg⟩ (cX12_isIn_14 l K H.size x0 e3 e4) kS_RX12_175 hd_X12_isIn rfl rfl ⟨(Nat.le_of_ble_eq_true rfl), (Nat.le_of_ble_eq_true rfl)⟩ hK hS hZ hPc hDc hF rfl hl.1 rfl (Nat.le_of_ble_eq_true rfl) dX12_prim_25 ⟨(Nat.le_of_ble_eq_true rfl), (Nat.le_of_ble_eq_true rfl)⟩) (fun r6 u4 H locs w5 hP hD hS => ?_)
  subst w5
  have hP : va_P K.1 classes [(a0, zO 10 83 g0)] H := hP
  have hD : va_D A [(a0, zO 10 83 g0)] := hD
  refine z_calli [(a0, zO 10 83 g0)] [] [0] [] hP hD hS hA rfl rfl (by decide) (by decide) (by decide +kernel) 0 0 rfl rfl (fun hPc hDc hF => z_runV (As := [.int 0, .int 0]) (rest := []) ⟨hx, hb, hml, hown, hg⟩ (cX12_mayTell_1 l K H.size a0 g0) kV_RX12_203 hd_X12_mayTell rfl rfl ⟨(Nat.le_of_ble_eq_true rfl), (Nat.le_of_ble_eq_true rfl)⟩ hK hS hZ hPc hDc hF 0 rfl rfl rfl hl.1 rfl (Nat.le_of_ble_eq_true rfl) dX12_prim_28 ⟨(Nat.le_of_ble_eq_true rfl), (Nat.le_of_ble_eq_true rfl)⟩) (fun r9 u7 H locs w8 hP hD hS => ?_)
  subst w8
  have hP : va_P K.1 classes [(a0, zO 10 83 (va_up g0 81 (.int 1)))] H := hP
  have hD : va_D A [(a0, zO 10 83 (va_up g0 81 (.int 1)))] := hD
  refine lv_if_eq (tgt := 48) hx hb dX12_prim_31 (by decide) (fun _ => ?_) (fun c => absurd (by decide) c)
  refine lv_iconst (v := 0) hx hb dX12_prim_48 (by decide) ?_
  have hP9 : va_P K.1 classes [(a0, zO 10 83 (va_up g0 81 (.int 1)))] H := hP.sub [0] rfl
  have hD9 : va_D A [(a0, zO 10 83 (va_up g0 81 (.int 1)))] := hD.sub [0] (by decide) rfl
  exact z_iret hx hb hr (fun _ => 0) rfl hP9 hD9 hS (Nat.le_of_ble_eq_true rfl) (Nat.le_of_ble_eq_true rfl) hlocks dX12_prim_49
set_option maxHeartbeats 4000000 in
set_option maxRecDepth 100000 in
theorem cX11_seq_1 (l : Launch) (hl9 : l.stackTraces = false) (K : zK) (sz : Nat) (a0 : Nat) (a1 : Nat) (g0 : Nat → Value) (g1 : Nat → Value) (x0 : Int32) (x1 : Int32) (e0 : g0 0 = (.ref a1)) (e1 : x0 < (0 : Int32)) : vx_Met l yX11_seq (Cond.code yX11_seq cX11_seq 3 (some .int) :: WG) { frames := 7, cells := 1, slots := 6, locals := 103 } (zPre K [(a0, zO 9 9 g0), (a1, zO 7 6 g1)] sz [.ref a0, .int x0, .int x1]) (va_Qv (fun _ : Unit => False) (fun _ _ => True) (va_A [(a0, zO 9 9 g0), (a1, zO 7 6 g1)] sz)) (zX (va_A [(a0, zO 9 9 g0), (a1, zO 7 6 g1)] sz) zIB) 1 6 (va_A [(a0, zO 9 9 g0), (a1, zO 7 6 g1)] sz) := by
  refine z_xmet (Qc := fun A => va_Qv (fun _ : Unit => False) (fun _ _ => True) A) (XC := fun A => zX A zIB) (by decide +kernel) (Nat.le_of_ble_eq_true rfl) ?_
  intro p e s m args below meth c A ls H hx hb hr hg hown hlocks hml hno hK hP hD hA hS hZ hl
  have hown : s.vm.findClass RX11 = some m.cls := hown
  have hl : lv_has ls 3 [(0, .ref a0), (1, .int x0), (2, .int x1)] := hl
  refine lv_aload_n hx hb dX11_seq_0 rfl (lv_at hl 0 rfl) ?_
  refine lv_iload_n hx hb dX11_seq_1 rfl (lv_at hl 1 rfl) ?_
  refine z_xcall (EX := zIB) [(a0, zO 9 9 g0), (a1, zO 7 6 g1)] [0, 1] hP hD hS hA rfl (by decide) 1 6 rfl rfl (fun hPc hDc hF => z_xrunV (As := [.int x0]) (rest := []) ⟨hx, hb, hml, hown, hg⟩ (cX11_checkTold_1 l hl9 K H.size a0 a1 g0 g1 x0 e0 e1) kV_RX11_76 hd_X11_checkTold rfl rfl ⟨(Nat.le_of_ble_eq_true rfl), (Nat.le_of_ble_eq_true rfl)⟩ hK hS hZ hPc hDc hF 0 rfl rfl rfl hl.1 rfl (Nat.le_of_ble_eq_true rfl) dX11_seq_2 ⟨(Nat.le_of_ble_eq_true rfl), (Nat.le_of_ble_eq_true rfl)⟩) (fun ce q9 H locs hS hce hcv hcl => ?_)
  exact z_xout hno hlocks hS hce hcv hcl (Nat.le_of_ble_eq_true rfl) (Nat.le_of_ble_eq_true rfl)
set_option maxHeartbeats 4000000 in
set_option maxRecDepth 100000 in
theorem cL_seq_1 (l : Launch) (hl9 : l.stackTraces = false) (K : zK) (sz : Nat) (a0 : Nat) (a1 : Nat) (a2 : Nat) (g0 : Nat → Value) (g2 : Nat → Value) (x0 : Int32) (x1 : Int32) (e0 : g0 0 = (.ref a2)) (e1 : x0 < (0 : Int32)) : vx_Met l yL_seq (Cond.codeWith yL_seq cL_seq 5 (some .int) [(0, 10, 13, 27), (0, 10, 17, 13)] :: WG) { frames := 8, cells := 1, slots := 6, locals := 125 } (zPre K [(a0, zO 9 9 g0), (a2, zO 7 6 g2)] sz [.ref a0, .int x0, .int x1, .ref a1]) (va_Qi (fun (r : Int32) (_ : Nat → Nat) => r = 1) (zB K (va_A [(a0, zO 9 9 g0), (a2, zO 7 6 g2)] sz) (fun u : Nat → Nat => [])) (va_A [(a0, zO 9 9 g0), (a2, zO 7 6 g2)] sz)) (vx_X (fun _ : Unit => False) (fun _ _ _ => True) (va_A [(a0, zO 9 9 g0), (a2, zO 7 6 g2)] sz)) 1 6 (va_A [(a0, zO 9 9 g0), (a2, zO 7 6 g2)] sz) := by
  refine z_hmet (Qc := fun A => (va_Qi (fun (r : Int32) (_ : Nat → Nat) => r = 1) (zB K A (fun u : Nat → Nat => [])) A)) (XC := fun A => vx_X (fun _ : Unit => False) (fun _ _ _ => True) A) (by decide +kernel) (Nat.le_of_ble_eq_true rfl) ?_
  intro p e s m args below meth c A ls H hx hb hr hg hown hlocks hml hTab hK hP hD hA hS hZ hl
  have hown : s.vm.findClass RL = some m.cls := hown
  have hl : lv_has ls 5 [(0, .ref a0), (1, .int x0), (2, .int x1), (3, .ref a1)] := hl
  refine lv_aload_n hx hb dL_seq_0 rfl (lv_at hl 3 rfl) ?_
  refine lv_iconst (v := 0) hx hb dL_seq_1 (by decide) ?_
  refine lv_aload_n hx hb dL_seq_2 rfl (lv_at hl 0 rfl) ?_
  refine lv_iload_n hx hb dL_seq_3 rfl (lv_at hl 1 rfl) ?_
  refine lv_iload_n hx hb dL_seq_4 rfl (lv_at hl 2 rfl) ?_
  refine z_xcall (EX := zIB) [(a0, zO 9 9 g0), (a2, zO 7 6 g2)] [0, 1] hP hD hS hA rfl (by decide) 1 6 rfl rfl (fun hPc hDc hF => z_xrunV (As := [.int x0, .int x1]) (rest := [.int 0, .ref a1]) ⟨hx, hb, hml, hown, hg⟩ (cX11_seq_1 l hl9 K H.size a0 a2 g0 g2 x0 x1 e0 e1) kV_RL_49 hd_X11_seq rfl rfl ⟨(Nat.le_of_ble_eq_true rfl), (Nat.le_of_ble_eq_true rfl)⟩ hK hS hZ hPc hDc hF 0 rfl rfl rfl hl.1 rfl (Nat.le_of_ble_eq_true rfl) dL_seq_5 ⟨(Nat.le_of_ble_eq_true rfl), (Nat.le_of_ble_eq_true rfl)⟩) (fun ce q9 H locs hS hce hcv hcl => ?_)
  refine vx_catch (own := RL) (name := zIB) (E := zIB) hown [] ⟨0, 10, 13, 27⟩ [⟨0, 10, 17, 13⟩] (by rw [hTab]; rfl) (fun z hz => nomatch hz) (by decide) (by decide) (hg _ mt526) (va_Nw.use rfl hZ.1.1.2.2.2.1) hce hcv hcl ?_
  have hP : va_P K.1 classes [] H := z_P0
  have hD : va_D A [] := z_D0
  refine lv_astore (lv' := [(4, .ref q9), (0, .ref a0), (1, .int x0), (2, .int x1), (3, .ref a1)]) hx hb dL_seq_13 hl (by decide) rfl (fun ls hl => ?_)
  refine lv_iconst (v := 1) hx hb dL_seq_15 (by decide) ?_
  have hP9 : va_P K.1 classes [] H := hP.sub [] rfl
  have hD9 : va_D A [] := hD.sub [] (by decide) rfl
  exact z_iret hx hb hr (fun _ => 0) rfl hP9 hD9 hS (Nat.le_of_ble_eq_true rfl) (Nat.le_of_ble_eq_true rfl) hlocks dL_seq_16
set_option maxHeartbeats 4000000 in
set_option maxRecDepth 100000 in
theorem cX12_seq_1 (l : Launch) (K : zK) (sz : Nat) (a0 : Nat) (g0 : Nat → Value) (x0 : Int32) (x1 : Int32) (e0 : g0 0 = (.int 0)) (e1 : x0 < (0 : Int32)) : Met l yX12_seq (Cond.code yX12_seq cX12_seq 3 (some .int) :: WG) { frames := 2, cells := 0, slots := 0, locals := 43 } (zPre K [(a0, zO 10 83 g0)] sz [.ref a0, .int x0, .int x1]) (va_Qi (fun (r : Int32) (_ : Nat → Nat) => r = 0) (zB K (va_A [(a0, zO 10 83 g0)] sz) (fun u : Nat → Nat => [(a0, zO 10 83 (va_up g0 81 (.int 1)))])) (va_A [(a0, zO 10 83 g0)] sz)) 0 0 (va_A [(a0, zO 10 83 g0)] sz) := by
  refine z_met (Qc := fun A => (va_Qi (fun (r : Int32) (_ : Nat → Nat) => r = 0) (zB K A (fun u : Nat → Nat => [(a0, zO 10 83 (va_up g0 81 (.int 1)))])) A)) (by decide +kernel) (Nat.le_of_ble_eq_true rfl) ?_
  intro p e s m args below meth c A ls H hx hb hr hg hown hlocks hml hin hK hP hD hA hS hZ hl
  have hown : s.vm.findClass RX12 = some m.cls := hown
  have hl : lv_has ls 3 [(0, .ref a0), (1, .int x0), (2, .int x1)] := hl
  refine lv_aload_n hx hb dX12_seq_0 rfl (lv_at hl 0 rfl) ?_
  refine lv_aload_n hx hb dX12_seq_1 rfl (lv_at hl 0 rfl) ?_
  refine lv_iload_n hx hb dX12_seq_2 rfl (lv_at hl 1 rfl) ?_
  refine z_calli [(a0, zO 10 83 g0)] [] [0] [] hP hD hS hA rfl rfl (by decide) (by decide) (by decide +kernel) 0 0 rfl rfl (fun hPc hDc hF => z_runV (As := [.int x0]) (rest := [.ref a0]) ⟨hx, hb, hml, hown, hg⟩ (cX12_isNode_1 l K H.size a0 g0 x0 e0 e1) kV_RX12_200 hd_X12_isNode rfl rfl ⟨(Nat.le_of_ble_eq_true rfl), (Nat.le_of_ble_eq_true rfl)⟩ hK hS hZ hPc hDc hF 0 rfl rfl rfl hl.1 rfl (Nat.le_of_ble_eq_true rfl) dX12_seq_3 ⟨(Nat.le_of_ble_eq_true rfl), (Nat.le_of_ble_eq_true rfl)⟩) (fun r3 u1 H locs w2 hP hD hS => ?_)
  subst w2
  have hP : va_P K.1 classes [(a0, zO 10 83 g0)] H := hP
  have hD : va_D A [(a0, zO 10 83 g0)] := hD
  refine lv_if_eq (tgt := 21) hx hb dX12_seq_6 (by decide) (fun _ => ?_) (fun c => absurd (by decide) c)
  refine lv_iconst (v := 0) hx hb dX12_seq_21 (by decide) ?_
  refine z_calli [(a0, zO 10 83 g0)] [] [0] [] hP hD hS hA rfl rfl (by decide) (by decide) (by decide +kernel) 0 0 rfl rfl (fun hPc hDc hF => z_runV (As := [.int 0]) (rest := []) ⟨hx, hb, hml, hown, hg⟩ (cX12_mayTellAlone_1 l K H.size a0 g0) kV_RX12_193 hd_X12_mayTellAlone rfl rfl ⟨(Nat.le_of_ble_eq_true rfl), (Nat.le_of_ble_eq_true rfl)⟩ hK hS hZ hPc hDc hF 0 rfl rfl rfl hl.1 rfl (Nat.le_of_ble_eq_true rfl) dX12_seq_22 ⟨(Nat.le_of_ble_eq_true rfl), (Nat.le_of_ble_eq_true rfl)⟩) (fun r6 u4 H locs w5 hP hD hS => ?_)
  subst w5
  have hP : va_P K.1 classes [(a0, zO 10 83 (va_up g0 81 (.int 1)))] H := hP
  have hD : va_D A [(a0, zO 10 83 (va_up g0 81 (.int 1)))] := hD
  refine lv_if_eq (tgt := 42) hx hb dX12_seq_25 (by decide) (fun _ => ?_) (fun c => absurd (by decide) c)
  refine lv_iconst (v := 0) hx hb dX12_seq_42 (by decide) ?_
  have hP9 : va_P K.1 classes [(a0, zO 10 83 (va_up g0 81 (.int 1)))] H := hP.sub [0] rfl
  have hD9 : va_D A [(a0, zO 10 83 (va_up g0 81 (.int 1)))] := hD.sub [0] (by decide) rfl
  exact z_iret hx hb hr (fun _ => 0) rfl hP9 hD9 hS (Nat.le_of_ble_eq_true rfl) (Nat.le_of_ble_eq_true rfl) hlocks dX12_seq_43
set_option maxHeartbeats 4000000 in
set_option maxRecDepth 100000 in
theorem cX11_seq_2 (l : Launch) (hl9 : l.stackTraces = false) (K : zK) (sz : Nat) (a0 : Nat) (a1 : Nat) (g0 : Nat → Value) (g1 : Nat → Value) (x0 : Int32) (x1 : Int32) (e0 : g0 0 = (.ref a1)) (e1 : ¬ x0 < (0 : Int32)) (e2 : g1 5 = (.int 0)) (e3 : (0 : Int32) ≤ x0) : vx_Met l yX11_seq (Cond.code yX11_seq cX11_seq 3 (some .int) :: WG) { frames := 7, cells := 1, slots := 6, locals := 103 } (zPre K [(a0, zO 9 9 g0), (a1, zO 7 6 g1)] sz [.ref a0, .int x0, .int x1]) (va_Qv (fun _ : Unit => False) (fun _ _ => True) (va_A [(a0, zO 9 9 g0), (a1, zO 7 6 g1)] sz)) (zX (va_A [(a0, zO 9 9 g0), (a1, zO 7 6 g1)] sz) zIB) 1 6 (va_A [(a0, zO 9 9 g0), (a1, zO 7 6 g1)] sz) := by
  refine z_xmet (Qc := fun A => va_Qv (fun _ : Unit => False) (fun _ _ => True) A) (XC := fun A => zX A zIB) (by decide +kernel) (Nat.le_of_ble_eq_true rfl) ?_
  intro p e s m args below meth c A ls H hx hb hr hg hown hlocks hml hno hK hP hD hA hS hZ hl
  have hown : s.vm.findClass RX11 = some m.cls := hown
  have hl : lv_has ls 3 [(0, .ref a0), (1, .int x0), (2, .int x1)] := hl
  refine lv_aload_n hx hb dX11_seq_0 rfl (lv_at hl 0 rfl) ?_
  refine lv_iload_n hx hb dX11_seq_1 rfl (lv_at hl 1 rfl) ?_
  refine z_xcall (EX := zIB) [(a0, zO 9 9 g0), (a1, zO 7 6 g1)] [0, 1] hP hD hS hA rfl (by decide) 1 6 rfl rfl (fun hPc hDc hF => z_xrunV (As := [.int x0]) (rest := []) ⟨hx, hb, hml, hown, hg⟩ (cX11_checkTold_2 l hl9 K H.size a0 a1 g0 g1 x0 e0 e1 e2 e3) kV_RX11_76 hd_X11_checkTold rfl rfl ⟨(Nat.le_of_ble_eq_true rfl), (Nat.le_of_ble_eq_true rfl)⟩ hK hS hZ hPc hDc hF 0 rfl rfl rfl hl.1 rfl (Nat.le_of_ble_eq_true rfl) dX11_seq_2 ⟨(Nat.le_of_ble_eq_true rfl), (Nat.le_of_ble_eq_true rfl)⟩) (fun ce q9 H locs hS hce hcv hcl => ?_)
  exact z_xout hno hlocks hS hce hcv hcl (Nat.le_of_ble_eq_true rfl) (Nat.le_of_ble_eq_true rfl)
set_option maxHeartbeats 4000000 in
set_option maxRecDepth 100000 in
theorem cL_seq_2 (l : Launch) (hl9 : l.stackTraces = false) (K : zK) (sz : Nat) (a0 : Nat) (a1 : Nat) (a2 : Nat) (g0 : Nat → Value) (g2 : Nat → Value) (x0 : Int32) (x1 : Int32) (e0 : g0 0 = (.ref a2)) (e1 : ¬ x0 < (0 : Int32)) (e2 : g2 5 = (.int 0)) (e3 : (0 : Int32) ≤ x0) : vx_Met l yL_seq (Cond.codeWith yL_seq cL_seq 5 (some .int) [(0, 10, 13, 27), (0, 10, 17, 13)] :: WG) { frames := 8, cells := 1, slots := 6, locals := 125 } (zPre K [(a0, zO 9 9 g0), (a2, zO 7 6 g2)] sz [.ref a0, .int x0, .int x1, .ref a1]) (va_Qi (fun (r : Int32) (_ : Nat → Nat) => r = 1) (zB K (va_A [(a0, zO 9 9 g0), (a2, zO 7 6 g2)] sz) (fun u : Nat → Nat => [])) (va_A [(a0, zO 9 9 g0), (a2, zO 7 6 g2)] sz)) (vx_X (fun _ : Unit => False) (fun _ _ _ => True) (va_A [(a0, zO 9 9 g0), (a2, zO 7 6 g2)] sz)) 1 6 (va_A [(a0, zO 9 9 g0), (a2, zO 7 6 g2)] sz) := by
  refine z_hmet (Qc := fun A => (va_Qi (fun (r : Int32) (_ : Nat → Nat) => r = 1) (zB K A (fun u : Nat → Nat => [])) A)) (XC := fun A => vx_X (fun _ : Unit => False) (fun _ _ _ => True) A) (by decide +kernel) (Nat.le_of_ble_eq_true rfl) ?_
  intro p e s m args below meth c A ls H hx hb hr hg hown hlocks hml hTab hK hP hD hA hS hZ hl
  have hown : s.vm.findClass RL = some m.cls := hown
  have hl : lv_has ls 5 [(0, .ref a0), (1, .int x0), (2, .int x1), (3, .ref a1)] := hl
  refine lv_aload_n hx hb dL_seq_0 rfl (lv_at hl 3 rfl) ?_
  refine lv_iconst (v := 0) hx hb dL_seq_1 (by decide) ?_
  refine lv_aload_n hx hb dL_seq_2 rfl (lv_at hl 0 rfl) ?_
  refine lv_iload_n hx hb dL_seq_3 rfl (lv_at hl 1 rfl) ?_
  refine lv_iload_n hx hb dL_seq_4 rfl (lv_at hl 2 rfl) ?_
  refine z_xcall (EX := zIB) [(a0, zO 9 9 g0), (a2, zO 7 6 g2)] [0, 1] hP hD hS hA rfl (by decide) 1 6 rfl rfl (fun hPc hDc hF => z_xrunV (As := [.int x0, .int x1]) (rest := [.int 0, .ref a1]) ⟨hx, hb, hml, hown, hg⟩ (cX11_seq_2 l hl9 K H.size a0 a2 g0 g2 x0 x1 e0 e1 e2 e3) kV_RL_49 hd_X11_seq rfl rfl ⟨(Nat.le_of_ble_eq_true rfl), (Nat.le_of_ble_eq_true rfl)⟩ hK hS hZ hPc hDc hF 0 rfl rfl rfl hl.1 rfl (Nat.le_of_ble_eq_true rfl) dL_seq_5 ⟨(Nat.le_of_ble_eq_true rfl), (Nat.le_of_ble_eq_true rfl)⟩) (fun ce q9 H locs hS hce hcv hcl => ?_)
  refine vx_catch (own := RL) (name := zIB) (E := zIB) hown [] ⟨0, 10, 13, 27⟩ [⟨0, 10, 17, 13⟩] (by rw [hTab]; rfl) (fun z hz => nomatch hz) (by decide) (by decide) (hg _ mt526) (va_Nw.use rfl hZ.1.1.2.2.2.1) hce hcv hcl ?_
  have hP : va_P K.1 classes [] H := z_P0
  have hD : va_D A [] := z_D0
  refine lv_astore (lv' := [(4, .ref q9), (0, .ref a0), (1, .int x0), (2, .int x1), (3, .ref a1)]) hx hb dL_seq_13 hl (by decide) rfl (fun ls hl => ?_)
  refine lv_iconst (v := 1) hx hb dL_seq_15 (by decide) ?_
  have hP9 : va_P K.1 classes [] H := hP.sub [] rfl
  have hD9 : va_D A [] := hD.sub [] (by decide) rfl
  exact z_iret hx hb hr (fun _ => 0) rfl hP9 hD9 hS (Nat.le_of_ble_eq_true rfl) (Nat.le_of_ble_eq_true rfl) hlocks dL_seq_16
set_option maxHeartbeats 4000000 in
set_option maxRecDepth 100000 in
theorem cX12_seq_2 (l : Launch) (K : zK) (sz : Nat) (a0 : Nat) (g0 : Nat → Value) (x0 : Int32) (x1 : Int32) (e0 : g0 0 = (.int 0)) (e1 : ¬ x0 < (0 : Int32)) (e2 : (-1 : Int32) < x0) : Met l yX12_seq (Cond.code yX12_seq cX12_seq 3 (some .int) :: WG) { frames := 2, cells := 0, slots := 0, locals := 43 } (zPre K [(a0, zO 10 83 g0)] sz [.ref a0, .int x0, .int x1]) (va_Qi (fun (r : Int32) (_ : Nat → Nat) => r = 0) (zB K (va_A [(a0, zO 10 83 g0)] sz) (fun u : Nat → Nat => [(a0, zO 10 83 (va_up g0 81 (.int 1)))])) (va_A [(a0, zO 10 83 g0)] sz)) 0 0 (va_A [(a0, zO 10 83 g0)] sz) := by
  refine z_met (Qc := fun A => (va_Qi (fun (r : Int32) (_ : Nat → Nat) => r = 0) (zB K A (fun u : Nat → Nat => [(a0, zO 10 83 (va_up g0 81 (.int 1)))])) A)) (by decide +kernel) (Nat.le_of_ble_eq_true rfl) ?_
  intro p e s m args below meth c A ls H hx hb hr hg hown hlocks hml hin hK hP hD hA hS hZ hl
  have hown : s.vm.findClass RX12 = some m.cls := hown
  have hl : lv_has ls 3 [(0, .ref a0), (1, .int x0), (2, .int x1)] := hl
  refine lv_aload_n hx hb dX12_seq_0 rfl (lv_at hl 0 rfl) ?_
  refine lv_aload_n hx hb dX12_seq_1 rfl (lv_at hl 0 rfl) ?_
  refine lv_iload_n hx hb dX12_seq_2 rfl (lv_at hl 1 rfl) ?_
  refine z_calli [(a0, zO 10 83 g0)] [] [0] [] hP hD hS hA rfl rfl (by decide) (by decide) (by decide +kernel) 0 0 rfl rfl (fun hPc hDc hF => z_runV (As := [.int x0]) (rest := [.ref a0]) ⟨hx, hb, hml, hown, hg⟩ (cX12_isNode_2 l K H.size a0 g0 x0 e0 e1 e2) kV_RX12_200 hd_X12_isNode rfl rfl ⟨(Nat.le_of_ble_eq_true rfl), (Nat.le_of_ble_eq_true rfl)⟩ hK hS hZ hPc hDc hF 0 rfl rfl rfl hl.1 rfl (Nat.le_of_ble_eq_true rfl) dX12_seq_3 ⟨(Nat.le_of_ble_eq_true rfl), (Nat.le_of_ble_eq_true rfl)⟩) (fun r3 u1 H locs w2 hP hD hS => ?_)
  subst w2
  have hP : va_P K.1 classes [(a0, zO 10 83 g0)] H := hP
  have hD : va_D A [(a0, zO 10 83 g0)] := hD
  refine lv_if_eq (tgt := 21) hx hb dX12_seq_6 (by decide) (fun _ => ?_) (fun c => absurd (by decide) c)
  refine lv_iconst (v := 0) hx hb dX12_seq_21 (by decide) ?_
  refine z_calli [(a0, zO 10 83 g0)] [] [0] [] hP hD hS hA rfl rfl (by decide) (by decide) (by decide +kernel) 0 0 rfl rfl (fun hPc hDc hF => z_runV (As := [.int 0]) (rest := []) ⟨hx, hb, hml, hown, hg⟩ (cX12_mayTellAlone_1 l K H.size a0 g0) kV_RX12_193 hd_X12_mayTellAlone rfl rfl ⟨(Nat.le_of_ble_eq_true rfl), (Nat.le_of_ble_eq_true rfl)⟩ hK hS hZ hPc hDc hF 0 rfl rfl rfl hl.1 rfl (Nat.le_of_ble_eq_true rfl) dX12_seq_22 ⟨(Nat.le_of_ble_eq_true rfl), (Nat.le_of_ble_eq_true rfl)⟩) (fun r6 u4 H locs w5 hP hD hS => ?_)
  subst w5
  have hP : va_P K.1 classes [(a0, zO 10 83 (va_up g0 81 (.int 1)))] H := hP
  have hD : va_D A [(a0, zO 10 83 (va_up g0 81 (.int 1)))] := hD
  refine lv_if_eq (tgt := 42) hx hb dX12_seq_25 (by decide) (fun _ => ?_) (fun c => absurd (by decide) c)
  refine lv_iconst (v := 0) hx hb dX12_seq_42 (by decide) ?_
  have hP9 : va_P K.1 classes [(a0, zO 10 83 (va_up g0 81 (.int 1)))] H := hP.sub [0] rfl
  have hD9 : va_D A [(a0, zO 10 83 (va_up g0 81 (.int 1)))] := hD.sub [0] (by decide) rfl
  exact z_iret hx hb hr (fun _ => 0) rfl hP9 hD9 hS (Nat.le_of_ble_eq_true rfl) (Nat.le_of_ble_eq_true rfl) hlocks dX12_seq_43
set_option maxHeartbeats 4000000 in
set_option maxRecDepth 100000 in
theorem cX11_raise_1 (l : Launch) (hl9 : l.stackTraces = false) (K : zK) (sz : Nat) (a0 : Nat) (a1 : Nat) (g0 : Nat → Value) (g1 : Nat → Value) (x0 : Int32) (e0 : g0 0 = (.ref a1)) (e1 : x0 < (0 : Int32)) : vx_Met l yX11_raise (Cond.code yX11_raise cX11_raise 2 (some .int) :: WG) { frames := 7, cells := 1, slots := 6, locals := 103 } (zPre K [(a0, zO 9 9 g0), (a1, zO 7 6 g1)] sz [.ref a0, .int x0]) (va_Qv (fun _ : Unit => False) (fun _ _ => True) (va_A [(a0, zO 9 9 g0), (a1, zO 7 6 g1)] sz)) (zX (va_A [(a0, zO 9 9 g0), (a1, zO 7 6 g1)] sz) zIB) 1 6 (va_A [(a0, zO 9 9 g0), (a1, zO 7 6 g1)] sz) := by
  refine z_xmet (Qc := fun A => va_Qv (fun _ : Unit => False) (fun _ _ => True) A) (XC := fun A => zX A zIB) (by decide +kernel) (Nat.le_of_ble_eq_true rfl) ?_
  intro p e s m args below meth c A ls H hx hb hr hg hown hlocks hml hno hK hP hD hA hS hZ hl
  have hown : s.vm.findClass RX11 = some m.cls := hown
  have hl : lv_has ls 2 [(0, .ref a0), (1, .int x0)] := hl
  refine lv_aload_n hx hb dX11_raise_0 rfl (lv_at hl 0 rfl) ?_
  refine lv_iload_n hx hb dX11_raise_1 rfl (lv_at hl 1 rfl) ?_
  refine z_xcall (EX := zIB) [(a0, zO 9 9 g0), (a1, zO 7 6 g1)] [0, 1] hP hD hS hA rfl (by decide) 1 6 rfl rfl (fun hPc hDc hF => z_xrunV (As := [.int x0]) (rest := []) ⟨hx, hb, hml, hown, hg⟩ (cX11_checkTold_1 l hl9 K H.size a0 a1 g0 g1 x0 e0 e1) kV_RX11_76 hd_X11_checkTold rfl rfl ⟨(Nat.le_of_ble_eq_true rfl), (Nat.le_of_ble_eq_true rfl)⟩ hK hS hZ hPc hDc hF 0 rfl rfl rfl hl.1 rfl (Nat.le_of_ble_eq_true rfl) dX11_raise_2 ⟨(Nat.le_of_ble_eq_true rfl), (Nat.le_of_ble_eq_true rfl)⟩) (fun ce q9 H locs hS hce hcv hcl => ?_)
  exact z_xout hno hlocks hS hce hcv hcl (Nat.le_of_ble_eq_true rfl) (Nat.le_of_ble_eq_true rfl)
set_option maxHeartbeats 4000000 in
set_option maxRecDepth 100000 in
theorem cL_raise_1 (l : Launch) (hl9 : l.stackTraces = false) (K : zK) (sz : Nat) (a0 : Nat) (a1 : Nat) (a2 : Nat) (g0 : Nat → Value) (g2 : Nat → Value) (x0 : Int32) (e0 : g0 0 = (.ref a2)) (e1 : x0 < (0 : Int32)) : vx_Met l yL_raise (Cond.codeWith yL_raise cL_raise 4 (some .int) [(0, 9, 12, 27), (0, 9, 15, 13)] :: WG) { frames := 8, cells := 1, slots := 6, locals := 124 } (zPre K [(a0, zO 9 9 g0), (a2, zO 7 6 g2)] sz [.ref a0, .int x0, .ref a1]) (va_Qi (fun (r : Int32) (_ : Nat → Nat) => r = 1) (zB K (va_A [(a0, zO 9 9 g0), (a2, zO 7 6 g2)] sz) (fun u : Nat → Nat => [])) (va_A [(a0, zO 9 9 g0), (a2, zO 7 6 g2)] sz)) (vx_X (fun _ : Unit => False) (fun _ _ _ => True) (va_A [(a0, zO 9 9 g0), (a2, zO 7 6 g2)] sz)) 1 6 (va_A [(a0, zO 9 9 g0), (a2, zO 7 6 g2)] sz) := by
  refine z_hmet (Qc := fun A => (va_Qi (fun (r : Int32) (_ : Nat → Nat) => r = 1) (zB K A (fun u : Nat → Nat => [])) A)) (XC := fun A => vx_X (fun _ : Unit => False) (fun _ _ _ => True) A) (by decide +kernel) (Nat.le_of_ble_eq_true rfl) ?_
  intro p e s m args below meth c A ls H hx hb hr hg hown hlocks hml hTab hK hP hD hA hS hZ hl
  have hown : s.vm.findClass RL = some m.cls := hown
  have hl : lv_has ls 4 [(0, .ref a0), (1, .int x0), (2, .ref a1)] := hl
  refine lv_aload_n hx hb dL_raise_0 rfl (lv_at hl 2 rfl) ?_
  refine lv_iconst (v := 0) hx hb dL_raise_1 (by decide) ?_
  refine lv_aload_n hx hb dL_raise_2 rfl (lv_at hl 0 rfl) ?_
  refine lv_iload_n hx hb dL_raise_3 rfl (lv_at hl 1 rfl) ?_
  refine z_xcall (EX := zIB) [(a0, zO 9 9 g0), (a2, zO 7 6 g2)] [0, 1] hP hD hS hA rfl (by decide) 1 6 rfl rfl (fun hPc hDc hF => z_xrunV (As := [.int x0]) (rest := [.int 0, .ref a1]) ⟨hx, hb, hml, hown, hg⟩ (cX11_raise_1 l hl9 K H.size a0 a2 g0 g2 x0 e0 e1) kV_RL_52 hd_X11_raise rfl rfl ⟨(Nat.le_of_ble_eq_true rfl), (Nat.le_of_ble_eq_true rfl)⟩ hK hS hZ hPc hDc hF 0 rfl rfl rfl hl.1 rfl (Nat.le_of_ble_eq_true rfl) dL_raise_4 ⟨(Nat.le_of_ble_eq_true rfl), (Nat.le_of_ble_eq_true rfl)⟩) (fun ce q9 H locs hS hce hcv hcl => ?_)
  refine vx_catch (own := RL) (name := zIB) (E := zIB) hown [] ⟨0, 9, 12, 27⟩ [⟨0, 9, 15, 13⟩] (by rw [hTab]; rfl) (fun z hz => nomatch hz) (by decide) (by decide) (hg _ mt526) (va_Nw.use rfl hZ.1.1.2.2.2.1) hce hcv hcl ?_
  have hP : va_P K.1 classes [] H := z_P0
  have hD : va_D A [] := z_D0
  refine lv_astore_n (lv' := [(3, .ref q9), (0, .ref a0), (1, .int x0), (2, .ref a1)]) hx hb dL_raise_12 rfl hl (by decide) rfl (fun ls hl => ?_)
  refine lv_iconst (v := 1) hx hb dL_raise_13 (by decide) ?_
  have hP9 : va_P K.1 classes [] H := hP.sub [] rfl
  have hD9 : va_D A [] := hD.sub [] (by decide) rfl
  exact z_iret hx hb hr (fun _ => 0) rfl hP9 hD9 hS (Nat.le_of_ble_eq_true rfl) (Nat.le_of_ble_eq_true rfl) hlocks dL_raise_14
set_option maxHeartbeats 4000000 in
set_option maxRecDepth 100000 in
theorem cX12_raise_1 (l : Launch) (K : zK) (sz : Nat) (a0 : Nat) (g0 : Nat → Value) (x0 : Int32) (e0 : g0 0 = (.int 0)) (e1 : x0 < (0 : Int32)) : Met l yX12_raise (Cond.code yX12_raise cX12_raise 2 (some .int) :: WG) { frames := 2, cells := 0, slots := 0, locals := 43 } (zPre K [(a0, zO 10 83 g0)] sz [.ref a0, .int x0]) (va_Qi (fun (r : Int32) (_ : Nat → Nat) => r = 0) (zB K (va_A [(a0, zO 10 83 g0)] sz) (fun u : Nat → Nat => [(a0, zO 10 83 (va_up g0 81 (.int 1)))])) (va_A [(a0, zO 10 83 g0)] sz)) 0 0 (va_A [(a0, zO 10 83 g0)] sz) := by
  refine z_met (Qc := fun A => (va_Qi (fun (r : Int32) (_ : Nat → Nat) => r = 0) (zB K A (fun u : Nat → Nat => [(a0, zO 10 83 (va_up g0 81 (.int 1)))])) A)) (by decide +kernel) (Nat.le_of_ble_eq_true rfl) ?_
  intro p e s m args below meth c A ls H hx hb hr hg hown hlocks hml hin hK hP hD hA hS hZ hl
  have hown : s.vm.findClass RX12 = some m.cls := hown
  have hl : lv_has ls 2 [(0, .ref a0), (1, .int x0)] := hl
  refine lv_aload_n hx hb dX12_raise_0 rfl (lv_at hl 0 rfl) ?_
  refine lv_aload_n hx hb dX12_raise_1 rfl (lv_at hl 0 rfl) ?_
  refine lv_iload_n hx hb dX12_raise_2 rfl (lv_at hl 1 rfl) ?_
  refine z_calli [(a0, zO 10 83 g0)] [] [0] [] hP hD hS hA rfl rfl (by decide) (by decide) (by decide +kernel) 0 0 rfl rfl (fun hPc hDc hF => z_runV (As := [.int x0]) (rest := [.ref a0]) ⟨hx, hb, hml, hown, hg⟩ (cX12_isNode_1 l K H.size a0 g0 x0 e0 e1) kV_RX12_200 hd_X12_isNode rfl rfl ⟨(Nat.le_of_ble_eq_true rfl), (Nat.le_of_ble_eq_true rfl)⟩ hK hS hZ hPc hDc hF 0 rfl rfl rfl hl.1 rfl (Nat.le_of_ble_eq_true rfl) dX12_raise_3 ⟨(Nat.le_of_ble_eq_true rfl), (Nat.le_of_ble_eq_true rfl)⟩) (fun r3 u1 H locs w2 hP hD hS => ?_)
  subst w2
  have hP : va_P K.1 classes [(a0, zO 10 83 g0)] H := hP
  have hD : va_D A [(a0, zO 10 83 g0)] := hD
  refine z_calli [(a0, zO 10 83 g0)] [] [0] [] hP hD hS hA rfl rfl (by decide) (by decide) (by decide +kernel) 0 0 rfl rfl (fun hPc hDc hF => z_runV (As := [.int 0]) (rest := []) ⟨hx, hb, hml, hown, hg⟩ (cX12_mayTellAlone_1 l K H.size a0 g0) kV_RX12_193 hd_X12_mayTellAlone rfl rfl ⟨(Nat.le_of_ble_eq_true rfl), (Nat.le_of_ble_eq_true rfl)⟩ hK hS hZ hPc hDc hF 0 rfl rfl rfl hl.1 rfl (Nat.le_of_ble_eq_true rfl) dX12_raise_6 ⟨(Nat.le_of_ble_eq_true rfl), (Nat.le_of_ble_eq_true rfl)⟩) (fun r6 u4 H locs w5 hP hD hS => ?_)
  subst w5
  have hP : va_P K.1 classes [(a0, zO 10 83 (va_up g0 81 (.int 1)))] H := hP
  have hD : va_D A [(a0, zO 10 83 (va_up g0 81 (.int 1)))] := hD
  refine lv_if_eq (tgt := 26) hx hb dX12_raise_9 (by decide) (fun _ => ?_) (fun c => absurd (by decide) c)
  refine lv_iconst (v := 0) hx hb dX12_raise_26 (by decide) ?_
  have hP9 : va_P K.1 classes [(a0, zO 10 83 (va_up g0 81 (.int 1)))] H := hP.sub [0] rfl
  have hD9 : va_D A [(a0, zO 10 83 (va_up g0 81 (.int 1)))] := hD.sub [0] (by decide) rfl
  exact z_iret hx hb hr (fun _ => 0) rfl hP9 hD9 hS (Nat.le_of_ble_eq_true rfl) (Nat.le_of_ble_eq_true rfl) hlocks dX12_raise_27
set_option maxHeartbeats 4000000 in
set_option maxRecDepth 100000 in
theorem cX11_raise_2 (l : Launch) (hl9 : l.stackTraces = false) (K : zK) (sz : Nat) (a0 : Nat) (a1 : Nat) (g0 : Nat → Value) (g1 : Nat → Value) (x0 : Int32) (e0 : g0 0 = (.ref a1)) (e1 : ¬ x0 < (0 : Int32)) (e2 : g1 5 = (.int 0)) (e3 : (0 : Int32) ≤ x0) : vx_Met l yX11_raise (Cond.code yX11_raise cX11_raise 2 (some .int) :: WG) { frames := 7, cells := 1, slots := 6, locals := 103 } (zPre K [(a0, zO 9 9 g0), (a1, zO 7 6 g1)] sz [.ref a0, .int x0]) (va_Qv (fun _ : Unit => False) (fun _ _ => True) (va_A [(a0, zO 9 9 g0), (a1, zO 7 6 g1)] sz)) (zX (va_A [(a0, zO 9 9 g0), (a1, zO 7 6 g1)] sz) zIB) 1 6 (va_A [(a0, zO 9 9 g0), (a1, zO 7 6 g1)] sz) := by
  refine z_xmet (Qc := fun A => va_Qv (fun _ : Unit => False) (fun _ _ => True) A) (XC := fun A => zX A zIB) (by decide +kernel) (Nat.le_of_ble_eq_true rfl) ?_
  intro p e s m args below meth c A ls H hx hb hr hg hown hlocks hml hno hK hP hD hA hS hZ hl
  have hown : s.vm.findClass RX11 = some m.cls := hown
  have hl : lv_has ls 2 [(0, .ref a0), (1, .int x0)] := hl
  refine lv_aload_n hx hb dX11_raise_0 rfl (lv_at hl 0 rfl) ?_
  refine lv_iload_n hx hb dX11_raise_1 rfl (lv_at hl 1 rfl) ?_
  refine z_xcall (EX := zIB) [(a0, zO 9 9 g0), (a1, zO 7 6 g1)] [0, 1] hP hD hS hA rfl (by decide) 1 6 rfl rfl (fun hPc hDc hF => z_xrunV (As := [.int x0]) (rest := []) ⟨hx, hb, hml, hown, hg⟩ (cX11_checkTold_2 l hl9 K H.size a0 a1 g0 g1 x0 e0 e1 e2 e3) kV_RX11_76 hd_X11_checkTold rfl rfl ⟨(Nat.le_of_ble_eq_true rfl), (Nat.le_of_ble_eq_true rfl)⟩ hK hS hZ hPc hDc hF 0 rfl rfl rfl hl.1 rfl (Nat.le_of_ble_eq_true rfl) dX11_raise_2 ⟨(Nat.le_of_ble_eq_true rfl), (Nat.le_of_ble_eq_true rfl)⟩) (fun ce q9 H locs hS hce hcv hcl => ?_)
  exact z_xout hno hlocks hS hce hcv hcl (Nat.le_of_ble_eq_true rfl) (Nat.le_of_ble_eq_true rfl)
set_option maxHeartbeats 4000000 in
set_option maxRecDepth 100000 in
theorem cL_raise_2 (l : Launch) (hl9 : l.stackTraces = false) (K : zK) (sz : Nat) (a0 : Nat) (a1 : Nat) (a2 : Nat) (g0 : Nat → Value) (g2 : Nat → Value) (x0 : Int32) (e0 : g0 0 = (.ref a2)) (e1 : ¬ x0 < (0 : Int32)) (e2 : g2 5 = (.int 0)) (e3 : (0 : Int32) ≤ x0) : vx_Met l yL_raise (Cond.codeWith yL_raise cL_raise 4 (some .int) [(0, 9, 12, 27), (0, 9, 15, 13)] :: WG) { frames := 8, cells := 1, slots := 6, locals := 124 } (zPre K [(a0, zO 9 9 g0), (a2, zO 7 6 g2)] sz [.ref a0, .int x0, .ref a1]) (va_Qi (fun (r : Int32) (_ : Nat → Nat) => r = 1) (zB K (va_A [(a0, zO 9 9 g0), (a2, zO 7 6 g2)] sz) (fun u : Nat → Nat => [])) (va_A [(a0, zO 9 9 g0), (a2, zO 7 6 g2)] sz)) (vx_X (fun _ : Unit => False) (fun _ _ _ => True) (va_A [(a0, zO 9 9 g0), (a2, zO 7 6 g2)] sz)) 1 6 (va_A [(a0, zO 9 9 g0), (a2, zO 7 6 g2)] sz) := by
  refine z_hmet (Qc := fun A => (va_Qi (fun (r : Int32) (_ : Nat → Nat) => r = 1) (zB K A (fun u : Nat → Nat => [])) A)) (XC := fun A => vx_X (fun _ : Unit => False) (fun _ _ _ => True) A) (by decide +kernel) (Nat.le_of_ble_eq_true rfl) ?_
  intro p e s m args below meth c A ls H hx hb hr hg hown hlocks hml hTab hK hP hD hA hS hZ hl
  have hown : s.vm.findClass RL = some m.cls := hown
  have hl : lv_has ls 4 [(0, .ref a0), (1, .int x0), (2, .ref a1)] := hl
  refine lv_aload_n hx hb dL_raise_0 rfl (lv_at hl 2 rfl) ?_
  refine lv_iconst (v := 0) hx hb dL_raise_1 (by decide) ?_
  refine lv_aload_n hx hb dL_raise_2 rfl (lv_at hl 0 rfl) ?_
  refine lv_iload_n hx hb dL_raise_3 rfl (lv_at hl 1 rfl) ?_
  refine z_xcall (EX := zIB) [(a0, zO 9 9 g0), (a2, zO 7 6 g2)] [0, 1] hP hD hS hA rfl (by decide) 1 6 rfl rfl (fun hPc hDc hF => z_xrunV (As := [.int x0]) (rest := [.int 0, .ref a1]) ⟨hx, hb, hml, hown, hg⟩ (cX11_raise_2 l hl9 K H.size a0 a2 g0 g2 x0 e0 e1 e2 e3) kV_RL_52 hd_X11_raise rfl rfl ⟨(Nat.le_of_ble_eq_true rfl), (Nat.le_of_ble_eq_true rfl)⟩ hK hS hZ hPc hDc hF 0 rfl rfl rfl hl.1 rfl (Nat.le_of_ble_eq_true rfl) dL_raise_4 ⟨(Nat.le_of_ble_eq_true rfl), (Nat.le_of_ble_eq_true rfl)⟩) (fun ce q9 H locs hS hce hcv hcl => ?_)
  refine vx_catch (own := RL) (name := zIB) (E := zIB) hown [] ⟨0, 9, 12, 27⟩ [⟨0, 9, 15, 13⟩] (by rw [hTab]; rfl) (fun z hz => nomatch hz) (by decide) (by decide) (hg _ mt526) (va_Nw.use rfl hZ.1.1.2.2.2.1) hce hcv hcl ?_
  have hP : va_P K.1 classes [] H := z_P0
  have hD : va_D A [] := z_D0
  refine lv_astore_n (lv' := [(3, .ref q9), (0, .ref a0), (1, .int x0), (2, .ref a1)]) hx hb dL_raise_12 rfl hl (by decide) rfl (fun ls hl => ?_)
  refine lv_iconst (v := 1) hx hb dL_raise_13 (by decide) ?_
  have hP9 : va_P K.1 classes [] H := hP.sub [] rfl
  have hD9 : va_D A [] := hD.sub [] (by decide) rfl
  exact z_iret hx hb hr (fun _ => 0) rfl hP9 hD9 hS (Nat.le_of_ble_eq_true rfl) (Nat.le_of_ble_eq_true rfl) hlocks dL_raise_14
set_option maxHeartbeats 4000000 in
set_option maxRecDepth 100000 in
theorem cX12_raise_2 (l : Launch) (K : zK) (sz : Nat) (a0 : Nat) (g0 : Nat → Value) (x0 : Int32) (e0 : g0 0 = (.int 0)) (e1 : ¬ x0 < (0 : Int32)) (e2 : (-1 : Int32) < x0) : Met l yX12_raise (Cond.code yX12_raise cX12_raise 2 (some .int) :: WG) { frames := 2, cells := 0, slots := 0, locals := 43 } (zPre K [(a0, zO 10 83 g0)] sz [.ref a0, .int x0]) (va_Qi (fun (r : Int32) (_ : Nat → Nat) => r = 0) (zB K (va_A [(a0, zO 10 83 g0)] sz) (fun u : Nat → Nat => [(a0, zO 10 83 (va_up g0 81 (.int 1)))])) (va_A [(a0, zO 10 83 g0)] sz)) 0 0 (va_A [(a0, zO 10 83 g0)] sz) := by
  refine z_met (Qc := fun A => (va_Qi (fun (r : Int32) (_ : Nat → Nat) => r = 0) (zB K A (fun u : Nat → Nat => [(a0, zO 10 83 (va_up g0 81 (.int 1)))])) A)) (by decide +kernel) (Nat.le_of_ble_eq_true rfl) ?_
  intro p e s m args below meth c A ls H hx hb hr hg hown hlocks hml hin hK hP hD hA hS hZ hl
  have hown : s.vm.findClass RX12 = some m.cls := hown
  have hl : lv_has ls 2 [(0, .ref a0), (1, .int x0)] := hl
  refine lv_aload_n hx hb dX12_raise_0 rfl (lv_at hl 0 rfl) ?_
  refine lv_aload_n hx hb dX12_raise_1 rfl (lv_at hl 0 rfl) ?_
  refine lv_iload_n hx hb dX12_raise_2 rfl (lv_at hl 1 rfl) ?_
  refine z_calli [(a0, zO 10 83 g0)] [] [0] [] hP hD hS hA rfl rfl (by decide) (by decide) (by decide +kernel) 0 0 rfl rfl (fun hPc hDc hF => z_runV (As := [.int x0]) (rest := [.ref a0]) ⟨hx, hb, hml, hown, hg⟩ (cX12_isNode_2 l K H.size a0 g0 x0 e0 e1 e2) kV_RX12_200 hd_X12_isNode rfl rfl ⟨(Nat.le_of_ble_eq_true rfl), (Nat.le_of_ble_eq_true rfl)⟩ hK hS hZ hPc hDc hF 0 rfl rfl rfl hl.1 rfl (Nat.le_of_ble_eq_true rfl) dX12_raise_3 ⟨(Nat.le_of_ble_eq_true rfl), (Nat.le_of_ble_eq_true rfl)⟩) (fun r3 u1 H locs w2 hP hD hS => ?_)
  subst w2
  have hP : va_P K.1 classes [(a0, zO 10 83 g0)] H := hP
  have hD : va_D A [(a0, zO 10 83 g0)] := hD
  refine z_calli [(a0, zO 10 83 g0)] [] [0] [] hP hD hS hA rfl rfl (by decide) (by decide) (by decide +kernel) 0 0 rfl rfl (fun hPc hDc hF => z_runV (As := [.int 0]) (rest := []) ⟨hx, hb, hml, hown, hg⟩ (cX12_mayTellAlone_1 l K H.size a0 g0) kV_RX12_193 hd_X12_mayTellAlone rfl rfl ⟨(Nat.le_of_ble_eq_true rfl), (Nat.le_of_ble_eq_true rfl)⟩ hK hS hZ hPc hDc hF 0 rfl rfl rfl hl.1 rfl (Nat.le_of_ble_eq_true rfl) dX12_raise_6 ⟨(Nat.le_of_ble_eq_true rfl), (Nat.le_of_ble_eq_true rfl)⟩) (fun r6 u4 H locs w5 hP hD hS => ?_)
  subst w5
  have hP : va_P K.1 classes [(a0, zO 10 83 (va_up g0 81 (.int 1)))] H := hP
  have hD : va_D A [(a0, zO 10 83 (va_up g0 81 (.int 1)))] := hD
  refine lv_if_eq (tgt := 26) hx hb dX12_raise_9 (by decide) (fun _ => ?_) (fun c => absurd (by decide) c)
  refine lv_iconst (v := 0) hx hb dX12_raise_26 (by decide) ?_
  have hP9 : va_P K.1 classes [(a0, zO 10 83 (va_up g0 81 (.int 1)))] H := hP.sub [0] rfl
  have hD9 : va_D A [(a0, zO 10 83 (va_up g0 81 (.int 1)))] := hD.sub [0] (by decide) rfl
  exact z_iret hx hb hr (fun _ => 0) rfl hP9 hD9 hS (Nat.le_of_ble_eq_true rfl) (Nat.le_of_ble_eq_true rfl) hlocks dX12_raise_27
set_option maxHeartbeats 4000000 in
set_option maxRecDepth 100000 in
theorem cX11_hold_1 (l : Launch) (hl9 : l.stackTraces = false) (K : zK) (sz : Nat) (a0 : Nat) (a1 : Nat) (g0 : Nat → Value) (g1 : Nat → Value) (x0 : Int32) (x1 : Int32) (x2 : Int32) (e0 : g0 0 = (.ref a1)) (e1 : x0 < (0 : Int32)) : vx_Met l yX11_hold (Cond.code yX11_hold cX11_hold 4 (some .int) :: WG) { frames := 7, cells := 1, slots := 6, locals := 103 } (zPre K [(a0, zO 9 9 g0), (a1, zO 7 6 g1)] sz [.ref a0, .int x0, .int x1, .int x2]) (va_Qv (fun _ : Unit => False) (fun _ _ => True) (va_A [(a0, zO 9 9 g0), (a1, zO 7 6 g1)] sz)) (zX (va_A [(a0, zO 9 9 g0), (a1, zO 7 6 g1)] sz) zIB) 1 6 (va_A [(a0, zO 9 9 g0), (a1, zO 7 6 g1)] sz) := by
  refine z_xmet (Qc := fun A => va_Qv (fun _ : Unit => False) (fun _ _ => True) A) (XC := fun A => zX A zIB) (by decide +kernel) (Nat.le_of_ble_eq_true rfl) ?_
  intro p e s m args below meth c A ls H hx hb hr hg hown hlocks hml hno hK hP hD hA hS hZ hl
  have hown : s.vm.findClass RX11 = some m.cls := hown
  have hl : lv_has ls 4 [(0, .ref a0), (1, .int x0), (2, .int x1), (3, .int x2)] := hl
  refine lv_aload_n hx hb dX11_hold_0 rfl (lv_at hl 0 rfl) ?_
  refine lv_iload_n hx hb dX11_hold_1 rfl (lv_at hl 1 rfl) ?_
  refine z_xcall (EX := zIB) [(a0, zO 9 9 g0), (a1, zO 7 6 g1)] [0, 1] hP hD hS hA rfl (by decide) 1 6 rfl rfl (fun hPc hDc hF => z_xrunV (As := [.int x0]) (rest := []) ⟨hx, hb, hml, hown, hg⟩ (cX11_checkTold_1 l hl9 K H.size a0 a1 g0 g1 x0 e0 e1) kV_RX11_76 hd_X11_checkTold rfl rfl ⟨(Nat.le_of_ble_eq_true rfl), (Nat.le_of_ble_eq_true rfl)⟩ hK hS hZ hPc hDc hF 0 rfl rfl rfl hl.1 rfl (Nat.le_of_ble_eq_true rfl) dX11_hold_2 ⟨(Nat.le_of_ble_eq_true rfl), (Nat.le_of_ble_eq_true rfl)⟩) (fun ce q9 H locs hS hce hcv hcl => ?_)
  exact z_xout hno hlocks hS hce hcv hcl (Nat.le_of_ble_eq_true rfl) (Nat.le_of_ble_eq_true rfl)
set_option maxHeartbeats 4000000 in
set_option maxRecDepth 100000 in
theorem cL_hold_1 (l : Launch) (hl9 : l.stackTraces = false) (K : zK) (sz : Nat) (a0 : Nat) (a1 : Nat) (a2 : Nat) (g0 : Nat → Value) (g2 : Nat → Value) (x0 : Int32) (x1 : Int32) (x2 : Int32) (e0 : g0 0 = (.ref a2)) (e1 : x0 < (0 : Int32)) : vx_Met l yL_hold (Cond.codeWith yL_hold cL_hold 6 (some .int) [(0, 12, 15, 27), (0, 12, 19, 18), (0, 12, 23, 13)] :: WG) { frames := 8, cells := 1, slots := 6, locals := 126 } (zPre K [(a0, zO 9 9 g0), (a2, zO 7 6 g2)] sz [.ref a0, .int x0, .int x1, .int x2, .ref a1]) (va_Qi (fun (r : Int32) (_ : Nat → Nat) => r = 1) (zB K (va_A [(a0, zO 9 9 g0), (a2, zO 7 6 g2)] sz) (fun u : Nat → Nat => [])) (va_A [(a0, zO 9 9 g0), (a2, zO 7 6 g2)] sz)) (vx_X (fun _ : Unit => False) (fun _ _ _ => True) (va_A [(a0, zO 9 9 g0), (a2, zO 7 6 g2)] sz)) 1 6 (va_A [(a0, zO 9 9 g0), (a2, zO 7 6 g2)] sz) := by
  refine z_hmet (Qc := fun A => (va_Qi (fun (r : Int32) (_ : Nat → Nat) => r = 1) (zB K A (fun u : Nat → Nat => [])) A)) (XC := fun A => vx_X (fun _ : Unit => False) (fun _ _ _ => True) A) (by decide +kernel) (Nat.le_of_ble_eq_true rfl) ?_
  intro p e s m args below meth c A ls H hx hb hr hg hown hlocks hml hTab hK hP hD hA hS hZ hl
  have hown : s.vm.findClass RL = some m.cls := hown
  have hl : lv_has ls 6 [(0, .ref a0), (1, .int x0), (2, .int x1), (3, .int x2), (4, .ref a1)] := hl
  refine lv_aload hx hb dL_hold_0 (lv_at hl 4 rfl) ?_
  refine lv_iconst (v := 0) hx hb dL_hold_2 (by decide) ?_
  refine lv_aload_n hx hb dL_hold_3 rfl (lv_at hl 0 rfl) ?_
  refine lv_iload_n hx hb dL_hold_4 rfl (lv_at hl 1 rfl) ?_
  refine lv_iload_n hx hb dL_hold_5 rfl (lv_at hl 2 rfl) ?_
  refine lv_iload_n hx hb dL_hold_6 rfl (lv_at hl 3 rfl) ?_
  refine z_xcall (EX := zIB) [(a0, zO 9 9 g0), (a2, zO 7 6 g2)] [0, 1] hP hD hS hA rfl (by decide) 1 6 rfl rfl (fun hPc hDc hF => z_xrunV (As := [.int x0, .int x1, .int x2]) (rest := [.int 0, .ref a1]) ⟨hx, hb, hml, hown, hg⟩ (cX11_hold_1 l hl9 K H.size a0 a2 g0 g2 x0 x1 x2 e0 e1) kV_RL_55 hd_X11_hold rfl rfl ⟨(Nat.le_of_ble_eq_true rfl), (Nat.le_of_ble_eq_true rfl)⟩ hK hS hZ hPc hDc hF 0 rfl rfl rfl hl.1 rfl (Nat.le_of_ble_eq_true rfl) dL_hold_7 ⟨(Nat.le_of_ble_eq_true rfl), (Nat.le_of_ble_eq_true rfl)⟩) (fun ce q9 H locs hS hce hcv hcl => ?_)
  refine vx_catch (own := RL) (name := zIB) (E := zIB) hown [] ⟨0, 12, 15, 27⟩ [⟨0, 12, 19, 18⟩, ⟨0, 12, 23, 13⟩] (by rw [hTab]; rfl) (fun z hz => nomatch hz) (by decide) (by decide) (hg _ mt526) (va_Nw.use rfl hZ.1.1.2.2.2.1) hce hcv hcl ?_
  have hP : va_P K.1 classes [] H := z_P0
  have hD : va_D A [] := z_D0
  refine lv_astore (lv' := [(5, .ref q9), (0, .ref a0), (1, .int x0), (2, .int x1), (3, .int x2), (4, .ref a1)]) hx hb dL_hold_15 hl (by decide) rfl (fun ls hl => ?_)
  refine lv_iconst (v := 1) hx hb dL_hold_17 (by decide) ?_
  have hP9 : va_P K.1 classes [] H := hP.sub [] rfl
  have hD9 : va_D A [] := hD.sub [] (by decide) rfl
  exact z_iret hx hb hr (fun _ => 0) rfl hP9 hD9 hS (Nat.le_of_ble_eq_true rfl) (Nat.le_of_ble_eq_true rfl) hlocks dL_hold_18
set_option maxHeartbeats 4000000 in
set_option maxRecDepth 100000 in
theorem cX12_hold_1 (l : Launch) (K : zK) (sz : Nat) (a0 : Nat) (g0 : Nat → Value) (x0 : Int32) (x1 : Int32) (x2 : Int32) (e0 : g0 0 = (.int 0)) (e1 : x0 < (0 : Int32)) (e2 : x1 < (0 : Int32)) : Met l yX12_hold (Cond.code yX12_hold cX12_hold 4 (some .int) :: WG) { frames := 2, cells := 0, slots := 0, locals := 43 } (zPre K [(a0, zO 10 83 g0)] sz [.ref a0, .int x0, .int x1, .int x2]) (va_Qi (fun (r : Int32) (_ : Nat → Nat) => r = 0) (zB K (va_A [(a0, zO 10 83 g0)] sz) (fun u : Nat → Nat => [(a0, zO 10 83 (va_up g0 81 (.int 1)))])) (va_A [(a0, zO 10 83 g0)] sz)) 0 0 (va_A [(a0, zO 10 83 g0)] sz) := by
  refine z_met (Qc := fun A => (va_Qi (fun (r : Int32) (_ : Nat → Nat) => r = 0) (zB K A (fun u : Nat → Nat => [(a0, zO 10 83 (va_up g0 81 (.int 1)))])) A)) (by decide +kernel) (Nat.le_of_ble_eq_true rfl) ?_
  intro p e s m args below meth c A ls H hx hb hr hg hown hlocks hml hin hK hP hD hA hS hZ hl
  have hown : s.vm.findClass RX12 = some m.cls := hown
  have hl : lv_has ls 4 [(0, .ref a0), (1, .int x0), (2, .int x1), (3, .int x2)] := hl
  refine lv_aload_n hx hb dX12_hold_0 rfl (lv_at hl 0 rfl) ?_
  refine lv_aload_n hx hb dX12_hold_1 rfl (lv_at hl 0 rfl) ?_
  refine lv_iload_n hx hb dX12_hold_2 rfl (lv_at hl 1 rfl) ?_
  refine z_calli [(a0, zO 10 83 g0)] [] [0] [] hP hD hS hA rfl rfl (by decide) (by decide) (by decide +kernel) 0 0 rfl rfl (fun hPc hDc hF => z_runV (As := [.int x0]) (rest := [.ref a0]) ⟨hx, hb, hml, hown, hg⟩ (cX12_isNode_1 l K H.size a0 g0 x0 e0 e1) kV_RX12_200 hd_X12_isNode rfl rfl ⟨(Nat.le_of_ble_eq_true rfl), (Nat.le_of_ble_eq_true rfl)⟩ hK hS hZ hPc hDc hF 0 rfl rfl rfl hl.1 rfl (Nat.le_of_ble_eq_true rfl) dX12_hold_3 ⟨(Nat.le_of_ble_eq_true rfl), (Nat.le_of_ble_eq_true rfl)⟩) (fun r3 u1 H locs w2 hP hD hS => ?_)
  subst w2
  have hP : va_P K.1 classes [(a0, zO 10 83 g0)] H := hP
  have hD : va_D A [(a0, zO 10 83 g0)] := hD
  refine lv_if_eq (tgt := 21) hx hb dX12_hold_6 (by decide) (fun _ => ?_) (fun c => absurd (by decide) c)
  refine lv_iconst (v := 0) hx hb dX12_hold_21 (by decide) ?_
  refine lv_iload_n hx hb dX12_hold_22 rfl (lv_at hl 2 rfl) ?_
  refine z_calli [] [(a0, zO 10 83 g0)] [] [0] hP hD hS hA rfl rfl (by decide) (by decide) (by decide +kernel) 0 0 rfl rfl (fun hPc hDc hF => z_runS (As := [.int x1]) (rest := [.int 0, .ref a0]) ⟨hx, hb, hml, hown, hg⟩ (cX12_isName_1 l K H.size x1 e2) kS_RX12_190 hd_X12_isName rfl rfl ⟨(Nat.le_of_ble_eq_true rfl), (Nat.le_of_ble_eq_true rfl)⟩ hK hS hZ hPc hDc hF rfl hl.1 rfl (Nat.le_of_ble_eq_true rfl) dX12_hold_23 ⟨(Nat.le_of_ble_eq_true rfl), (Nat.le_of_ble_eq_true rfl)⟩) (fun r6 u4 H locs w5 hP hD hS => ?_)
  subst w5
  have hP : va_P K.1 classes [(a0, zO 10 83 g0)] H := hP
  have hD : va_D A [(a0, zO 10 83 g0)] := hD
  refine z_calli [(a0, zO 10 83 g0)] [] [0] [] hP hD hS hA rfl rfl (by decide) (by decide) (by decide +kernel) 0 0 rfl rfl (fun hPc hDc hF => z_runV (As := [.int 0, .int 0]) (rest := []) ⟨hx, hb, hml, hown, hg⟩ (cX12_mayTell_1 l K H.size a0 g0) kV_RX12_203 hd_X12_mayTell rfl rfl ⟨(Nat.le_of_ble_eq_true rfl), (Nat.le_of_ble_eq_true rfl)⟩ hK hS hZ hPc hDc hF 0 rfl rfl rfl hl.1 rfl (Nat.le_of_ble_eq_true rfl) dX12_hold_26 ⟨(Nat.le_of_ble_eq_true rfl), (Nat.le_of_ble_eq_true rfl)⟩) (fun r9 u7 H locs w8 hP hD hS => ?_)
  subst w8
  have hP : va_P K.1 classes [(a0, zO 10 83 (va_up g0 81 (.int 1)))] H := hP
  have hD : va_D A [(a0, zO 10 83 (va_up g0 81 (.int 1)))] := hD
  refine lv_if_eq (tgt := 46) hx hb dX12_hold_29 (by decide) (fun _ => ?_) (fun c => absurd (by decide) c)
  refine lv_iconst (v := 0) hx hb dX12_hold_46 (by decide) ?_
  have hP9 : va_P K.1 classes [(a0, zO 10 83 (va_up g0 81 (.int 1)))] H := hP.sub [0] rfl
  have hD9 : va_D A [(a0, zO 10 83 (va_up g0 81 (.int 1)))] := hD.sub [0] (by decide) rfl
  exact z_iret hx hb hr (fun _ => 0) rfl hP9 hD9 hS (Nat.le_of_ble_eq_true rfl) (Nat.le_of_ble_eq_true rfl) hlocks dX12_hold_47
set_option maxHeartbeats 4000000 in
set_option maxRecDepth 100000 in
theorem cX11_hold_2 (l : Launch) (hl9 : l.stackTraces = false) (K : zK) (sz : Nat) (a0 : Nat) (a1 : Nat) (g0 : Nat → Value) (g1 : Nat → Value) (x0 : Int32) (j1 : Nat) (hj1 : j1 < 16) (x2 : Int32) (e0 : g0 0 = (.ref a1)) (e1 : x0 < (0 : Int32)) : vx_Met l yX11_hold (Cond.code yX11_hold cX11_hold 4 (some .int) :: WG) { frames := 7, cells := 1, slots := 6, locals := 103 } (zPre K [(a0, zO 9 9 g0), (a1, zO 7 6 g1)] sz [.ref a0, .int x0, .int (nI j1), .int x2]) (va_Qv (fun _ : Unit => False) (fun _ _ => True) (va_A [(a0, zO 9 9 g0), (a1, zO 7 6 g1)] sz)) (zX (va_A [(a0, zO 9 9 g0), (a1, zO 7 6 g1)] sz) zIB) 1 6 (va_A [(a0, zO 9 9 g0), (a1, zO 7 6 g1)] sz) := by
  refine z_xmet (Qc := fun A => va_Qv (fun _ : Unit => False) (fun _ _ => True) A) (XC := fun A => zX A zIB) (by decide +kernel) (Nat.le_of_ble_eq_true rfl) ?_
  intro p e s m args below meth c A ls H hx hb hr hg hown hlocks hml hno hK hP hD hA hS hZ hl
  have hown : s.vm.findClass RX11 = some m.cls := hown
  have hl : lv_has ls 4 [(0, .ref a0), (1, .int x0), (2, .int (nI j1)), (3, .int x2)] := hl
  refine lv_aload_n hx hb dX11_hold_0 rfl (lv_at hl 0 rfl) ?_
  refine lv_iload_n hx hb dX11_hold_1 rfl (lv_at hl 1 rfl) ?_
  refine z_xcall (EX := zIB) [(a0, zO 9 9 g0), (a1, zO 7 6 g1)] [0, 1] hP hD hS hA rfl (by decide) 1 6 rfl rfl (fun hPc hDc hF => z_xrunV (As := [.int x0]) (rest := []) ⟨hx, hb, hml, hown, hg⟩ (cX11_checkTold_1 l hl9 K H.size a0 a1 g0 g1 x0 e0 e1) kV_RX11_76 hd_X11_checkTold rfl rfl ⟨(Nat.le_of_ble_eq_true rfl), (Nat.le_of_ble_eq_true rfl)⟩ hK hS hZ hPc hDc hF 0 rfl rfl rfl hl.1 rfl (Nat.le_of_ble_eq_true rfl) dX11_hold_2 ⟨(Nat.le_of_ble_eq_true rfl), (Nat.le_of_ble_eq_true rfl)⟩) (fun ce q9 H locs hS hce hcv hcl => ?_)
  exact z_xout hno hlocks hS hce hcv hcl (Nat.le_of_ble_eq_true rfl) (Nat.le_of_ble_eq_true rfl)
set_option maxHeartbeats 4000000 in
set_option maxRecDepth 100000 in
theorem cL_hold_2 (l : Launch) (hl9 : l.stackTraces = false) (K : zK) (sz : Nat) (a0 : Nat) (a1 : Nat) (a2 : Nat) (g0 : Nat → Value) (g2 : Nat → Value) (x0 : Int32) (j1 : Nat) (hj1 : j1 < 16) (x2 : Int32) (e0 : g0 0 = (.ref a2)) (e1 : x0 < (0 : Int32)) : vx_Met l yL_hold (Cond.codeWith yL_hold cL_hold 6 (some .int) [(0, 12, 15, 27), (0, 12, 19, 18), (0, 12, 23, 13)] :: WG) { frames := 8, cells := 1, slots := 6, locals := 126 } (zPre K [(a0, zO 9 9 g0), (a2, zO 7 6 g2)] sz [.ref a0, .int x0, .int (nI j1), .int x2, .ref a1]) (va_Qi (fun (r : Int32) (_ : Nat → Nat) => r = 1) (zB K (va_A [(a0, zO 9 9 g0), (a2, zO 7 6 g2)] sz) (fun u : Nat → Nat => [])) (va_A [(a0, zO 9 9 g0), (a2, zO 7 6 g2)] sz)) (vx_X (fun _ : Unit => False) (fun _ _ _ => True) (va_A [(a0, zO 9 9 g0), (a2, zO 7 6 g2)] sz)) 1 6 (va_A [(a0, zO 9 9 g0), (a2, zO 7 6 g2)] sz) := by
  refine z_hmet (Qc := fun A => (va_Qi (fun (r : Int32) (_ : Nat → Nat) => r = 1) (zB K A (fun u : Nat → Nat => [])) A)) (XC := fun A => vx_X (fun _ : Unit => False) (fun _ _ _ => True) A) (by decide +kernel) (Nat.le_of_ble_eq_true rfl) ?_
  intro p e s m args below meth c A ls H hx hb hr hg hown hlocks hml hTab hK hP hD hA hS hZ hl
  have hown : s.vm.findClass RL = some m.cls := hown
  have hl : lv_has ls 6 [(0, .ref a0), (1, .int x0), (2, .int (nI j1)), (3, .int x2), (4, .ref a1)] := hl
  refine lv_aload hx hb dL_hold_0 (lv_at hl 4 rfl) ?_
  refine lv_iconst (v := 0) hx hb dL_hold_2 (by decide) ?_
  refine lv_aload_n hx hb dL_hold_3 rfl (lv_at hl 0 rfl) ?_
  refine lv_iload_n hx hb dL_hold_4 rfl (lv_at hl 1 rfl) ?_
  refine lv_iload_n hx hb dL_hold_5 rfl (lv_at hl 2 rfl) ?_
  refine lv_iload_n hx hb dL_hold_6 rfl (lv_at hl 3 rfl) ?_
  refine z_xcall (EX := zIB) [(a0, zO 9 9 g0), (a2, zO 7 6 g2)] [0, 1] hP hD hS hA rfl (by decide) 1 6 rfl rfl (fun hPc hDc hF => z_xrunV (As := [.int x0, .int (nI j1), .int x2]) (rest := [.int 0, .ref a1]) ⟨hx, hb, hml, hown, hg⟩ (cX11_hold_2 l hl9 K H.size a0 a2 g0 g2 x0 j1 hj1 x2 e0 e1) kV_RL_55 hd_X11_hold rfl rfl ⟨(Nat.le_of_ble_eq_true rfl), (Nat.le_of_ble_eq_true rfl)⟩ hK hS hZ hPc hDc hF 0 rfl rfl rfl hl.1 rfl (Nat.le_of_ble_eq_true rfl) dL_hold_7 ⟨(Nat.le_of_ble_eq_true rfl), (Nat.le_of_ble_eq_true rfl)⟩) (fun ce q9 H locs hS hce hcv hcl => ?_)
  refine vx_catch (own := RL) (name := zIB) (E := zIB) hown [] ⟨0, 12, 15, 27⟩ [⟨0, 12, 19, 18⟩, ⟨0, 12, 23, 13⟩] (by rw [hTab]; rfl) (fun z hz => nomatch hz) (by decide) (by decide) (hg _ mt526) (va_Nw.use rfl hZ.1.1.2.2.2.1) hce hcv hcl ?_
  have hP : va_P K.1 classes [] H := z_P0
  have hD : va_D A [] := z_D0
  refine lv_astore (lv' := [(5, .ref q9), (0, .ref a0), (1, .int x0), (2, .int (nI j1)), (3, .int x2), (4, .ref a1)]) hx hb dL_hold_15 hl (by decide) rfl (fun ls hl => ?_)
  refine lv_iconst (v := 1) hx hb dL_hold_17 (by decide) ?_
  have hP9 : va_P K.1 classes [] H := hP.sub [] rfl
  have hD9 : va_D A [] := hD.sub [] (by decide) rfl
  exact z_iret hx hb hr (fun _ => 0) rfl hP9 hD9 hS (Nat.le_of_ble_eq_true rfl) (Nat.le_of_ble_eq_true rfl) hlocks dL_hold_18
set_option maxHeartbeats 4000000 in
set_option maxRecDepth 100000 in
theorem cX12_hold_2 (l : Launch) (K : zK) (sz : Nat) (a0 : Nat) (g0 : Nat → Value) (x0 : Int32) (j1 : Nat) (hj1 : j1 < 16) (x2 : Int32) (e0 : g0 0 = (.int 0)) (e1 : x0 < (0 : Int32)) : Met l yX12_hold (Cond.code yX12_hold cX12_hold 4 (some .int) :: WG) { frames := 2, cells := 0, slots := 0, locals := 43 } (zPre K [(a0, zO 10 83 g0)] sz [.ref a0, .int x0, .int (nI j1), .int x2]) (va_Qi (fun (r : Int32) (_ : Nat → Nat) => r = 0) (zB K (va_A [(a0, zO 10 83 g0)] sz) (fun u : Nat → Nat => [(a0, zO 10 83 (va_up g0 81 (.int 1)))])) (va_A [(a0, zO 10 83 g0)] sz)) 0 0 (va_A [(a0, zO 10 83 g0)] sz) := by
  refine z_met (Qc := fun A => (va_Qi (fun (r : Int32) (_ : Nat → Nat) => r = 0) (zB K A (fun u : Nat → Nat => [(a0, zO 10 83 (va_up g0 81 (.int 1)))])) A)) (by decide +kernel) (Nat.le_of_ble_eq_true rfl) ?_
  intro p e s m args below meth c A ls H hx hb hr hg hown hlocks hml hin hK hP hD hA hS hZ hl
  have hown : s.vm.findClass RX12 = some m.cls := hown
  have hl : lv_has ls 4 [(0, .ref a0), (1, .int x0), (2, .int (nI j1)), (3, .int x2)] := hl
  refine lv_aload_n hx hb dX12_hold_0 rfl (lv_at hl 0 rfl) ?_
  refine lv_aload_n hx hb dX12_hold_1 rfl (lv_at hl 0 rfl) ?_
  refine lv_iload_n hx hb dX12_hold_2 rfl (lv_at hl 1 rfl) ?_
  refine z_calli [(a0, zO 10 83 g0)] [] [0] [] hP hD hS hA rfl rfl (by decide) (by decide) (by decide +kernel) 0 0 rfl rfl (fun hPc hDc hF => z_runV (As := [.int x0]) (rest := [.ref a0]) ⟨hx, hb, hml, hown, hg⟩ (cX12_isNode_1 l K H.size a0 g0 x0 e0 e1) kV_RX12_200 hd_X12_isNode rfl rfl ⟨(Nat.le_of_ble_eq_true rfl), (Nat.le_of_ble_eq_true rfl)⟩ hK hS hZ hPc hDc hF 0 rfl rfl rfl hl.1 rfl (Nat.le_of_ble_eq_true rfl) dX12_hold_3 ⟨(Nat.le_of_ble_eq_true rfl), (Nat.le_of_ble_eq_true rfl)⟩) (fun r3 u1 H locs w2 hP hD hS => ?_)
  subst w2
  have hP : va_P K.1 classes [(a0, zO 10 83 g0)] H := hP
  have hD : va_D A [(a0, zO 10 83 g0)] := hD
  refine lv_if_eq (tgt := 21) hx hb dX12_hold_6 (by decide) (fun _ => ?_) (fun c => absurd (by decide) c)
  refine lv_iconst (v := 0) hx hb dX12_hold_21 (by decide) ?_
  refine lv_iload_n hx hb dX12_hold_22 rfl (lv_at hl 2 rfl) ?_
  refine z_calli [] [(a0, zO 10 83 g0)] [] [0] hP hD hS hA rfl rfl (by decide) (by decide) (by decide +kernel) 0 0 rfl rfl (fun hPc hDc hF => z_runS (As := [.int (nI j1)]) (rest := [.int 0, .ref a0]) ⟨hx, hb, hml, hown, hg⟩ (cX12_isName_2 l K H.size j1 hj1) kS_RX12_190 hd_X12_isName rfl rfl ⟨(Nat.le_of_ble_eq_true rfl), (Nat.le_of_ble_eq_true rfl)⟩ hK hS hZ hPc hDc hF rfl hl.1 rfl (Nat.le_of_ble_eq_true rfl) dX12_hold_23 ⟨(Nat.le_of_ble_eq_true rfl), (Nat.le_of_ble_eq_true rfl)⟩) (fun r6 u4 H locs w5 hP hD hS => ?_)
  subst w5
  have hP : va_P K.1 classes [(a0, zO 10 83 g0)] H := hP
  have hD : va_D A [(a0, zO 10 83 g0)] := hD
  refine z_calli [(a0, zO 10 83 g0)] [] [0] [] hP hD hS hA rfl rfl (by decide) (by decide) (by decide +kernel) 0 0 rfl rfl (fun hPc hDc hF => z_runV (As := [.int 0, .int 1]) (rest := []) ⟨hx, hb, hml, hown, hg⟩ (cX12_mayTell_2 l K H.size a0 g0) kV_RX12_203 hd_X12_mayTell rfl rfl ⟨(Nat.le_of_ble_eq_true rfl), (Nat.le_of_ble_eq_true rfl)⟩ hK hS hZ hPc hDc hF 0 rfl rfl rfl hl.1 rfl (Nat.le_of_ble_eq_true rfl) dX12_hold_26 ⟨(Nat.le_of_ble_eq_true rfl), (Nat.le_of_ble_eq_true rfl)⟩) (fun r9 u7 H locs w8 hP hD hS => ?_)
  subst w8
  have hP : va_P K.1 classes [(a0, zO 10 83 (va_up g0 81 (.int 1)))] H := hP
  have hD : va_D A [(a0, zO 10 83 (va_up g0 81 (.int 1)))] := hD
  refine lv_if_eq (tgt := 46) hx hb dX12_hold_29 (by decide) (fun _ => ?_) (fun c => absurd (by decide) c)
  refine lv_iconst (v := 0) hx hb dX12_hold_46 (by decide) ?_
  have hP9 : va_P K.1 classes [(a0, zO 10 83 (va_up g0 81 (.int 1)))] H := hP.sub [0] rfl
  have hD9 : va_D A [(a0, zO 10 83 (va_up g0 81 (.int 1)))] := hD.sub [0] (by decide) rfl
  exact z_iret hx hb hr (fun _ => 0) rfl hP9 hD9 hS (Nat.le_of_ble_eq_true rfl) (Nat.le_of_ble_eq_true rfl) hlocks dX12_hold_47
set_option maxHeartbeats 4000000 in
set_option maxRecDepth 100000 in
theorem cX12_hold_3 (l : Launch) (K : zK) (sz : Nat) (a0 : Nat) (g0 : Nat → Value) (x0 : Int32) (x1 : Int32) (x2 : Int32) (e0 : g0 0 = (.int 0)) (e1 : x0 < (0 : Int32)) (e2 : ¬ x1 < (0 : Int32)) (e3 : (15 : Int32) < x1) : Met l yX12_hold (Cond.code yX12_hold cX12_hold 4 (some .int) :: WG) { frames := 2, cells := 0, slots := 0, locals := 43 } (zPre K [(a0, zO 10 83 g0)] sz [.ref a0, .int x0, .int x1, .int x2]) (va_Qi (fun (r : Int32) (_ : Nat → Nat) => r = 0) (zB K (va_A [(a0, zO 10 83 g0)] sz) (fun u : Nat → Nat => [(a0, zO 10 83 (va_up g0 81 (.int 1)))])) (va_A [(a0, zO 10 83 g0)] sz)) 0 0 (va_A [(a0, zO 10 83 g0)] sz) := by
  refine z_met (Qc := fun A => (va_Qi (fun (r : Int32) (_ : Nat → Nat) => r = 0) (zB K A (fun u : Nat → Nat => [(a0, zO 10 83 (va_up g0 81 (.int 1)))])) A)) (by decide +kernel) (Nat.le_of_ble_eq_true rfl) ?_
  intro p e s m args below meth c A ls H hx hb hr hg hown hlocks hml hin hK hP hD hA hS hZ hl
  have hown : s.vm.findClass RX12 = some m.cls := hown
  have hl : lv_has ls 4 [(0, .ref a0), (1, .int x0), (2, .int x1), (3, .int x2)] := hl
  refine lv_aload_n hx hb dX12_hold_0 rfl (lv_at hl 0 rfl) ?_
  refine lv_aload_n hx hb dX12_hold_1 rfl (lv_at hl 0 rfl) ?_
  refine lv_iload_n hx hb dX12_hold_2 rfl (lv_at hl 1 rfl) ?_
  refine z_calli [(a0, zO 10 83 g0)] [] [0] [] hP hD hS hA rfl rfl (by decide) (by decide) (by decide +kernel) 0 0 rfl rfl (fun hPc hDc hF => z_runV (As := [.int x0]) (rest := [.ref a0]) ⟨hx, hb, hml, hown, hg⟩ (cX12_isNode_1 l K H.size a0 g0 x0 e0 e1) kV_RX12_200 hd_X12_isNode rfl rfl ⟨(Nat.le_of_ble_eq_true rfl), (Nat.le_of_ble_eq_true rfl)⟩ hK hS hZ hPc hDc hF 0 rfl rfl rfl hl.1 rfl (Nat.le_of_ble_eq_true rfl) dX12_hold_3 ⟨(Nat.le_of_ble_eq_true rfl), (Nat.le_of_ble_eq_true rfl)⟩) (fun r3 u1 H locs w2 hP hD hS => ?_)
  subst w2
  have hP : va_P K.1 classes [(a0, zO 10 83 g0)] H := hP
  have hD : va_D A [(a0, zO 10 83 g0)] := hD
  refine lv_if_eq (tgt := 21) hx hb dX12_hold_6 (by decide) (fun _ => ?_) (fun c => absurd (by decide) c)
  refine lv_iconst (v := 0) hx hb dX12_hold_21 (by decide) ?_
  refine lv_iload_n hx hb dX12_hold_22 rfl (lv_at hl 2 rfl) ?_
  refine z_calli [] [(a0, zO 10 83 g0)] [] [0] hP hD hS hA rfl rfl (by decide) (by decide) (by decide +kernel) 0 0 rfl rfl (fun hPc hDc hF => z_runS (As := [.int x1]) (rest := [.int 0, .ref a0]) ⟨hx, hb, hml, hown, hg⟩ (cX12_isName_3 l K H.size x1 e2 e3) kS_RX12_190 hd_X12_isName rfl rfl ⟨(Nat.le_of_ble_eq_true rfl), (Nat.le_of_ble_eq_true rfl)⟩ hK hS hZ hPc hDc hF rfl hl.1 rfl (Nat.le_of_ble_eq_true rfl) dX12_hold_23 ⟨(Nat.le_of_ble_eq_true rfl), (Nat.le_of_ble_eq_true rfl)⟩) (fun r6 u4 H locs w5 hP hD hS => ?_)
  subst w5
  have hP : va_P K.1 classes [(a0, zO 10 83 g0)] H := hP
  have hD : va_D A [(a0, zO 10 83 g0)] := hD
  refine z_calli [(a0, zO 10 83 g0)] [] [0] [] hP hD hS hA rfl rfl (by decide) (by decide) (by decide +kernel) 0 0 rfl rfl (fun hPc hDc hF => z_runV (As := [.int 0, .int 0]) (rest := []) ⟨hx, hb, hml, hown, hg⟩ (cX12_mayTell_1 l K H.size a0 g0) kV_RX12_203 hd_X12_mayTell rfl rfl ⟨(Nat.le_of_ble_eq_true rfl), (Nat.le_of_ble_eq_true rfl)⟩ hK hS hZ hPc hDc hF 0 rfl rfl rfl hl.1 rfl (Nat.le_of_ble_eq_true rfl) dX12_hold_26 ⟨(Nat.le_of_ble_eq_true rfl), (Nat.le_of_ble_eq_true rfl)⟩) (fun r9 u7 H locs w8 hP hD hS => ?_)
  subst w8
  have hP : va_P K.1 classes [(a0, zO 10 83 (va_up g0 81 (.int 1)))] H := hP
  have hD : va_D A [(a0, zO 10 83 (va_up g0 81 (.int 1)))] := hD
  refine lv_if_eq (tgt := 46) hx hb dX12_hold_29 (by decide) (fun _ => ?_) (fun c => absurd (by decide) c)
  refine lv_iconst (v := 0) hx hb dX12_hold_46 (by decide) ?_
  have hP9 : va_P K.1 classes [(a0, zO 10 83 (va_up g0 81 (.int 1)))] H := hP.sub [0] rfl
  have hD9 : va_D A [(a0, zO 10 83 (va_up g0 81 (.int 1)))] := hD.sub [0] (by decide) rfl
  exact z_iret hx hb hr (fun _ => 0) rfl hP9 hD9 hS (Nat.le_of_ble_eq_true rfl) (Nat.le_of_ble_eq_true rfl) hlocks dX12_hold_47
set_option maxHeartbeats 4000000 in
set_option maxRecDepth 100000 in
theorem cX11_hold_3 (l : Launch) (hl9 : l.stackTraces = false) (K : zK) (sz : Nat) (a0 : Nat) (a1 : Nat) (g0 : Nat → Value) (g1 : Nat → Value) (x0 : Int32) (x1 : Int32) (x2 : Int32) (e0 : g0 0 = (.ref a1)) (e1 : ¬ x0 < (0 : Int32)) (e2 : g1 5 = (.int 0)) (e3 : (0 : Int32) ≤ x0) : vx_Met l yX11_hold (Cond.code yX11_hold cX11_hold 4 (some .int) :: WG) { frames := 7, cells := 1, slots := 6, locals := 103 } (zPre K [(a0, zO 9 9 g0), (a1, zO 7 6 g1)] sz [.ref a0, .int x0, .int x1, .int x2]) (va_Qv (fun _ : Unit => False) (fun _ _ => True) (va_A [(a0, zO 9 9 g0), (a1, zO 7 6 g1)] sz)) (zX (va_A [(a0, zO 9 9 g0), (a1, zO 7 6 g1)] sz) zIB) 1 6 (va_A [(a0, zO 9 9 g0), (a1, zO 7 6 g1)] sz) := by
  refine z_xmet (Qc := fun A => va_Qv (fun _ : Unit => False) (fun _ _ => True) A) (XC := fun A => zX A zIB) (by decide +kernel) (Nat.le_of_ble_eq_true rfl) ?_
  intro p e s m args below meth c A ls H hx hb hr hg hown hlocks hml hno hK hP hD hA hS hZ hl
  have hown : s.vm.findClass RX11 = some m.cls := hown
  have hl : lv_has ls 4 [(0, .ref a0), (1, .int x0), (2, .int x1), (3, .int x2)] := hl
  refine lv_aload_n hx hb dX11_hold_0 rfl (lv_at hl 0 rfl) ?_
  refine lv_iload_n hx hb dX11_hold_1 rfl (lv_at hl 1 rfl) ?_
  refine z_xcall (EX := zIB) [(a0, zO 9 9 g0), (a1, zO 7 6 g1)] [0, 1] hP hD hS hA rfl (by decide) 1 6 rfl rfl (fun hPc hDc hF => z_xrunV (As := [.int x0]) (rest := []) ⟨hx, hb, hml, hown, hg⟩ (cX11_checkTold_2 l hl9 K H.size a0 a1 g0 g1 x0 e0 e1 e2 e3) kV_RX11_76 hd_X11_checkTold rfl rfl ⟨(Nat.le_of_ble_eq_true rfl), (Nat.le_of_ble_eq_true rfl)⟩ hK hS hZ hPc hDc hF 0 rfl rfl rfl hl.1 rfl (Nat.le_of_ble_eq_true rfl) dX11_hold_2 ⟨(Nat.le_of_ble_eq_true rfl), (Nat.le_of_ble_eq_true rfl)⟩) (fun ce q9 H locs hS hce hcv hcl => ?_)
  exact z_xout hno hlocks hS hce hcv hcl (Nat.le_of_ble_eq_true rfl) (Nat.le_of_ble_eq_true rfl)
set_option maxHeartbeats 4000000 in
set_option maxRecDepth 100000 in
theorem cL_hold_3 (l : Launch) (hl9 : l.stackTraces = false) (K : zK) (sz : Nat) (a0 : Nat) (a1 : Nat) (a2 : Nat) (g0 : Nat → Value) (g2 : Nat → Value) (x0 : Int32) (x1 : Int32) (x2 : Int32) (e0 : g0 0 = (.ref a2)) (e1 : ¬ x0 < (0 : Int32)) (e2 : g2 5 = (.int 0)) (e3 : (0 : Int32) ≤ x0) : vx_Met l yL_hold (Cond.codeWith yL_hold cL_hold 6 (some .int) [(0, 12, 15, 27), (0, 12, 19, 18), (0, 12, 23, 13)] :: WG) { frames := 8, cells := 1, slots := 6, locals := 126 } (zPre K [(a0, zO 9 9 g0), (a2, zO 7 6 g2)] sz [.ref a0, .int x0, .int x1, .int x2, .ref a1]) (va_Qi (fun (r : Int32) (_ : Nat → Nat) => r = 1) (zB K (va_A [(a0, zO 9 9 g0), (a2, zO 7 6 g2)] sz) (fun u : Nat → Nat => [])) (va_A [(a0, zO 9 9 g0), (a2, zO 7 6 g2)] sz)) (vx_X (fun _ : Unit => False) (fun _ _ _ => True) (va_A [(a0, zO 9 9 g0), (a2, zO 7 6 g2)] sz)) 1 6 (va_A [(a0, zO 9 9 g0), (a2, zO 7 6 g2)] sz) := by
  refine z_hmet (Qc := fun A => (va_Qi (fun (r : Int32) (_ : Nat → Nat) => r = 1) (zB K A (fun u : Nat → Nat => [])) A)) (XC := fun A => vx_X (fun _ : Unit => False) (fun _ _ _ => True) A) (by decide +kernel) (Nat.le_of_ble_eq_true rfl) ?_
  intro p e s m args below meth c A ls H hx hb hr hg hown hlocks hml hTab hK hP hD hA hS hZ hl
  have hown : s.vm.findClass RL = some m.cls := hown
  have hl : lv_has ls 6 [(0, .ref a0), (1, .int x0), (2, .int x1), (3, .int x2), (4, .ref a1)] := hl
  refine lv_aload hx hb dL_hold_0 (lv_at hl 4 rfl) ?_
  refine lv_iconst (v := 0) hx hb dL_hold_2 (by decide) ?_
  refine lv_aload_n hx hb dL_hold_3 rfl (lv_at hl 0 rfl) ?_
  refine lv_iload_n hx hb dL_hold_4 rfl (lv_at hl 1 rfl) ?_
  refine lv_iload_n hx hb dL_hold_5 rfl (lv_at hl 2 rfl) ?_
  refine lv_iload_n hx hb dL_hold_6 rfl (lv_at hl 3 rfl) ?_
  refine z_xcall (EX := zIB) [(a0, zO 9 9 g0), (a2, zO 7 6 g2)] [0, 1] hP hD hS hA rfl (by decide) 1 6 rfl rfl (fun hPc hDc hF => z_xrunV (As := [.int x0, .int x1, .int x2]) (rest := [.int 0, .ref a1]) ⟨hx, hb, hml, hown, hg⟩ (cX11_hold_3 l hl9 K H.size a0 a2 g0 g2 x0 x1 x2 e0 e1 e2 e3) kV_RL_55 hd_X11_hold rfl rfl ⟨(Nat.le_of_ble_eq_true rfl), (Nat.le_of_ble_eq_true rfl)⟩ hK hS hZ hPc hDc hF 0 rfl rfl rfl hl.1 rfl (Nat.le_of_ble_eq_true rfl) dL_hold_7 ⟨(Nat.le_of_ble_eq_true rfl), (Nat.le_of_ble_eq_true rfl)⟩) (fun ce q9 H locs hS hce hcv hcl => ?_)
  refine vx_catch (own := RL) (name := zIB) (E := zIB) hown [] ⟨0, 12, 15, 27⟩ [⟨0, 12, 19, 18⟩, ⟨0, 12, 23, 13⟩] (by rw [hTab]; rfl) (fun z hz => nomatch hz) (by decide) (by decide) (hg _ mt526) (va_Nw.use rfl hZ.1.1.2.2.2.1) hce hcv hcl ?_
  have hP : va_P K.1 classes [] H := z_P0
  have hD : va_D A [] := z_D0
  refine lv_astore (lv' := [(5, .ref q9), (0, .ref a0), (1, .int x0), (2, .int x1), (3, .int x2), (4, .ref a1)]) hx hb dL_hold_15 hl (by decide) rfl (fun ls hl => ?_)
  refine lv_iconst (v := 1) hx hb dL_hold_17 (by decide) ?_
  have hP9 : va_P K.1 classes [] H := hP.sub [] rfl
  have hD9 : va_D A [] := hD.sub [] (by decide) rfl
  exact z_iret hx hb hr (fun _ => 0) rfl hP9 hD9 hS (Nat.le_of_ble_eq_true rfl) (Nat.le_of_ble_eq_true rfl) hlocks dL_hold_18
set_option maxHeartbeats 4000000 in
set_option maxRecDepth 100000 in
theorem cX12_hold_4 (l : Launch) (K : zK) (sz : Nat) (a0 : Nat) (g0 : Nat → Value) (x0 : Int32) (x1 : Int32) (x2 : Int32) (e0 : g0 0 = (.int 0)) (e1 : ¬ x0 < (0 : Int32)) (e2 : (-1 : Int32) < x0) (e3 : x1 < (0 : Int32)) : Met l yX12_hold (Cond.code yX12_hold cX12_hold 4 (some .int) :: WG) { frames := 2, cells := 0, slots := 0, locals := 43 } (zPre K [(a0, zO 10 83 g0)] sz [.ref a0, .int x0, .int x1, .int x2]) (va_Qi (fun (r : Int32) (_ : Nat → Nat) => r = 0) (zB K (va_A [(a0, zO 10 83 g0)] sz) (fun u : Nat → Nat => [(a0, zO 10 83 (va_up g0 81 (.int 1)))])) (va_A [(a0, zO 10 83 g0)] sz)) 0 0 (va_A [(a0, zO 10 83 g0)] sz) := by
  refine z_met (Qc := fun A => (va_Qi (fun (r : Int32) (_ : Nat → Nat) => r = 0) (zB K A (fun u : Nat → Nat => [(a0, zO 10 83 (va_up g0 81 (.int 1)))])) A)) (by decide +kernel) (Nat.le_of_ble_eq_true rfl) ?_
  intro p e s m args below meth c A ls H hx hb hr hg hown hlocks hml hin hK hP hD hA hS hZ hl
  have hown : s.vm.findClass RX12 = some m.cls := hown
  have hl : lv_has ls 4 [(0, .ref a0), (1, .int x0), (2, .int x1), (3, .int x2)] := hl
  refine lv_aload_n hx hb dX12_hold_0 rfl (lv_at hl 0 rfl) ?_
  refine lv_aload_n hx hb dX12_hold_1 rfl (lv_at hl 0 rfl) ?_
  refine lv_iload_n hx hb dX12_hold_2 rfl (lv_at hl 1 rfl) ?_
  refine z_calli [(a0, zO 10 83 g0)] [] [0] [] hP hD hS hA rfl rfl (by decide) (by decide) (by decide +kernel) 0 0 rfl rfl (fun hPc hDc hF => z_runV (As := [.int x0]) (rest := [.ref a0]) ⟨hx, hb, hml, hown, hg⟩ (cX12_isNode_2 l K H.size a0 g0 x0 e0 e1 e2) kV_RX12_200 hd_X12_isNode rfl rfl ⟨(Nat.le_of_ble_eq_true rfl), (Nat.le_of_ble_eq_true rfl)⟩ hK hS hZ hPc hDc hF 0 rfl rfl rfl hl.1 rfl (Nat.le_of_ble_eq_true rfl) dX12_hold_3 ⟨(Nat.le_of_ble_eq_true rfl), (Nat.le_of_ble_eq_true rfl)⟩) (fun r3 u1 H locs w2 hP hD hS => ?_)
  subst w2
  have hP : va_P K.1 classes [(a0, zO 10 83 g0)] H := hP
  have hD : va_D A [(a0, zO 10 83 g0)] := hD
  refine lv_if_eq (tgt := 21) hx hb dX12_hold_6 (by decide) (fun _ => ?_) (fun c => absurd (by decide) c)
  refine lv_iconst (v := 0) hx hb dX12_hold_21 (by decide) ?_
  refine lv_iload_n hx hb dX12_hold_22 rfl (lv_at hl 2 rfl) ?_
  refine z_calli [] [(a0, zO 10 83 g0)] [] [0] hP hD hS hA rfl rfl (by decide) (by decide) (by decide +kernel) 0 0 rfl rfl (fun hPc hDc hF => z_runS (As := [.int x1]) (rest := [.int 0, .ref a0]) ⟨hx, hb, hml, hown, hg⟩ (cX12_isName_1 l K H.size x1 e3) kS_RX12_190 hd_X12_isName rfl rfl ⟨(Nat.le_of_ble_eq_true rfl), (Nat.le_of_ble_eq_true rfl)⟩ hK hS hZ hPc hDc hF rfl hl.1 rfl (Nat.le_of_ble_eq_true rfl) dX12_hold_23 ⟨(Nat.le_of_ble_eq_true rfl), (Nat.le_of_ble_eq_true rfl)⟩) (fun r6 u4 H locs w5 hP hD hS => ?_)
  subst w5
  have hP : va_P K.1 classes [(a0, zO 10 83 g0)] H := hP
  have hD : va_D A [(a0, zO 10 83 g0)] := hD
  refine z_calli [(a0, zO 10 83 g0)] [] [0] [] hP hD hS hA rfl rfl (by decide) (by decide) (by decide +kernel) 0 0 rfl rfl (fun hPc hDc hF => z_runV (As := [.int 0, .int 0]) (rest := []) ⟨hx, hb, hml, hown, hg⟩ (cX12_mayTell_1 l K H.size a0 g0) kV_RX12_203 hd_X12_mayTell rfl rfl ⟨(Nat.le_of_ble_eq_true rfl), (Nat.le_of_ble_eq_true rfl)⟩ hK hS hZ hPc hDc hF 0 rfl rfl rfl hl.1 rfl (Nat.le_of_ble_eq_true rfl) dX12_hold_26 ⟨(Nat.le_of_ble_eq_true rfl), (Nat.le_of_ble_eq_true rfl)⟩) (fun r9 u7 H locs w8 hP hD hS => ?_)
  subst w8
  have hP : va_P K.1 classes [(a0, zO 10 83 (va_up g0 81 (.int 1)))] H := hP
  have hD : va_D A [(a0, zO 10 83 (va_up g0 81 (.int 1)))] := hD
  refine lv_if_eq (tgt := 46) hx hb dX12_hold_29 (by decide) (fun _ => ?_) (fun c => absurd (by decide) c)
  refine lv_iconst (v := 0) hx hb dX12_hold_46 (by decide) ?_
  have hP9 : va_P K.1 classes [(a0, zO 10 83 (va_up g0 81 (.int 1)))] H := hP.sub [0] rfl
  have hD9 : va_D A [(a0, zO 10 83 (va_up g0 81 (.int 1)))] := hD.sub [0] (by decide) rfl
  exact z_iret hx hb hr (fun _ => 0) rfl hP9 hD9 hS (Nat.le_of_ble_eq_true rfl) (Nat.le_of_ble_eq_true rfl) hlocks dX12_hold_47
set_option maxHeartbeats 4000000 in
set_option maxRecDepth 100000 in
theorem cX11_hold_4 (l : Launch) (hl9 : l.stackTraces = false) (K : zK) (sz : Nat) (a0 : Nat) (a1 : Nat) (g0 : Nat → Value) (g1 : Nat → Value) (x0 : Int32) (j1 : Nat) (hj1 : j1 < 16) (x2 : Int32) (e0 : g0 0 = (.ref a1)) (e1 : ¬ x0 < (0 : Int32)) (e2 : g1 5 = (.int 0)) (e3 : (0 : Int32) ≤ x0) : vx_Met l yX11_hold (Cond.code yX11_hold cX11_hold 4 (some .int) :: WG) { frames := 7, cells := 1, slots := 6, locals := 103 } (zPre K [(a0, zO 9 9 g0), (a1, zO 7 6 g1)] sz [.ref a0, .int x0, .int (nI j1), .int x2]) (va_Qv (fun _ : Unit => False) (fun _ _ => True) (va_A [(a0, zO 9 9 g0), (a1, zO 7 6 g1)] sz)) (zX (va_A [(a0, zO 9 9 g0), (a1, zO 7 6 g1)] sz) zIB) 1 6 (va_A [(a0, zO 9 9 g0), (a1, zO 7 6 g1)] sz) := by
  refine z_xmet (Qc := fun A => va_Qv (fun _ : Unit => False) (fun _ _ => True) A) (XC := fun A => zX A zIB) (by decide +kernel) (Nat.le_of_ble_eq_true rfl) ?_
  intro p e s m args below meth c A ls H hx hb hr hg hown hlocks hml hno hK hP hD hA hS hZ hl
  have hown : s.vm.findClass RX11 = some m.cls := hown
  have hl : lv_has ls 4 [(0, .ref a0), (1, .int x0), (2, .int (nI j1)), (3, .int x2)] := hl
  refine lv_aload_n hx hb dX11_hold_0 rfl (lv_at hl 0 rfl) ?_
  refine lv_iload_n hx hb dX11_hold_1 rfl (lv_at hl 1 rfl) ?_
  refine z_xcall (EX := zIB) [(a0, zO 9 9 g0), (a1, zO 7 6 g1)] [0, 1] hP hD hS hA rfl (by decide) 1 6 rfl rfl (fun hPc hDc hF => z_xrunV (As := [.int x0]) (rest := []) ⟨hx, hb, hml, hown, hg⟩ (cX11_checkTold_2 l hl9 K H.size a0 a1 g0 g1 x0 e0 e1 e2 e3) kV_RX11_76 hd_X11_checkTold rfl rfl ⟨(Nat.le_of_ble_eq_true rfl), (Nat.le_of_ble_eq_true rfl)⟩ hK hS hZ hPc hDc hF 0 rfl rfl rfl hl.1 rfl (Nat.le_of_ble_eq_true rfl) dX11_hold_2 ⟨(Nat.le_of_ble_eq_true rfl), (Nat.le_of_ble_eq_true rfl)⟩) (fun ce q9 H locs hS hce hcv hcl => ?_)
  exact z_xout hno hlocks hS hce hcv hcl (Nat.le_of_ble_eq_true rfl) (Nat.le_of_ble_eq_true rfl)
set_option maxHeartbeats 4000000 in
set_option maxRecDepth 100000 in
theorem cL_hold_4 (l : Launch) (hl9 : l.stackTraces = false) (K : zK) (sz : Nat) (a0 : Nat) (a1 : Nat) (a2 : Nat) (g0 : Nat → Value) (g2 : Nat → Value) (x0 : Int32) (j1 : Nat) (hj1 : j1 < 16) (x2 : Int32) (e0 : g0 0 = (.ref a2)) (e1 : ¬ x0 < (0 : Int32)) (e2 : g2 5 = (.int 0)) (e3 : (0 : Int32) ≤ x0) : vx_Met l yL_hold (Cond.codeWith yL_hold cL_hold 6 (some .int) [(0, 12, 15, 27), (0, 12, 19, 18), (0, 12, 23, 13)] :: WG) { frames := 8, cells := 1, slots := 6, locals := 126 } (zPre K [(a0, zO 9 9 g0), (a2, zO 7 6 g2)] sz [.ref a0, .int x0, .int (nI j1), .int x2, .ref a1]) (va_Qi (fun (r : Int32) (_ : Nat → Nat) => r = 1) (zB K (va_A [(a0, zO 9 9 g0), (a2, zO 7 6 g2)] sz) (fun u : Nat → Nat => [])) (va_A [(a0, zO 9 9 g0), (a2, zO 7 6 g2)] sz)) (vx_X (fun _ : Unit => False) (fun _ _ _ => True) (va_A [(a0, zO 9 9 g0), (a2, zO 7 6 g2)] sz)) 1 6 (va_A [(a0, zO 9 9 g0), (a2, zO 7 6 g2)] sz) := by
  refine z_hmet (Qc := fun A => (va_Qi (fun (r : Int32) (_ : Nat → Nat) => r = 1) (zB K A (fun u : Nat → Nat => [])) A)) (XC := fun A => vx_X (fun _ : Unit => False) (fun _ _ _ => True) A) (by decide +kernel) (Nat.le_of_ble_eq_true rfl) ?_
  intro p e s m args below meth c A ls H hx hb hr hg hown hlocks hml hTab hK hP hD hA hS hZ hl
  have hown : s.vm.findClass RL = some m.cls := hown
  have hl : lv_has ls 6 [(0, .ref a0), (1, .int x0), (2, .int (nI j1)), (3, .int x2), (4, .ref a1)] := hl
  refine lv_aload hx hb dL_hold_0 (lv_at hl 4 rfl) ?_
  refine lv_iconst (v := 0) hx hb dL_hold_2 (by decide) ?_
  refine lv_aload_n hx hb dL_hold_3 rfl (lv_at hl 0 rfl) ?_
  refine lv_iload_n hx hb dL_hold_4 rfl (lv_at hl 1 rfl) ?_
  refine lv_iload_n hx hb dL_hold_5 rfl (lv_at hl 2 rfl) ?_
  refine lv_iload_n hx hb dL_hold_6 rfl (lv_at hl 3 rfl) ?_
  refine z_xcall (EX := zIB) [(a0, zO 9 9 g0), (a2, zO 7 6 g2)] [0, 1] hP hD hS hA rfl (by decide) 1 6 rfl rfl (fun hPc hDc hF => z_xrunV (As := [.int x0, .int (nI j1), .int x2]) (rest := [.int 0, .ref a1]) ⟨hx, hb, hml, hown, hg⟩ (cX11_hold_4 l hl9 K H.size a0 a2 g0 g2 x0 j1 hj1 x2 e0 e1 e2 e3) kV_RL_55 hd_X11_hold rfl rfl ⟨(Nat.le_of_ble_eq_true rfl), (Nat.le_of_ble_eq_true rfl)⟩ hK hS hZ hPc hDc hF 0 rfl rfl rfl hl.1 rfl (Nat.le_of_ble_eq_true rfl) dL_hold_7 ⟨(Nat.le_of_ble_eq_true rfl), (Nat.le_of_ble_eq_true rfl)⟩) (fun ce q9 H locs hS hce hcv hcl => ?_)
  refine vx_catch (own := RL) (name := zIB) (E := zIB) hown [] ⟨0, 12, 15, 27⟩ [⟨0, 12, 19, 18⟩, ⟨0, 12, 23, 13⟩] (by rw [hTab]; rfl) (fun z hz => nomatch hz) (by decide) (by decide) (hg _ mt526) (va_Nw.use rfl hZ.1.1.2.2.2.1) hce hcv hcl ?_
  have hP : va_P K.1 classes [] H := z_P0
  have hD : va_D A [] := z_D0
  refine lv_astore (lv' := [(5, .ref q9), (0, .ref a0), (1, .int x0), (2, .int (nI j1)), (3, .int x2), (4, .ref a1)]) hx hb dL_hold_15 hl (by decide) rfl (fun ls hl => ?_)
  refine lv_iconst (v := 1) hx hb dL_hold_17 (by decide) ?_
  have hP9 : va_P K.1 classes [] H := hP.sub [] rfl
  have hD9 : va_D A [] := hD.sub [] (by decide) rfl
  exact z_iret hx hb hr (fun _ => 0) rfl hP9 hD9 hS (Nat.le_of_ble_eq_true rfl) (Nat.le_of_ble_eq_true rfl) hlocks dL_hold_18
set_option maxHeartbeats 4000000 in
set_option maxRecDepth 100000 in
theorem cX12_hold_5 (l : Launch) (K : zK) (sz : Nat) (a0 : Nat) (g0 : Nat → Value) (x0 : Int32) (j1 : Nat) (hj1 : j1 < 16) (x2 : Int32) (e0 : g0 0 = (.int 0)) (e1 : ¬ x0 < (0 : Int32)) (e2 : (-1 : Int32) < x0) : Met l yX12_hold (Cond.code yX12_hold cX12_hold 4 (some .int) :: WG) { frames := 2, cells := 0, slots := 0, locals := 43 } (zPre K [(a0, zO 10 83 g0)] sz [.ref a0, .int x0, .int (nI j1), .int x2]) (va_Qi (fun (r : Int32) (_ : Nat → Nat) => r = 0) (zB K (va_A [(a0, zO 10 83 g0)] sz) (fun u : Nat → Nat => [(a0, zO 10 83 (va_up g0 81 (.int 1)))])) (va_A [(a0, zO 10 83 g0)] sz)) 0 0 (va_A [(a0, zO 10 83 g0)] sz) := by
  refine z_met (Qc := fun A => (va_Qi (fun (r : Int32) (_ : Nat → Nat) => r = 0) (zB K A (fun u : Nat → Nat => [(a0, zO 10 83 (va_up g0 81 (.int 1)))])) A)) (by decide +kernel) (Nat.le_of_ble_eq_true rfl) ?_
  intro p e s m args below meth c A ls H hx hb hr hg hown hlocks hml hin hK hP hD hA hS hZ hl
  have hown : s.vm.findClass RX12 = some m.cls := hown
  have hl : lv_has ls 4 [(0, .ref a0), (1, .int x0), (2, .int (nI j1)), (3, .int x2)] := hl
  refine lv_aload_n hx hb dX12_hold_0 rfl (lv_at hl 0 rfl) ?_
  refine lv_aload_n hx hb dX12_hold_1 rfl (lv_at hl 0 rfl) ?_
  refine lv_iload_n hx hb dX12_hold_2 rfl (lv_at hl 1 rfl) ?_
  refine z_calli [(a0, zO 10 83 g0)] [] [0] [] hP hD hS hA rfl rfl (by decide) (by decide) (by decide +kernel) 0 0 rfl rfl (fun hPc hDc hF => z_runV (As := [.int x0]) (rest := [.ref a0]) ⟨hx, hb, hml, hown, hg⟩ (cX12_isNode_2 l K H.size a0 g0 x0 e0 e1 e2) kV_RX12_200 hd_X12_isNode rfl rfl ⟨(Nat.le_of_ble_eq_true rfl), (Nat.le_of_ble_eq_true rfl)⟩ hK hS hZ hPc hDc hF 0 rfl rfl rfl hl.1 rfl (Nat.le_of_ble_eq_true rfl) dX12_hold_3 ⟨(Nat.le_of_ble_eq_true rfl), (Nat.le_of_ble_eq_true rfl)⟩) (fun r3 u1 H locs w2 hP hD hS => ?_)
  subst w2
  have hP : va_P K.1 classes [(a0, zO 10 83 g0)] H := hP
  have hD : va_D A [(a0, zO 10 83 g0)] := hD
  refine lv_if_eq (tgt := 21) hx hb dX12_hold_6 (by decide) (fun _ => ?_) (fun c => absurd (by decide) c)
  refine lv_iconst (v := 0) hx hb dX12_hold_21 (by decide) ?_
  refine lv_iload_n hx hb dX12_hold_22 rfl (lv_at hl 2 rfl) ?_
  refine z_calli [] [(a0, zO 10 83 g0)] [] [0] hP hD hS hA rfl rfl (by decide) (by decide) (by decide +kernel) 0 0 rfl rfl (fun hPc hDc hF => z_runS (As := [.int (nI j1)]) (rest := [.int 0, .ref a0]) ⟨hx, hb, hml, hown, hg⟩ (cX12_isName_2 l K H.size j1 hj1) kS_RX12_190 hd_X12_isName rfl rfl ⟨(Nat.le_of_ble_eq_true rfl), (Nat.le_of_ble_eq_true rfl)⟩ hK hS hZ hPc hDc hF rfl hl.1 rfl (Nat.le_of_ble_eq_true rfl) dX12_hold_23 ⟨(Nat.le_of_ble_eq_true rfl), (Nat.le_of_ble_eq_true rfl)⟩) (fun r6 u4 H locs w5 hP hD hS => ?_)
  subst w5
  have hP : va_P K.1 classes [(a0, zO 10 83 g0)] H := hP
  have hD : va_D A [(a0, zO 10 83 g0)] := hD
  refine z_calli [(a0, zO 10 83 g0)] [] [0] [] hP hD hS hA rfl rfl (by decide) (by decide) (by decide +kernel) 0 0 rfl rfl (fun hPc hDc hF => z_runV (As := [.int 0, .int 1]) (rest := []) ⟨hx, hb, hml, hown, hg⟩ (cX12_mayTell_2 l K H.size a0 g0) kV_RX12_203 hd_X12_mayTell rfl rfl ⟨(Nat.le_of_ble_eq_true rfl), (Nat.le_of_ble_eq_true rfl)⟩ hK hS hZ hPc hDc hF 0 rfl rfl rfl hl.1 rfl (Nat.le_of_ble_eq_true rfl) dX12_hold_26 ⟨(Nat.le_of_ble_eq_true rfl), (Nat.le_of_ble_eq_true rfl)⟩) (fun r9 u7 H locs w8 hP hD hS => ?_)
  subst w8
  have hP : va_P K.1 classes [(a0, zO 10 83 (va_up g0 81 (.int 1)))] H := hP
  have hD : va_D A [(a0, zO 10 83 (va_up g0 81 (.int 1)))] := hD
  refine lv_if_eq (tgt := 46) hx hb dX12_hold_29 (by decide) (fun _ => ?_) (fun c => absurd (by decide) c)
  refine lv_iconst (v := 0) hx hb dX12_hold_46 (by decide) ?_
  have hP9 : va_P K.1 classes [(a0, zO 10 83 (va_up g0 81 (.int 1)))] H := hP.sub [0] rfl
  have hD9 : va_D A [(a0, zO 10 83 (va_up g0 81 (.int 1)))] := hD.sub [0] (by decide) rfl
  exact z_iret hx hb hr (fun _ => 0) rfl hP9 hD9 hS (Nat.le_of_ble_eq_true rfl) (Nat.le_of_ble_eq_true rfl) hlocks dX12_hold_47
set_option maxHeartbeats 4000000 in
set_option maxRecDepth 100000 in
theorem cX12_hold_6 (l : Launch) (K : zK) (sz : Nat) (a0 : Nat) (g0 : Nat → Value) (x0 : Int32) (x1 : Int32) (x2 : Int32) (e0 : g0 0 = (.int 0)) (e1 : ¬ x0 < (0 : Int32)) (e2 : (-1 : Int32) < x0) (e3 : ¬ x1 < (0 : Int32)) (e4 : (15 : Int32) < x1) : Met l yX12_hold (Cond.code yX12_hold cX12_hold 4 (some .int) :: WG) { frames := 2, cells := 0, slots := 0, locals := 43 } (zPre K [(a0, zO 10 83 g0)] sz [.ref a0, .int x0, .int x1, .int x2]) (va_Qi (fun (r : Int32) (_ : Nat → Nat) => r = 0) (zB K (va_A [(a0, zO 10 83 g0)] sz) (fun u : Nat → Nat => [(a0, zO 10 83 (va_up g0 81 (.int 1)))])) (va_A [(a0, zO 10 83 g0)] sz)) 0 0 (va_A [(a0, zO 10 83 g0)] sz) := by
  refine z_met (Qc := fun A => (va_Qi (fun (r : Int32) (_ : Nat → Nat) => r = 0) (zB K A (fun u : Nat → Nat => [(a0, zO 10 83 (va_up g0 81 (.int 1)))])) A)) (by decide +kernel) (Nat.le_of_ble_eq_true rfl) ?_
  intro p e s m args below meth c A ls H hx hb hr hg hown hlocks hml hin hK hP hD hA hS hZ hl
  have hown : s.vm.findClass RX12 = some m.cls := hown
  have hl : lv_has ls 4 [(0, .ref a0), (1, .int x0), (2, .int x1), (3, .int x2)] := hl
  refine lv_aload_n hx hb dX12_hold_0 rfl (lv_at hl 0 rfl) ?_
  refine lv_aload_n hx hb dX12_hold_1 rfl (lv_at hl 0 rfl) ?_
  refine lv_iload_n hx hb dX12_hold_2 rfl (lv_at hl 1 rfl) ?_
  refine z_calli [(a0, zO 10 83 g0)] [] [0] [] hP hD hS hA rfl rfl (by decide) (by decide) (by decide +kernel) 0 0 rfl rfl (fun hPc hDc hF => z_runV (As := [.int x0]) (rest := [.ref a0]) ⟨hx, hb, hml, hown, hg⟩ (cX12_isNode_2 l K H.size a0 g0 x0 e0 e1 e2) kV_RX12_200 hd_X12_isNode rfl rfl ⟨(Nat.le_of_ble_eq_true rfl), (Nat.le_of_ble_eq_true rfl)⟩ hK hS hZ hPc hDc hF 0 rfl rfl rfl hl.1 rfl (Nat.le_of_ble_eq_true rfl) dX12_hold_3 ⟨(Nat.le_of_ble_eq_true rfl), (Nat.le_of_ble_eq_true rfl)⟩) (fun r3 u1 H locs w2 hP hD hS => ?_)
  subst w2
  have hP : va_P K.1 classes [(a0, zO 10 83 g0)] H := hP
  have hD : va_D A [(a0, zO 10 83 g0)] := hD
  refine lv_if_eq (tgt := 21) hx hb dX12_hold_6 (by decide) (fun _ => ?_) (fun c => absurd (by decide) c)
  refine lv_iconst (v := 0) hx hb dX12_hold_21 (by decide) ?_
  refine lv_iload_n hx hb dX12_hold_22 rfl (lv_at hl 2 rfl) ?_
  refine z_calli [] [(a0, zO 10 83 g0)] [] [0] hP hD hS hA rfl rfl (by decide) (by decide) (by decide +kernel) 0 0 rfl rfl (fun hPc hDc hF => z_runS (As := [.int x1]) (rest := [.int 0, .ref a0]) ⟨hx, hb, hml, hown, hg⟩ (cX12_isName_3 l K H.size x1 e3 e4) kS_RX12_190 hd_X12_isName rfl rfl ⟨(Nat.le_of_ble_eq_true rfl), (Nat.le_of_ble_eq_true rfl)⟩ hK hS hZ hPc hDc hF rfl hl.1 rfl (Nat.le_of_ble_eq_true rfl) dX12_hold_23 ⟨(Nat.le_of_ble_eq_true rfl), (Nat.le_of_ble_eq_true rfl)⟩) (fun r6 u4 H locs w5 hP hD hS => ?_)
  subst w5
  have hP : va_P K.1 classes [(a0, zO 10 83 g0)] H := hP
  have hD : va_D A [(a0, zO 10 83 g0)] := hD
  refine z_calli [(a0, zO 10 83 g0)] [] [0] [] hP hD hS hA rfl rfl (by decide) (by decide) (by decide +kernel) 0 0 rfl rfl (fun hPc hDc hF => z_runV (As := [.int 0, .int 0]) (rest := []) ⟨hx, hb, hml, hown, hg⟩ (cX12_mayTell_1 l K H.size a0 g0) kV_RX12_203 hd_X12_mayTell rfl rfl ⟨(Nat.le_of_ble_eq_true rfl), (Nat.le_of_ble_eq_true rfl)⟩ hK hS hZ hPc hDc hF 0 rfl rfl rfl hl.1 rfl (Nat.le_of_ble_eq_true rfl) dX12_hold_26 ⟨(Nat.le_of_ble_eq_true rfl), (Nat.le_of_ble_eq_true rfl)⟩) (fun r9 u7 H locs w8 hP hD hS => ?_)
  subst w8
  have hP : va_P K.1 classes [(a0, zO 10 83 (va_up g0 81 (.int 1)))] H := hP
  have hD : va_D A [(a0, zO 10 83 (va_up g0 81 (.int 1)))] := hD
  refine lv_if_eq (tgt := 46) hx hb dX12_hold_29 (by decide) (fun _ => ?_) (fun c => absurd (by decide) c)
  refine lv_iconst (v := 0) hx hb dX12_hold_46 (by decide) ?_
  have hP9 : va_P K.1 classes [(a0, zO 10 83 (va_up g0 81 (.int 1)))] H := hP.sub [0] rfl
  have hD9 : va_D A [(a0, zO 10 83 (va_up g0 81 (.int 1)))] := hD.sub [0] (by decide) rfl
  exact z_iret hx hb hr (fun _ => 0) rfl hP9 hD9 hS (Nat.le_of_ble_eq_true rfl) (Nat.le_of_ble_eq_true rfl) hlocks dX12_hold_47
set_option maxHeartbeats 4000000 in
set_option maxRecDepth 100000 in
theorem cX11_par_1 (l : Launch) (hl9 : l.stackTraces = false) (K : zK) (sz : Nat) (a0 : Nat) (a1 : Nat) (g0 : Nat → Value) (g1 : Nat → Value) (x0 : Int32) (x1 : Int32) (e0 : g0 0 = (.ref a1)) (e1 : x1 < (0 : Int32)) : vx_Met l yX11_par (Cond.code yX11_par cX11_par 3 (some .int) :: WG) { frames := 7, cells := 1, slots := 6, locals := 103 } (zPre K [(a0, zO 9 9 g0), (a1, zO 7 6 g1)] sz [.ref a0, .int x0, .int x1]) (va_Qv (fun _ : Unit => False) (fun _ _ => True) (va_A [(a0, zO 9 9 g0), (a1, zO 7 6 g1)] sz)) (zX (va_A [(a0, zO 9 9 g0), (a1, zO 7 6 g1)] sz) zIB) 1 6 (va_A [(a0, zO 9 9 g0), (a1, zO 7 6 g1)] sz) := by
  refine z_xmet (Qc := fun A => va_Qv (fun _ : Unit => False) (fun _ _ => True) A) (XC := fun A => zX A zIB) (by decide +kernel) (Nat.le_of_ble_eq_true rfl) ?_
  intro p e s m args below meth c A ls H hx hb hr hg hown hlocks hml hno hK hP hD hA hS hZ hl
  have hown : s.vm.findClass RX11 = some m.cls := hown
  have hl : lv_has ls 3 [(0, .ref a0), (1, .int x0), (2, .int x1)] := hl
  refine lv_aload_n hx hb dX11_par_0 rfl (lv_at hl 0 rfl) ?_
  refine lv_iload_n hx hb dX11_par_1 rfl (lv_at hl 2 rfl) ?_
  refine z_xcall (EX := zIB) [(a0, zO 9 9 g0), (a1, zO 7 6 g1)] [0, 1] hP hD hS hA rfl (by decide) 1 6 rfl rfl (fun hPc hDc hF => z_xrunV (As := [.int x1]) (rest := []) ⟨hx, hb, hml, hown, hg⟩ (cX11_checkTold_1 l hl9 K H.size a0 a1 g0 g1 x1 e0 e1) kV_RX11_76 hd_X11_checkTold rfl rfl ⟨(Nat.le_of_ble_eq_true rfl), (Nat.le_of_ble_eq_true rfl)⟩ hK hS hZ hPc hDc hF 0 rfl rfl rfl hl.1 rfl (Nat.le_of_ble_eq_true rfl) dX11_par_2 ⟨(Nat.le_of_ble_eq_true rfl), (Nat.le_of_ble_eq_true rfl)⟩) (fun ce q9 H locs hS hce hcv hcl => ?_)
  exact z_xout hno hlocks hS hce hcv hcl (Nat.le_of_ble_eq_true rfl) (Nat.le_of_ble_eq_true rfl)
set_option maxHeartbeats 4000000 in
set_option maxRecDepth 100000 in
theorem cL_par_1 (l : Launch) (hl9 : l.stackTraces = false) (K : zK) (sz : Nat) (a0 : Nat) (a1 : Nat) (a2 : Nat) (g0 : Nat → Value) (g2 : Nat → Value) (x0 : Int32) (x1 : Int32) (e0 : g0 0 = (.ref a2)) (e1 : x1 < (0 : Int32)) : vx_Met l yL_par (Cond.codeWith yL_par cL_par 5 (some .int) [(0, 10, 13, 27), (0, 10, 17, 18), (0, 10, 21, 13)] :: WG) { frames := 8, cells := 1, slots := 6, locals := 125 } (zPre K [(a0, zO 9 9 g0), (a2, zO 7 6 g2)] sz [.ref a0, .int x0, .int x1, .ref a1]) (va_Qi (fun (r : Int32) (_ : Nat → Nat) => r = 1) (zB K (va_A [(a0, zO 9 9 g0), (a2, zO 7 6 g2)] sz) (fun u : Nat → Nat => [])) (va_A [(a0, zO 9 9 g0), (a2, zO 7 6 g2)] sz)) (vx_X (fun _ : Unit => False) (fun _ _ _ => True) (va_A [(a0, zO 9 9 g0), (a2, zO 7 6 g2)] sz)) 1 6 (va_A [(a0, zO 9 9 g0), (a2, zO 7 6 g2)] sz) := by
  refine z_hmet (Qc := fun A => (va_Qi (fun (r : Int32) (_ : Nat → Nat) => r = 1) (zB K A (fun u : Nat → Nat => [])) A)) (XC := fun A => vx_X (fun _ : Unit => False) (fun _ _ _ => True) A) (by decide +kernel) (Nat.le_of_ble_eq_true rfl) ?_
  intro p e s m args below meth c A ls H hx hb hr hg hown hlocks hml hTab hK hP hD hA hS hZ hl
  have hown : s.vm.findClass RL = some m.cls := hown
  have hl : lv_has ls 5 [(0, .ref a0), (1, .int x0), (2, .int x1), (3, .ref a1)] := hl
  refine lv_aload_n hx hb dL_par_0 rfl (lv_at hl 3 rfl) ?_
  refine lv_iconst (v := 0) hx hb dL_par_1 (by decide) ?_
  refine lv_aload_n hx hb dL_par_2 rfl (lv_at hl 0 rfl) ?_
  refine lv_iload_n hx hb dL_par_3 rfl (lv_at hl 1 rfl) ?_
  refine lv_iload_n hx hb dL_par_4 rfl (lv_at hl 2 rfl) ?_
  refine z_xcall (EX := zIB) [(a0, zO 9 9 g0), (a2, zO 7 6 g2)] [0, 1] hP hD hS hA rfl (by decide) 1 6 rfl rfl (fun hPc hDc hF => z_xrunV (As := [.int x0, .int x1]) (rest := [.int 0, .ref a1]) ⟨hx, hb, hml, hown, hg⟩ (cX11_par_1 l hl9 K H.size a0 a2 g0 g2 x0 x1 e0 e1) kV_RL_58 hd_X11_par rfl rfl ⟨(Nat.le_of_ble_eq_true rfl), (Nat.le_of_ble_eq_true rfl)⟩ hK hS hZ hPc hDc hF 0 rfl rfl rfl hl.1 rfl (Nat.le_of_ble_eq_true rfl) dL_par_5 ⟨(Nat.le_of_ble_eq_true rfl), (Nat.le_of_ble_eq_true rfl)⟩) (fun ce q9 H locs hS hce hcv hcl => ?_)
  refine vx_catch (own := RL) (name := zIB) (E := zIB) hown [] ⟨0, 10, 13, 27⟩ [⟨0, 10, 17, 18⟩, ⟨0, 10, 21, 13⟩] (by rw [hTab]; rfl) (fun z hz => nomatch hz) (by decide) (by decide) (hg _ mt526) (va_Nw.use rfl hZ.1.1.2.2.2.1) hce hcv hcl ?_
  have hP : va_P K.1 classes [] H := z_P0
  have hD : va_D A [] := z_D0
  refine lv_astore (lv' := [(4, .ref q9), (0, .ref a0), (1, .int x0), (2, .int x1), (3, .ref a1)]) hx hb dL_par_13 hl (by decide) rfl (fun ls hl => ?_)
  refine lv_iconst (v := 1) hx hb dL_par_15 (by decide) ?_
  have hP9 : va_P K.1 classes [] H := hP.sub [] rfl
  have hD9 : va_D A [] := hD.sub [] (by decide) rfl
  exact z_iret hx hb hr (fun _ => 0) rfl hP9 hD9 hS (Nat.le_of_ble_eq_true rfl) (Nat.le_of_ble_eq_true rfl) hlocks dL_par_16
set_option maxHeartbeats 4000000 in
set_option maxRecDepth 100000 in
theorem cX12_par_1 (l : Launch) (K : zK) (sz : Nat) (a0 : Nat) (g0 : Nat → Value) (x0 : Int32) (x1 : Int32) (e0 : g0 0 = (.int 0)) (e1 : x1 < (0 : Int32)) (e2 : x0 < (0 : Int32)) : Met l yX12_par (Cond.code yX12_par cX12_par 3 (some .int) :: WG) { frames := 2, cells := 0, slots := 0, locals := 43 } (zPre K [(a0, zO 10 83 g0)] sz [.ref a0, .int x0, .int x1]) (va_Qi (fun (r : Int32) (_ : Nat → Nat) => r = 0) (zB K (va_A [(a0, zO 10 83 g0)] sz) (fun u : Nat → Nat => [(a0, zO 10 83 (va_up g0 81 (.int 1)))])) (va_A [(a0, zO 10 83 g0)] sz)) 0 0 (va_A [(a0, zO 10 83 g0)] sz) := by
  refine z_met (Qc := fun A => (va_Qi (fun (r : Int32) (_ : Nat → Nat) => r = 0) (zB K A (fun u : Nat → Nat => [(a0, zO 10 83 (va_up g0 81 (.int 1)))])) A)) (by decide +kernel) (Nat.le_of_ble_eq_true rfl) ?_
  intro p e s m args below meth c A ls H hx hb hr hg hown hlocks hml hin hK hP hD hA hS hZ hl
  have hown : s.vm.findClass RX12 = some m.cls := hown
  have hl : lv_has ls 3 [(0, .ref a0), (1, .int x0), (2, .int x1)] := hl
  refine lv_aload_n hx hb dX12_par_0 rfl (lv_at hl 0 rfl) ?_
  refine lv_aload_n hx hb dX12_par_1 rfl (lv_at hl 0 rfl) ?_
  refine lv_iload_n hx hb dX12_par_2 rfl (lv_at hl 2 rfl) ?_
  refine z_calli [(a0, zO 10 83 g0)] [] [0] [] hP hD hS hA rfl rfl (by decide) (by decide) (by decide +kernel) 0 0 rfl rfl (fun hPc hDc hF => z_runV (As := [.int x1]) (rest := [.ref a0]) ⟨hx, hb, hml, hown, hg⟩ (cX12_isNode_1 l K H.size a0 g0 x1 e0 e1) kV_RX12_200 hd_X12_isNode rfl rfl ⟨(Nat.le_of_ble_eq_true rfl), (Nat.le_of_ble_eq_true rfl)⟩ hK hS hZ hPc hDc hF 0 rfl rfl rfl hl.1 rfl (Nat.le_of_ble_eq_true rfl) dX12_par_3 ⟨(Nat.le_of_ble_eq_true rfl), (Nat.le_of_ble_eq_true rfl)⟩) (fun r3 u1 H locs w2 hP hD hS => ?_)
  subst w2
  have hP : va_P K.1 classes [(a0, zO 10 83 g0)] H := hP
  have hD : va_D A [(a0, zO 10 83 g0)] := hD
  refine lv_iload_n hx hb dX12_par_6 rfl (lv_at hl 1 rfl) ?_
  refine z_calli [] [(a0, zO 10 83 g0)] [] [0] hP hD hS hA rfl rfl (by decide) (by decide) (by decide +kernel) 0 0 rfl rfl (fun hPc hDc hF => z_runS (As := [.int x0]) (rest := [.int 0, .ref a0]) ⟨hx, hb, hml, hown, hg⟩ (cX12_isName_1 l K H.size x0 e2) kS_RX12_190 hd_X12_isName rfl rfl ⟨(Nat.le_of_ble_eq_true rfl), (Nat.le_of_ble_eq_true rfl)⟩ hK hS hZ hPc hDc hF rfl hl.1 rfl (Nat.le_of_ble_eq_true rfl) dX12_par_7 ⟨(Nat.le_of_ble_eq_true rfl), (Nat.le_of_ble_eq_true rfl)⟩) (fun r6 u4 H locs w5 hP hD hS => ?_)
  subst w5
  have hP : va_P K.1 classes [(a0, zO 10 83 g0)] H := hP
  have hD : va_D A [(a0, zO 10 83 g0)] := hD
  refine z_calli [(a0, zO 10 83 g0)] [] [0] [] hP hD hS hA rfl rfl (by decide) (by decide) (by decide +kernel) 0 0 rfl rfl (fun hPc hDc hF => z_runV (As := [.int 0, .int 0]) (rest := []) ⟨hx, hb, hml, hown, hg⟩ (cX12_mayTell_1 l K H.size a0 g0) kV_RX12_203 hd_X12_mayTell rfl rfl ⟨(Nat.le_of_ble_eq_true rfl), (Nat.le_of_ble_eq_true rfl)⟩ hK hS hZ hPc hDc hF 0 rfl rfl rfl hl.1 rfl (Nat.le_of_ble_eq_true rfl) dX12_par_10 ⟨(Nat.le_of_ble_eq_true rfl), (Nat.le_of_ble_eq_true rfl)⟩) (fun r9 u7 H locs w8 hP hD hS => ?_)
  subst w8
  have hP : va_P K.1 classes [(a0, zO 10 83 (va_up g0 81 (.int 1)))] H := hP
  have hD : va_D A [(a0, zO 10 83 (va_up g0 81 (.int 1)))] := hD
  refine lv_if_eq (tgt := 30) hx hb dX12_par_13 (by decide) (fun _ => ?_) (fun c => absurd (by decide) c)
  refine lv_iconst (v := 0) hx hb dX12_par_30 (by decide) ?_
  have hP9 : va_P K.1 classes [(a0, zO 10 83 (va_up g0 81 (.int 1)))] H := hP.sub [0] rfl
  have hD9 : va_D A [(a0, zO 10 83 (va_up g0 81 (.int 1)))] := hD.sub [0] (by decide) rfl
  exact z_iret hx hb hr (fun _ => 0) rfl hP9 hD9 hS (Nat.le_of_ble_eq_true rfl) (Nat.le_of_ble_eq_true rfl) hlocks dX12_par_31
set_option maxHeartbeats 4000000 in
set_option maxRecDepth 100000 in
theorem cX11_par_2 (l : Launch) (hl9 : l.stackTraces = false) (K : zK) (sz : Nat) (a0 : Nat) (a1 : Nat) (g0 : Nat → Value) (g1 : Nat → Value) (j0 : Nat) (hj0 : j0 < 16) (x1 : Int32) (e0 : g0 0 = (.ref a1)) (e1 : x1 < (0 : Int32)) : vx_Met l yX11_par (Cond.code yX11_par cX11_par 3 (some .int) :: WG) { frames := 7, cells := 1, slots := 6, locals := 103 } (zPre K [(a0, zO 9 9 g0), (a1, zO 7 6 g1)] sz [.ref a0, .int (nI j0), .int x1]) (va_Qv (fun _ : Unit => False) (fun _ _ => True) (va_A [(a0, zO 9 9 g0), (a1, zO 7 6 g1)] sz)) (zX (va_A [(a0, zO 9 9 g0), (a1, zO 7 6 g1)] sz) zIB) 1 6 (va_A [(a0, zO 9 9 g0), (a1, zO 7 6 g1)] sz) := by
  refine z_xmet (Qc := fun A => va_Qv (fun _ : Unit => False) (fun _ _ => True) A) (XC := fun A => zX A zIB) (by decide +kernel) (Nat.le_of_ble_eq_true rfl) ?_
  intro p e s m args below meth c A ls H hx hb hr hg hown hlocks hml hno hK hP hD hA hS hZ hl
  have hown : s.vm.findClass RX11 = some m.cls := hown
  have hl : lv_has ls 3 [(0, .ref a0), (1, .int (nI j0)), (2, .int x1)] := hl
  refine lv_aload_n hx hb dX11_par_0 rfl (lv_at hl 0 rfl) ?_
  refine lv_iload_n hx hb dX11_par_1 rfl (lv_at hl 2 rfl) ?_
  refine z_xcall (EX := zIB) [(a0, zO 9 9 g0), (a1, zO 7 6 g1)] [0, 1] hP hD hS hA rfl (by decide) 1 6 rfl rfl (fun hPc hDc hF => z_xrunV (As := [.int x1]) (rest := []) ⟨hx, hb, hml, hown, hg⟩ (cX11_checkTold_1 l hl9 K H.size a0 a1 g0 g1 x1 e0 e1) kV_RX11_76 hd_X11_checkTold rfl rfl ⟨(Nat.le_of_ble_eq_true rfl), (Nat.le_of_ble_eq_true rfl)⟩ hK hS hZ hPc hDc hF 0 rfl rfl rfl hl.1 rfl (Nat.le_of_ble_eq_true rfl) dX11_par_2 ⟨(Nat.le_of_ble_eq_true rfl), (Nat.le_of_ble_eq_true rfl)⟩) (fun ce q9 H locs hS hce hcv hcl => ?_)
  exact z_xout hno hlocks hS hce hcv hcl (Nat.le_of_ble_eq_true rfl) (Nat.le_of_ble_eq_true rfl)
set_option maxHeartbeats 4000000 in
set_option maxRecDepth 100000 in
theorem cL_par_2 (l : Launch) (hl9 : l.stackTraces = false) (K : zK) (sz : Nat) (a0 : Nat) (a1 : Nat) (a2 : Nat) (g0 : Nat → Value) (g2 : Nat → Value) (j0 : Nat) (hj0 : j0 < 16) (x1 : Int32) (e0 : g0 0 = (.ref a2)) (e1 : x1 < (0 : Int32)) : vx_Met l yL_par (Cond.codeWith yL_par cL_par 5 (some .int) [(0, 10, 13, 27), (0, 10, 17, 18), (0, 10, 21, 13)] :: WG) { frames := 8, cells := 1, slots := 6, locals := 125 } (zPre K [(a0, zO 9 9 g0), (a2, zO 7 6 g2)] sz [.ref a0, .int (nI j0), .int x1, .ref a1]) (va_Qi (fun (r : Int32) (_ : Nat → Nat) => r = 1) (zB K (va_A [(a0, zO 9 9 g0), (a2, zO 7 6 g2)] sz) (fun u : Nat → Nat => [])) (va_A [(a0, zO 9 9 g0), (a2, zO 7 6 g2)] sz)) (vx_X (fun _ : Unit => False) (fun _ _ _ => True) (va_A [(a0, zO 9 9 g0), (a2, zO 7 6 g2)] sz)) 1 6 (va_A [(a0, zO 9 9 g0), (a2, zO 7 6 g2)] sz) := by
  refine z_hmet (Qc := fun A => (va_Qi (fun (r : Int32) (_ : Nat → Nat) => r = 1) (zB K A (fun u : Nat → Nat => [])) A)) (XC := fun A => vx_X (fun _ : Unit => False) (fun _ _ _ => True) A) (by decide +kernel) (Nat.le_of_ble_eq_true rfl) ?_
  intro p e s m args below meth c A ls H hx hb hr hg hown hlocks hml hTab hK hP hD hA hS hZ hl
  have hown : s.vm.findClass RL = some m.cls := hown
  have hl : lv_has ls 5 [(0, .ref a0), (1, .int (nI j0)), (2, .int x1), (3, .ref a1)] := hl
  refine lv_aload_n hx hb dL_par_0 rfl (lv_at hl 3 rfl) ?_
  refine lv_iconst (v := 0) hx hb dL_par_1 (by decide) ?_
  refine lv_aload_n hx hb dL_par_2 rfl (lv_at hl 0 rfl) ?_
  refine lv_iload_n hx hb dL_par_3 rfl (lv_at hl 1 rfl) ?_
  refine lv_iload_n hx hb dL_par_4 rfl (lv_at hl 2 rfl) ?_
  refine z_xcall (EX := zIB) [(a0, zO 9 9 g0), (a2, zO 7 6 g2)] [0, 1] hP hD hS hA rfl (by decide) 1 6 rfl rfl (fun hPc hDc hF => z_xrunV (As := [.int (nI j0), .int x1]) (rest := [.int 0, .ref a1]) ⟨hx, hb, hml, hown, hg⟩ (cX11_par_2 l hl9 K H.size a0 a2 g0 g2 j0 hj0 x1 e0 e1) kV_RL_58 hd_X11_par rfl rfl ⟨(Nat.le_of_ble_eq_true rfl), (Nat.le_of_ble_eq_true rfl)⟩ hK hS hZ hPc hDc hF 0 rfl rfl rfl hl.1 rfl (Nat.le_of_ble_eq_true rfl) dL_par_5 ⟨(Nat.le_of_ble_eq_true rfl), (Nat.le_of_ble_eq_true rfl)⟩) (fun ce q9 H locs hS hce hcv hcl => ?_)
  refine vx_catch (own := RL) (name := zIB) (E := zIB) hown [] ⟨0, 10, 13, 27⟩ [⟨0, 10, 17, 18⟩, ⟨0, 10, 21, 13⟩] (by rw [hTab]; rfl) (fun z hz => nomatch hz) (by decide) (by decide) (hg _ mt526) (va_Nw.use rfl hZ.1.1.2.2.2.1) hce hcv hcl ?_
  have hP : va_P K.1 classes [] H := z_P0
  have hD : va_D A [] := z_D0
  refine lv_astore (lv' := [(4, .ref q9), (0, .ref a0), (1, .int (nI j0)), (2, .int x1), (3, .ref a1)]) hx hb dL_par_13 hl (by decide) rfl (fun ls hl => ?_)
  refine lv_iconst (v := 1) hx hb dL_par_15 (by decide) ?_
  have hP9 : va_P K.1 classes [] H := hP.sub [] rfl
  have hD9 : va_D A [] := hD.sub [] (by decide) rfl
  exact z_iret hx hb hr (fun _ => 0) rfl hP9 hD9 hS (Nat.le_of_ble_eq_true rfl) (Nat.le_of_ble_eq_true rfl) hlocks dL_par_16
set_option maxHeartbeats 4000000 in
set_option maxRecDepth 100000 in
theorem cX12_par_2 (l : Launch) (K : zK) (sz : Nat) (a0 : Nat) (g0 : Nat → Value) (j0 : Nat) (hj0 : j0 < 16) (x1 : Int32) (e0 : g0 0 = (.int 0)) (e1 : x1 < (0 : Int32)) : Met l yX12_par (Cond.code yX12_par cX12_par 3 (some .int) :: WG) { frames := 2, cells := 0, slots := 0, locals := 43 } (zPre K [(a0, zO 10 83 g0)] sz [.ref a0, .int (nI j0), .int x1]) (va_Qi (fun (r : Int32) (_ : Nat → Nat) => r = 0) (zB K (va_A [(a0, zO 10 83 g0)] sz) (fun u : Nat → Nat => [(a0, zO 10 83 (va_up g0 81 (.int 1)))])) (va_A [(a0, zO 10 83 g0)] sz)) 0 0 (va_A [(a0, zO 10 83 g0)] sz) := by
  refine z_met (Qc := fun A => (va_Qi (fun (r : Int32) (_ : Nat → Nat) => r = 0) (zB K A (fun u : Nat → Nat => [(a0, zO 10 83 (va_up g0 81 (.int 1)))])) A)) (by decide +kernel) (Nat.le_of_ble_eq_true rfl) ?_
  intro p e s m args below meth c A ls H hx hb hr hg hown hlocks hml hin hK hP hD hA hS hZ hl
  have hown : s.vm.findClass RX12 = some m.cls := hown
  have hl : lv_has ls 3 [(0, .ref a0), (1, .int (nI j0)), (2, .int x1)] := hl
  refine lv_aload_n hx hb dX12_par_0 rfl (lv_at hl 0 rfl) ?_
  refine lv_aload_n hx hb dX12_par_1 rfl (lv_at hl 0 rfl) ?_
  refine lv_iload_n hx hb dX12_par_2 rfl (lv_at hl 2 rfl) ?_
  refine z_calli [(a0, zO 10 83 g0)] [] [0] [] hP hD hS hA rfl rfl (by decide) (by decide) (by decide +kernel) 0 0 rfl rfl (fun hPc hDc hF => z_runV (As := [.int x1]) (rest := [.ref a0]) ⟨hx, hb, hml, hown, hg⟩ (cX12_isNode_1 l K H.size a0 g0 x1 e0 e1) kV_RX12_200 hd_X12_isNode rfl rfl ⟨(Nat.le_of_ble_eq_true rfl), (Nat.le_of_ble_eq_true rfl)⟩ hK hS hZ hPc hDc hF 0 rfl rfl rfl hl.1 rfl (Nat.le_of_ble_eq_true rfl) dX12_par_3 ⟨(Nat.le_of_ble_eq_true rfl), (Nat.le_of_ble_eq_true rfl)⟩) (fun r3 u1 H locs w2 hP hD hS => ?_)
  subst w2
  have hP : va_P K.1 classes [(a0, zO 10 83 g0)] H := hP
  have hD : va_D A [(a0, zO 10 83 g0)] := hD
  refine lv_iload_n hx hb dX12_par_6 rfl (lv_at hl 1 rfl) ?_
  refine z_calli [] [(a0, zO 10 83 g0)] [] [0] hP hD hS hA rfl rfl (by decide) (by decide) (by decide +kernel) 0 0 rfl rfl (fun hPc hDc hF => z_runS (As := [.int (nI j0)]) (rest := [.int 0, .ref a0]) ⟨hx, hb, hml, hown, hg⟩ (cX12_isName_2 l K H.size j0 hj0) kS_RX12_190 hd_X12_isName rfl rfl ⟨(Nat.le_of_ble_eq_true rfl), (Nat.le_of_ble_eq_true rfl)⟩ hK hS hZ hPc hDc hF rfl hl.1 rfl (Nat.le_of_ble_eq_true rfl) dX12_par_7 ⟨(Nat.le_of_ble_eq_true rfl), (Nat.le_of_ble_eq_true rfl)⟩) (fun r6 u4 H locs w5 hP hD hS => ?_)
  subst w5
  have hP : va_P K.1 classes [(a0, zO 10 83 g0)] H := hP
  have hD : va_D A [(a0, zO 10 83 g0)] := hD
  refine z_calli [(a0, zO 10 83 g0)] [] [0] [] hP hD hS hA rfl rfl (by decide) (by decide) (by decide +kernel) 0 0 rfl rfl (fun hPc hDc hF => z_runV (As := [.int 0, .int 1]) (rest := []) ⟨hx, hb, hml, hown, hg⟩ (cX12_mayTell_2 l K H.size a0 g0) kV_RX12_203 hd_X12_mayTell rfl rfl ⟨(Nat.le_of_ble_eq_true rfl), (Nat.le_of_ble_eq_true rfl)⟩ hK hS hZ hPc hDc hF 0 rfl rfl rfl hl.1 rfl (Nat.le_of_ble_eq_true rfl) dX12_par_10 ⟨(Nat.le_of_ble_eq_true rfl), (Nat.le_of_ble_eq_true rfl)⟩) (fun r9 u7 H locs w8 hP hD hS => ?_)
  subst w8
  have hP : va_P K.1 classes [(a0, zO 10 83 (va_up g0 81 (.int 1)))] H := hP
  have hD : va_D A [(a0, zO 10 83 (va_up g0 81 (.int 1)))] := hD
  refine lv_if_eq (tgt := 30) hx hb dX12_par_13 (by decide) (fun _ => ?_) (fun c => absurd (by decide) c)
  refine lv_iconst (v := 0) hx hb dX12_par_30 (by decide) ?_
  have hP9 : va_P K.1 classes [(a0, zO 10 83 (va_up g0 81 (.int 1)))] H := hP.sub [0] rfl
  have hD9 : va_D A [(a0, zO 10 83 (va_up g0 81 (.int 1)))] := hD.sub [0] (by decide) rfl
  exact z_iret hx hb hr (fun _ => 0) rfl hP9 hD9 hS (Nat.le_of_ble_eq_true rfl) (Nat.le_of_ble_eq_true rfl) hlocks dX12_par_31
set_option maxHeartbeats 4000000 in
set_option maxRecDepth 100000 in
theorem cX12_par_3 (l : Launch) (K : zK) (sz : Nat) (a0 : Nat) (g0 : Nat → Value) (x0 : Int32) (x1 : Int32) (e0 : g0 0 = (.int 0)) (e1 : x1 < (0 : Int32)) (e2 : ¬ x0 < (0 : Int32)) (e3 : (15 : Int32) < x0) : Met l yX12_par (Cond.code yX12_par cX12_par 3 (some .int) :: WG) { frames := 2, cells := 0, slots := 0, locals := 43 } (zPre K [(a0, zO 10 83 g0)] sz [.ref a0, .int x0, .int x1]) (va_Qi (fun (r : Int32) (_ : Nat → Nat) => r = 0) (zB K (va_A [(a0, zO 10 83 g0)] sz) (fun u : Nat → Nat => [(a0, zO 10 83 (va_up g0 81 (.int 1)))])) (va_A [(a0, zO 10 83 g0)] sz)) 0 0 (va_A [(a0, zO 10 83 g0)] sz) := by
  refine z_met (Qc := fun A => (va_Qi (fun (r : Int32) (_ : Nat → Nat) => r = 0) (zB K A (fun u : Nat → Nat => [(a0, zO 10 83 (va_up g0 81 (.int 1)))])) A)) (by decide +kernel) (Nat.le_of_ble_eq_true rfl) ?_
  intro p e s m args below meth c A ls H hx hb hr hg hown hlocks hml hin hK hP hD hA hS hZ hl
  have hown : s.vm.findClass RX12 = some m.cls := hown
  have hl : lv_has ls 3 [(0, .ref a0), (1, .int x0), (2, .int x1)] := hl
  refine lv_aload_n hx hb dX12_par_0 rfl (lv_at hl 0 rfl) ?_
  refine lv_aload_n hx hb dX12_par_1 rfl (lv_at hl 0 rfl) ?_
  refine lv_iload_n hx hb dX12_par_2 rfl (lv_at hl 2 rfl) ?_
  refine z_calli [(a0, zO 10 83 g0)] [] [0] [] hP hD hS hA rfl rfl (by decide) (by decide) (by decide +kernel) 0 0 rfl rfl (fun hPc hDc hF => z_runV (As := [.int x1]) (rest := [.ref a0]) ⟨hx, hb, hml, hown, hg⟩ (cX12_isNode_1 l K H.size a0 g0 x1 e0 e1) kV_RX12_200 hd_X12_isNode rfl rfl ⟨(Nat.le_of_ble_eq_true rfl), (Nat.le_of_ble_eq_true rfl)⟩ hK hS hZ hPc hDc hF 0 rfl rfl rfl hl.1 rfl (Nat.le_of_ble_eq_true rfl) dX12_par_3 ⟨(Nat.le_of_ble_eq_true rfl), (Nat.le_of_ble_eq_true rfl)⟩) (fun r3 u1 H locs w2 hP hD hS => ?_)
  subst w2
  have hP : va_P K.1 classes [(a0, zO 10 83 g0)] H := hP
  have hD : va_D A [(a0, zO 10 83 g0)] := hD
  refine lv_iload_n hx hb dX12_par_6 rfl (lv_at hl 1 rfl) ?_
  refine z_calli [] [(a0, zO 10 83 g0)] [] [0] hP hD hS hA rfl rfl (by decide) (by decide) (by decide +kernel) 0 0 rfl rfl (fun hPc hDc hF => z_runS (As := [.int x0]) (rest := [.int 0, .ref a0]) ⟨hx, hb, hml, hown, hg⟩ (cX12_isName_3 l K H.size x0 e2 e3) kS_RX12_190 hd_X12_isName rfl rfl ⟨(Nat.le_of_ble_eq_true rfl), (Nat.le_of_ble_eq_true rfl)⟩ hK hS hZ hPc hDc hF rfl hl.1 rfl (Nat.le_of_ble_eq_true rfl) dX12_par_7 ⟨(Nat.le_of_ble_eq_true rfl), (Nat.le_of_ble_eq_true rfl)⟩) (fun r6 u4 H locs w5 hP hD hS => ?_)
  subst w5
  have hP : va_P K.1 classes [(a0, zO 10 83 g0)] H := hP
  have hD : va_D A [(a0, zO 10 83 g0)] := hD
  refine z_calli [(a0, zO 10 83 g0)] [] [0] [] hP hD hS hA rfl rfl (by decide) (by decide) (by decide +kernel) 0 0 rfl rfl (fun hPc hDc hF => z_runV (As := [.int 0, .int 0]) (rest := []) ⟨hx, hb, hml, hown, hg⟩ (cX12_mayTell_1 l K H.size a0 g0) kV_RX12_203 hd_X12_mayTell rfl rfl ⟨(Nat.le_of_ble_eq_true rfl), (Nat.le_of_ble_eq_true rfl)⟩ hK hS hZ hPc hDc hF 0 rfl rfl rfl hl.1 rfl (Nat.le_of_ble_eq_true rfl) dX12_par_10 ⟨(Nat.le_of_ble_eq_true rfl), (Nat.le_of_ble_eq_true rfl)⟩) (fun r9 u7 H locs w8 hP hD hS => ?_)
  subst w8
  have hP : va_P K.1 classes [(a0, zO 10 83 (va_up g0 81 (.int 1)))] H := hP
  have hD : va_D A [(a0, zO 10 83 (va_up g0 81 (.int 1)))] := hD
  refine lv_if_eq (tgt := 30) hx hb dX12_par_13 (by decide) (fun _ => ?_) (fun c => absurd (by decide) c)
  refine lv_iconst (v := 0) hx hb dX12_par_30 (by decide) ?_
  have hP9 : va_P K.1 classes [(a0, zO 10 83 (va_up g0 81 (.int 1)))] H := hP.sub [0] rfl
  have hD9 : va_D A [(a0, zO 10 83 (va_up g0 81 (.int 1)))] := hD.sub [0] (by decide) rfl
  exact z_iret hx hb hr (fun _ => 0) rfl hP9 hD9 hS (Nat.le_of_ble_eq_true rfl) (Nat.le_of_ble_eq_true rfl) hlocks dX12_par_31
set_option maxHeartbeats 4000000 in
set_option maxRecDepth 100000 in
theorem cX11_par_3 (l : Launch) (hl9 : l.stackTraces = false) (K : zK) (sz : Nat) (a0 : Nat) (a1 : Nat) (g0 : Nat → Value) (g1 : Nat → Value) (x0 : Int32) (x1 : Int32) (e0 : g0 0 = (.ref a1)) (e1 : ¬ x1 < (0 : Int32)) (e2 : g1 5 = (.int 0)) (e3 : (0 : Int32) ≤ x1) : vx_Met l yX11_par (Cond.code yX11_par cX11_par 3 (some .int) :: WG) { frames := 7, cells := 1, slots := 6, locals := 103 } (zPre K [(a0, zO 9 9 g0), (a1, zO 7 6 g1)] sz [.ref a0, .int x0, .int x1]) (va_Qv (fun _ : Unit => False) (fun _ _ => True) (va_A [(a0, zO 9 9 g0), (a1, zO 7 6 g1)] sz)) (zX (va_A [(a0, zO 9 9 g0), (a1, zO 7 6 g1)] sz) zIB) 1 6 (va_A [(a0, zO 9 9 g0), (a1, zO 7 6 g1)] sz) := by
  refine z_xmet (Qc := fun A => va_Qv (fun _ : Unit => False) (fun _ _ => True) A) (XC := fun A => zX A zIB) (by decide +kernel) (Nat.le_of_ble_eq_true rfl) ?_
  intro p e s m args below meth c A ls H hx hb hr hg hown hlocks hml hno hK hP hD hA hS hZ hl
  have hown : s.vm.findClass RX11 = some m.cls := hown
  have hl : lv_has ls 3 [(0, .ref a0), (1, .int x0), (2, .int x1)] := hl
  refine lv_aload_n hx hb dX11_par_0 rfl (lv_at hl 0 rfl) ?_
  refine lv_iload_n hx hb dX11_par_1 rfl (lv_at hl 2 rfl) ?_
  refine z_xcall (EX := zIB) [(a0, zO 9 9 g0), (a1, zO 7 6 g1)] [0, 1] hP hD hS hA rfl (by decide) 1 6 rfl rfl (fun hPc hDc hF => z_xrunV (As := [.int x1]) (rest := []) ⟨hx, hb, hml, hown, hg⟩ (cX11_checkTold_2 l hl9 K H.size a0 a1 g0 g1 x1 e0 e1 e2 e3) kV_RX11_76 hd_X11_checkTold rfl rfl ⟨(Nat.le_of_ble_eq_true rfl), (Nat.le_of_ble_eq_true rfl)⟩ hK hS hZ hPc hDc hF 0 rfl rfl rfl hl.1 rfl (Nat.le_of_ble_eq_true rfl) dX11_par_2 ⟨(Nat.le_of_ble_eq_true rfl), (Nat.le_of_ble_eq_true rfl)⟩) (fun ce q9 H locs hS hce hcv hcl => ?_)
  exact z_xout hno hlocks hS hce hcv hcl (Nat.le_of_ble_eq_true rfl) (Nat.le_of_ble_eq_true rfl)
set_option maxHeartbeats 4000000 in
set_option maxRecDepth 100000 in
theorem cL_par_3 (l : Launch) (hl9 : l.stackTraces = false) (K : zK) (sz : Nat) (a0 : Nat) (a1 : Nat) (a2 : Nat) (g0 : Nat → Value) (g2 : Nat → Value) (x0 : Int32) (x1 : Int32) (e0 : g0 0 = (.ref a2)) (e1 : ¬ x1 < (0 : Int32)) (e2 : g2 5 = (.int 0)) (e3 : (0 : Int32) ≤ x1) : vx_Met l yL_par (Cond.codeWith yL_par cL_par 5 (some .int) [(0, 10, 13, 27), (0, 10, 17, 18), (0, 10, 21, 13)] :: WG) { frames := 8, cells := 1, slots := 6, locals := 125 } (zPre K [(a0, zO 9 9 g0), (a2, zO 7 6 g2)] sz [.ref a0, .int x0, .int x1, .ref a1]) (va_Qi (fun (r : Int32) (_ : Nat → Nat) => r = 1) (zB K (va_A [(a0, zO 9 9 g0), (a2, zO 7 6 g2)] sz) (fun u : Nat → Nat => [])) (va_A [(a0, zO 9 9 g0), (a2, zO 7 6 g2)] sz)) (vx_X (fun _ : Unit => False) (fun _ _ _ => True) (va_A [(a0, zO 9 9 g0), (a2, zO 7 6 g2)] sz)) 1 6 (va_A [(a0, zO 9 9 g0), (a2, zO 7 6 g2)] sz) := by
  refine z_hmet (Qc := fun A => (va_Qi (fun (r : Int32) (_ : Nat → Nat) => r = 1) (zB K A (fun u : Nat → Nat => [])) A)) (XC := fun A => vx_X (fun _ : Unit => False) (fun _ _ _ => True) A) (by decide +kernel) (Nat.le_of_ble_eq_true rfl) ?_
  intro p e s m args below meth c A ls H hx hb hr hg hown hlocks hml hTab hK hP hD hA hS hZ hl
  have hown : s.vm.findClass RL = some m.cls := hown
  have hl : lv_has ls 5 [(0, .ref a0), (1, .int x0), (2, .int x1), (3, .ref a1)] := hl
  refine lv_aload_n hx hb dL_par_0 rfl (lv_at hl 3 rfl) ?_
  refine lv_iconst (v := 0) hx hb dL_par_1 (by decide) ?_
  refine lv_aload_n hx hb dL_par_2 rfl (lv_at hl 0 rfl) ?_
  refine lv_iload_n hx hb dL_par_3 rfl (lv_at hl 1 rfl) ?_
  refine lv_iload_n hx hb dL_par_4 rfl (lv_at hl 2 rfl) ?_
  refine z_xcall (EX := zIB) [(a0, zO 9 9 g0), (a2, zO 7 6 g2)] [0, 1] hP hD hS hA rfl (by decide) 1 6 rfl rfl (fun hPc hDc hF => z_xrunV (As := [.int x0, .int x1]) (rest := [.int 0, .ref a1]) ⟨hx, hb, hml, hown, hg⟩ (cX11_par_3 l hl9 K H.size a0 a2 g0 g2 x0 x1 e0 e1 e2 e3) kV_RL_58 hd_X11_par rfl rfl ⟨(Nat.le_of_ble_eq_true rfl), (Nat.le_of_ble_eq_true rfl)⟩ hK hS hZ hPc hDc hF 0 rfl rfl rfl hl.1 rfl (Nat.le_of_ble_eq_true rfl) dL_par_5 ⟨(Nat.le_of_ble_eq_true rfl), (Nat.le_of_ble_eq_true rfl)⟩) (fun ce q9 H locs hS hce hcv hcl => ?_)
  refine vx_catch (own := RL) (name := zIB) (E := zIB) hown [] ⟨0, 10, 13, 27⟩ [⟨0, 10, 17, 18⟩, ⟨0, 10, 21, 13⟩] (by rw [hTab]; rfl) (fun z hz => nomatch hz) (by decide) (by decide) (hg _ mt526) (va_Nw.use rfl hZ.1.1.2.2.2.1) hce hcv hcl ?_
  have hP : va_P K.1 classes [] H := z_P0
  have hD : va_D A [] := z_D0
  refine lv_astore (lv' := [(4, .ref q9), (0, .ref a0), (1, .int x0), (2, .int x1), (3, .ref a1)]) hx hb dL_par_13 hl (by decide) rfl (fun ls hl => ?_)
  refine lv_iconst (v := 1) hx hb dL_par_15 (by decide) ?_
  have hP9 : va_P K.1 classes [] H := hP.sub [] rfl
  have hD9 : va_D A [] := hD.sub [] (by decide) rfl
  exact z_iret hx hb hr (fun _ => 0) rfl hP9 hD9 hS (Nat.le_of_ble_eq_true rfl) (Nat.le_of_ble_eq_true rfl) hlocks dL_par_16
set_option maxHeartbeats 4000000 in
set_option maxRecDepth 100000 in
theorem cX12_par_4 (l : Launch) (K : zK) (sz : Nat) (a0 : Nat) (g0 : Nat → Value) (x0 : Int32) (x1 : Int32) (e0 : g0 0 = (.int 0)) (e1 : ¬ x1 < (0 : Int32)) (e2 : (-1 : Int32) < x1) (e3 : x0 < (0 : Int32)) : Met l yX12_par (Cond.code yX12_par cX12_par 3 (some .int) :: WG) { frames := 2, cells := 0, slots := 0, locals := 43 } (zPre K [(a0, zO 10 83 g0)] sz [.ref a0, .int x0, .int x1]) (va_Qi (fun (r : Int32) (_ : Nat → Nat) => r = 0) (zB K (va_A [(a0, zO 10 83 g0)] sz) (fun u : Nat → Nat => [(a0, zO 10 83 (va_up g0 81 (.int 1)))])) (va_A [(a0, zO 10 83 g0)] sz)) 0 0 (va_A [(a0, zO 10 83 g0)] sz) := by
  refine z_met (Qc := fun A => (va_Qi (fun (r : Int32) (_ : Nat → Nat) => r = 0) (zB K A (fun u : Nat → Nat => [(a0, zO 10 83 (va_up g0 81 (.int 1)))])) A)) (by decide +kernel) (Nat.le_of_ble_eq_true rfl) ?_
  intro p e s m args below meth c A ls H hx hb hr hg hown hlocks hml hin hK hP hD hA hS hZ hl
  have hown : s.vm.findClass RX12 = some m.cls := hown
  have hl : lv_has ls 3 [(0, .ref a0), (1, .int x0), (2, .int x1)] := hl
  refine lv_aload_n hx hb dX12_par_0 rfl (lv_at hl 0 rfl) ?_
  refine lv_aload_n hx hb dX12_par_1 rfl (lv_at hl 0 rfl) ?_
  refine lv_iload_n hx hb dX12_par_2 rfl (lv_at hl 2 rfl) ?_
  refine z_calli [(a0, zO 10 83 g0)] [] [0] [] hP hD hS hA rfl rfl (by decide) (by decide) (by decide +kernel) 0 0 rfl rfl (fun hPc hDc hF => z_runV (As := [.int x1]) (rest := [.ref a0]) ⟨hx, hb, hml, hown, hg⟩ (cX12_isNode_2 l K H.size a0 g0 x1 e0 e1 e2) kV_RX12_200 hd_X12_isNode rfl rfl ⟨(Nat.le_of_ble_eq_true rfl), (Nat.le_of_ble_eq_true rfl)⟩ hK hS hZ hPc hDc hF 0 rfl rfl rfl hl.1 rfl (Nat.le_of_ble_eq_true rfl) dX12_par_3 ⟨(Nat.le_of_ble_eq_true rfl), (Nat.le_of_ble_eq_true rfl)⟩) (fun r3 u1 H locs w2 hP hD hS => ?_)
  subst w2
  have hP : va_P K.1 classes [(a0, zO 10 83 g0)] H := hP
  have hD : va_D A [(a0, zO 10 83 g0)] := hD
  refine lv_iload_n hx hb dX12_par_6 rfl (lv_at hl 1 rfl) ?_
  refine z_calli [] [(a0, zO 10 83 g0)] [] [0] hP hD hS hA rfl rfl (by decide) (by decide) (by decide +kernel) 0 0 rfl rfl (fun hPc hDc hF => z_runS (As := [.int x0]) (rest := [.int 0, .ref a0]) ⟨hx, hb, hml, hown, hg⟩ (cX12_isName_1 l K H.size x0 e3) kS_RX12_190 hd_X12_isName rfl rfl ⟨(Nat.le_of_ble_eq_true rfl), (Nat.le_of_ble_eq_true rfl)⟩ hK hS hZ hPc hDc hF rfl hl.1 rfl (Nat.le_of_ble_eq_true rfl) dX12_par_7 ⟨(Nat.le_of_ble_eq_true rfl), (Nat.le_of_ble_eq_true rfl)⟩) (fun r6 u4 H locs w5 hP hD hS => ?_)
  subst w5
  have hP : va_P K.1 classes [(a0, zO 10 83 g0)] H := hP
  have hD : va_D A [(a0, zO 10 83 g0)] := hD
  refine z_calli [(a0, zO 10 83 g0)] [] [0] [] hP hD hS hA rfl rfl (by decide) (by decide) (by decide +kernel) 0 0 rfl rfl (fun hPc hDc hF => z_runV (As := [.int 0, .int 0]) (rest := []) ⟨hx, hb, hml, hown, hg⟩ (cX12_mayTell_1 l K H.size a0 g0) kV_RX12_203 hd_X12_mayTell rfl rfl ⟨(Nat.le_of_ble_eq_true rfl), (Nat.le_of_ble_eq_true rfl)⟩ hK hS hZ hPc hDc hF 0 rfl rfl rfl hl.1 rfl (Nat.le_of_ble_eq_true rfl) dX12_par_10 ⟨(Nat.le_of_ble_eq_true rfl), (Nat.le_of_ble_eq_true rfl)⟩) (fun r9 u7 H locs w8 hP hD hS => ?_)
  subst w8
  have hP : va_P K.1 classes [(a0, zO 10 83 (va_up g0 81 (.int 1)))] H := hP
  have hD : va_D A [(a0, zO 10 83 (va_up g0 81 (.int 1)))] := hD
  refine lv_if_eq (tgt := 30) hx hb dX12_par_13 (by decide) (fun _ => ?_) (fun c => absurd (by decide) c)
  refine lv_iconst (v := 0) hx hb dX12_par_30 (by decide) ?_
  have hP9 : va_P K.1 classes [(a0, zO 10 83 (va_up g0 81 (.int 1)))] H := hP.sub [0] rfl
  have hD9 : va_D A [(a0, zO 10 83 (va_up g0 81 (.int 1)))] := hD.sub [0] (by decide) rfl
  exact z_iret hx hb hr (fun _ => 0) rfl hP9 hD9 hS (Nat.le_of_ble_eq_true rfl) (Nat.le_of_ble_eq_true rfl) hlocks dX12_par_31
set_option maxHeartbeats 4000000 in
set_option maxRecDepth 100000 in
theorem cX11_par_4 (l : Launch) (hl9 : l.stackTraces = false) (K : zK) (sz : Nat) (a0 : Nat) (a1 : Nat) (g0 : Nat → Value) (g1 : Nat → Value) (j0 : Nat) (hj0 : j0 < 16) (x1 : Int32) (e0 : g0 0 = (.ref a1)) (e1 : ¬ x1 < (0 : Int32)) (e2 : g1 5 = (.int 0)) (e3 : (0 : Int32) ≤ x1) : vx_Met l yX11_par (Cond.code yX11_par cX11_par 3 (some .int) :: WG) { frames := 7, cells := 1, slots := 6, locals := 103 } (zPre K [(a0, zO 9 9 g0), (a1, zO 7 6 g1)] sz [.ref a0, .int (nI j0), .int x1]) (va_Qv (fun _ : Unit => False) (fun _ _ => True) (va_A [(a0, zO 9 9 g0), (a1, zO 7 6 g1)] sz)) (zX (va_A [(a0, zO 9 9 g0), (a1, zO 7 6 g1)] sz) zIB) 1 6 (va_A [(a0, zO 9 9 g0), (a1, zO 7 6 g1)] sz) := by
  refine z_xmet (Qc := fun A => va_Qv (fun _ : Unit => False) (fun _ _ => True) A) (XC := fun A => zX A zIB) (by decide +kernel) (Nat.le_of_ble_eq_true rfl) ?_
  intro p e s m args below meth c A ls H hx hb hr hg hown hlocks hml hno hK hP hD hA hS hZ hl
  have hown : s.vm.findClass RX11 = some m.cls := hown
  have hl : lv_has ls 3 [(0, .ref a0), (1, .int (nI j0)), (2, .int x1)] := hl
  refine lv_aload_n hx hb dX11_par_0 rfl (lv_at hl 0 rfl) ?_
  refine lv_iload_n hx hb dX11_par_1 rfl (lv_at hl 2 rfl) ?_
  refine z_xcall (EX := zIB) [(a0, zO 9 9 g0), (a1, zO 7 6 g1)] [0, 1] hP hD hS hA rfl (by decide) 1 6 rfl rfl (fun hPc hDc hF => z_xrunV (As := [.int x1]) (rest := []) ⟨hx, hb, hml, hown, hg⟩ (cX11_checkTold_2 l hl9 K H.size a0 a1 g0 g1 x1 e0 e1 e2 e3) kV_RX11_76 hd_X11_checkTold rfl rfl ⟨(Nat.le_of_ble_eq_true rfl), (Nat.le_of_ble_eq_true rfl)⟩ hK hS hZ hPc hDc hF 0 rfl rfl rfl hl.1 rfl (Nat.le_of_ble_eq_true rfl) dX11_par_2 ⟨(Nat.le_of_ble_eq_true rfl), (Nat.le_of_ble_eq_true rfl)⟩) (fun ce q9 H locs hS hce hcv hcl => ?_)
  exact z_xout hno hlocks hS hce hcv hcl (Nat.le_of_ble_eq_true rfl) (Nat.le_of_ble_eq_true rfl)
set_option maxHeartbeats 4000000 in
set_option maxRecDepth 100000 in
theorem cL_par_4 (l : Launch) (hl9 : l.stackTraces = false) (K : zK) (sz : Nat) (a0 : Nat) (a1 : Nat) (a2 : Nat) (g0 : Nat → Value) (g2 : Nat → Value) (j0 : Nat) (hj0 : j0 < 16) (x1 : Int32) (e0 : g0 0 = (.ref a2)) (e1 : ¬ x1 < (0 : Int32)) (e2 : g2 5 = (.int 0)) (e3 : (0 : Int32) ≤ x1) : vx_Met l yL_par (Cond.codeWith yL_par cL_par 5 (some .int) [(0, 10, 13, 27), (0, 10, 17, 18), (0, 10, 21, 13)] :: WG) { frames := 8, cells := 1, slots := 6, locals := 125 } (zPre K [(a0, zO 9 9 g0), (a2, zO 7 6 g2)] sz [.ref a0, .int (nI j0), .int x1, .ref a1]) (va_Qi (fun (r : Int32) (_ : Nat → Nat) => r = 1) (zB K (va_A [(a0, zO 9 9 g0), (a2, zO 7 6 g2)] sz) (fun u : Nat → Nat => [])) (va_A [(a0, zO 9 9 g0), (a2, zO 7 6 g2)] sz)) (vx_X (fun _ : Unit => False) (fun _ _ _ => True) (va_A [(a0, zO 9 9 g0), (a2, zO 7 6 g2)] sz)) 1 6 (va_A [(a0, zO 9 9 g0), (a2, zO 7 6 g2)] sz) := by
  refine z_hmet (Qc := fun A => (va_Qi (fun (r : Int32) (_ : Nat → Nat) => r = 1) (zB K A (fun u : Nat → Nat => [])) A)) (XC := fun A => vx_X (fun _ : Unit => False) (fun _ _ _ => True) A) (by decide +kernel) (Nat.le_of_ble_eq_true rfl) ?_
  intro p e s m args below meth c A ls H hx hb hr hg hown hlocks hml hTab hK hP hD hA hS hZ hl
  have hown : s.vm.findClass RL = some m.cls := hown
  have hl : lv_has ls 5 [(0, .ref a0), (1, .int (nI j0)), (2, .int x1), (3, .ref a1)] := hl
  refine lv_aload_n hx hb dL_par_0 rfl (lv_at hl 3 rfl) ?_
  refine lv_iconst (v := 0) hx hb dL_par_1 (by decide) ?_
  refine lv_aload_n hx hb dL_par_2 rfl (lv_at hl 0 rfl) ?_
  refine lv_iload_n hx hb dL_par_3 rfl (lv_at hl 1 rfl) ?_
  refine lv_iload_n hx hb dL_par_4 rfl (lv_at hl 2 rfl) ?_
  refine z_xcall (EX := zIB) [(a0, zO 9 9 g0), (a2, zO 7 6 g2)] [0, 1] hP hD hS hA rfl (by decide) 1 6 rfl rfl (fun hPc hDc hF => z_xrunV (As := [.int (nI j0), .int x1]) (rest := [.int 0, .ref a1]) ⟨hx, hb, hml, hown, hg⟩ (cX11_par_4 l hl9 K H.size a0 a2 g0 g2 j0 hj0 x1 e0 e1 e2 e3) kV_RL_58 hd_X11_par rfl rfl ⟨(Nat.le_of_ble_eq_true rfl), (Nat.le_of_ble_eq_true rfl)⟩ hK hS hZ hPc hDc hF 0 rfl rfl rfl hl.1 rfl (Nat.le_of_ble_eq_true rfl) dL_par_5 ⟨(Nat.le_of_ble_eq_true rfl), (Nat.le_of_ble_eq_true rfl)⟩) (fun ce q9 H locs hS hce hcv hcl => ?_)
  refine vx_catch (own := RL) (name := zIB) (E := zIB) hown [] ⟨0, 10, 13, 27⟩ [⟨0, 10, 17, 18⟩, ⟨0, 10, 21, 13⟩] (by rw [hTab]; rfl) (fun z hz => nomatch hz) (by decide) (by decide) (hg _ mt526) (va_Nw.use rfl hZ.1.1.2.2.2.1) hce hcv hcl ?_
  have hP : va_P K.1 classes [] H := z_P0
  have hD : va_D A [] := z_D0
  refine lv_astore (lv' := [(4, .ref q9), (0, .ref a0), (1, .int (nI j0)), (2, .int x1), (3, .ref a1)]) hx hb dL_par_13 hl (by decide) rfl (fun ls hl => ?_)
  refine lv_iconst (v := 1) hx hb dL_par_15 (by decide) ?_
  have hP9 : va_P K.1 classes [] H := hP.sub [] rfl
  have hD9 : va_D A [] := hD.sub [] (by decide) rfl
  exact z_iret hx hb hr (fun _ => 0) rfl hP9 hD9 hS (Nat.le_of_ble_eq_true rfl) (Nat.le_of_ble_eq_true rfl) hlocks dL_par_16
set_option maxHeartbeats 4000000 in
set_option maxRecDepth 100000 in
theorem cX12_par_5 (l : Launch) (K : zK) (sz : Nat) (a0 : Nat) (g0 : Nat → Value) (j0 : Nat) (hj0 : j0 < 16) (x1 : Int32) (e0 : g0 0 = (.int 0)) (e1 : ¬ x1 < (0 : Int32)) (e2 : (-1 : Int32) < x1) : Met l yX12_par (Cond.code yX12_par cX12_par 3 (some .int) :: WG) { frames := 2, cells := 0, slots := 0, locals := 43 } (zPre K [(a0, zO 10 83 g0)] sz [.ref a0, .int (nI j0), .int x1]) (va_Qi (fun (r : Int32) (_ : Nat → Nat) => r = 0) (zB K (va_A [(a0, zO 10 83 g0)] sz) (fun u : Nat → Nat => [(a0, zO 10 83 (va_up g0 81 (.int 1)))])) (va_A [(a0, zO 10 83 g0)] sz)) 0 0 (va_A [(a0, zO 10 83 g0)] sz) := by
  refine z_met (Qc := fun A => (va_Qi (fun (r : Int32) (_ : Nat → Nat) => r = 0) (zB K A (fun u : Nat → Nat => [(a0, zO 10 83 (va_up g0 81 (.int 1)))])) A)) (by decide +kernel) (Nat.le_of_ble_eq_true rfl) ?_
  intro p e s m args below meth c A ls H hx hb hr hg hown hlocks hml hin hK hP hD hA hS hZ hl
  have hown : s.vm.findClass RX12 = some m.cls := hown
  have hl : lv_has ls 3 [(0, .ref a0), (1, .int (nI j0)), (2, .int x1)] := hl
  refine lv_aload_n hx hb dX12_par_0 rfl (lv_at hl 0 rfl) ?_
  refine lv_aload_n hx hb dX12_par_1 rfl (lv_at hl 0 rfl) ?_
  refine lv_iload_n hx hb dX12_par_2 rfl (lv_at hl 2 rfl) ?_
  refine z_calli [(a0, zO 10 83 g0)] [] [0] [] hP hD hS hA rfl rfl (by decide) (by decide) (by decide +kernel) 0 0 rfl rfl (fun hPc hDc hF => z_runV (As := [.int x1]) (rest := [.ref a0]) ⟨hx, hb, hml, hown, hg⟩ (cX12_isNode_2 l K H.size a0 g0 x1 e0 e1 e2) kV_RX12_200 hd_X12_isNode rfl rfl ⟨(Nat.le_of_ble_eq_true rfl), (Nat.le_of_ble_eq_true rfl)⟩ hK hS hZ hPc hDc hF 0 rfl rfl rfl hl.1 rfl (Nat.le_of_ble_eq_true rfl) dX12_par_3 ⟨(Nat.le_of_ble_eq_true rfl), (Nat.le_of_ble_eq_true rfl)⟩) (fun r3 u1 H locs w2 hP hD hS => ?_)
  subst w2
  have hP : va_P K.1 classes [(a0, zO 10 83 g0)] H := hP
  have hD : va_D A [(a0, zO 10 83 g0)] := hD
  refine lv_iload_n hx hb dX12_par_6 rfl (lv_at hl 1 rfl) ?_
  refine z_calli [] [(a0, zO 10 83 g0)] [] [0] hP hD hS hA rfl rfl (by decide) (by decide) (by decide +kernel) 0 0 rfl rfl (fun hPc hDc hF => z_runS (As := [.int (nI j0)]) (rest := [.int 0, .ref a0]) ⟨hx, hb, hml, hown, hg⟩ (cX12_isName_2 l K H.size j0 hj0) kS_RX12_190 hd_X12_isName rfl rfl ⟨(Nat.le_of_ble_eq_true rfl), (Nat.le_of_ble_eq_true rfl)⟩ hK hS hZ hPc hDc hF rfl hl.1 rfl (Nat.le_of_ble_eq_true rfl) dX12_par_7 ⟨(Nat.le_of_ble_eq_true rfl), (Nat.le_of_ble_eq_true rfl)⟩) (fun r6 u4 H locs w5 hP hD hS => ?_)
  subst w5
  have hP : va_P K.1 classes [(a0, zO 10 83 g0)] H := hP
  have hD : va_D A [(a0, zO 10 83 g0)] := hD
  refine z_calli [(a0, zO 10 83 g0)] [] [0] [] hP hD hS hA rfl rfl (by decide) (by decide) (by decide +kernel) 0 0 rfl rfl (fun hPc hDc hF => z_runV (As := [.int 0, .int 1]) (rest := []) ⟨hx, hb, hml, hown, hg⟩ (cX12_mayTell_2 l K H.size a0 g0) kV_RX12_203 hd_X12_mayTell rfl rfl ⟨(Nat.le_of_ble_eq_true rfl), (Nat.le_of_ble_eq_true rfl)⟩ hK hS hZ hPc hDc hF 0 rfl rfl rfl hl.1 rfl (Nat.le_of_ble_eq_true rfl) dX12_par_10 ⟨(Nat.le_of_ble_eq_true rfl), (Nat.le_of_ble_eq_true rfl)⟩) (fun r9 u7 H locs w8 hP hD hS => ?_)
  subst w8
  have hP : va_P K.1 classes [(a0, zO 10 83 (va_up g0 81 (.int 1)))] H := hP
  have hD : va_D A [(a0, zO 10 83 (va_up g0 81 (.int 1)))] := hD
  refine lv_if_eq (tgt := 30) hx hb dX12_par_13 (by decide) (fun _ => ?_) (fun c => absurd (by decide) c)
  refine lv_iconst (v := 0) hx hb dX12_par_30 (by decide) ?_
  have hP9 : va_P K.1 classes [(a0, zO 10 83 (va_up g0 81 (.int 1)))] H := hP.sub [0] rfl
  have hD9 : va_D A [(a0, zO 10 83 (va_up g0 81 (.int 1)))] := hD.sub [0] (by decide) rfl
  exact z_iret hx hb hr (fun _ => 0) rfl hP9 hD9 hS (Nat.le_of_ble_eq_true rfl) (Nat.le_of_ble_eq_true rfl) hlocks dX12_par_31
set_option maxHeartbeats 4000000 in
set_option maxRecDepth 100000 in
theorem cX12_par_6 (l : Launch) (K : zK) (sz : Nat) (a0 : Nat) (g0 : Nat → Value) (x0 : Int32) (x1 : Int32) (e0 : g0 0 = (.int 0)) (e1 : ¬ x1 < (0 : Int32)) (e2 : (-1 : Int32) < x1) (e3 : ¬ x0 < (0 : Int32)) (e4 : (15 : Int32) < x0) : Met l yX12_par (Cond.code yX12_par cX12_par 3 (some .int) :: WG) { frames := 2, cells := 0, slots := 0, locals := 43 } (zPre K [(a0, zO 10 83 g0)] sz [.ref a0, .int x0, .int x1]) (va_Qi (fun (r : Int32) (_ : Nat → Nat) => r = 0) (zB K (va_A [(a0, zO 10 83 g0)] sz) (fun u : Nat → Nat => [(a0, zO 10 83 (va_up g0 81 (.int 1)))])) (va_A [(a0, zO 10 83 g0)] sz)) 0 0 (va_A [(a0, zO 10 83 g0)] sz) := by
  refine z_met (Qc := fun A => (va_Qi (fun (r : Int32) (_ : Nat → Nat) => r = 0) (zB K A (fun u : Nat → Nat => [(a0, zO 10 83 (va_up g0 81 (.int 1)))])) A)) (by decide +kernel) (Nat.le_of_ble_eq_true rfl) ?_
  intro p e s m args below meth c A ls H hx hb hr hg hown hlocks hml hin hK hP hD hA hS hZ hl
  have hown : s.vm.findClass RX12 = some m.cls := hown
  have hl : lv_has ls 3 [(0, .ref a0), (1, .int x0), (2, .int x1)] := hl
  refine lv_aload_n hx hb dX12_par_0 rfl (lv_at hl 0 rfl) ?_
  refine lv_aload_n hx hb dX12_par_1 rfl (lv_at hl 0 rfl) ?_
  refine lv_iload_n hx hb dX12_par_2 rfl (lv_at hl 2 rfl) ?_
  refine z_calli [(a0, zO 10 83 g0)] [] [0] [] hP hD hS hA rfl rfl (by decide) (by decide) (by decide +kernel) 0 0 rfl rfl (fun hPc hDc hF => z_runV (As := [.int x1]) (rest := [.ref a0]) ⟨hx, hb, hml, hown, hg⟩ (cX12_isNode_2 l K H.size a0 g0 x1 e0 e1 e2) kV_RX12_200 hd_X12_isNode rfl rfl ⟨(Nat.le_of_ble_eq_true rfl), (Nat.le_of_ble_eq_true rfl)⟩ hK hS hZ hPc hDc hF 0 rfl rfl rfl hl.1 rfl (Nat.le_of_ble_eq_true rfl) dX12_par_3 ⟨(Nat.le_of_ble_eq_true rfl), (Nat.le_of_ble_eq_true rfl)⟩) (fun r3 u1 H locs w2 hP hD hS => ?_)
  subst w2
  have hP : va_P K.1 classes [(a0, zO 10 83 g0)] H := hP
  have hD : va_D A [(a0, zO 10 83 g0)] := hD
  refine lv_iload_n hx hb dX12_par_6 rfl (lv_at hl 1 rfl) ?_
  refine z_calli [] [(a0, zO 10 83 g0)] [] [0] hP hD hS hA rfl rfl (by decide) (by decide) (by decide +kernel) 0 0 rfl rfl (fun hPc hDc hF => z_runS (As := [.int x0]) (rest := [.int 0, .ref a0]) ⟨hx, hb, hml, hown, hg⟩ (cX12_isName_3 l K H.size x0 e3 e4) kS_RX12_190 hd_X12_isName rfl rfl ⟨(Nat.le_of_ble_eq_true rfl), (Nat.le_of_ble_eq_true rfl)⟩ hK hS hZ hPc hDc hF rfl hl.1 rfl (Nat.le_of_ble_eq_true rfl) dX12_par_7 ⟨(Nat.le_of_ble_eq_true rfl), (Nat.le_of_ble_eq_true rfl)⟩) (fun r6 u4 H locs w5 hP hD hS => ?_)
  subst w5
  have hP : va_P K.1 classes [(a0, zO 10 83 g0)] H := hP
  have hD : va_D A [(a0, zO 10 83 g0)] := hD
  refine z_calli [(a0, zO 10 83 g0)] [] [0] [] hP hD hS hA rfl rfl (by decide) (by decide) (by decide +kernel) 0 0 rfl rfl (fun hPc hDc hF => z_runV (As := [.int 0, .int 0]) (rest := []) ⟨hx, hb, hml, hown, hg⟩ (cX12_mayTell_1 l K H.size a0 g0) kV_RX12_203 hd_X12_mayTell rfl rfl ⟨(Nat.le_of_ble_eq_true rfl), (Nat.le_of_ble_eq_true rfl)⟩ hK hS hZ hPc hDc hF 0 rfl rfl rfl hl.1 rfl (Nat.le_of_ble_eq_true rfl) dX12_par_10 ⟨(Nat.le_of_ble_eq_true rfl), (Nat.le_of_ble_eq_true rfl)⟩) (fun r9 u7 H locs w8 hP hD hS => ?_)
  subst w8
  have hP : va_P K.1 classes [(a0, zO 10 83 (va_up g0 81 (.int 1)))] H := hP
  have hD : va_D A [(a0, zO 10 83 (va_up g0 81 (.int 1)))] := hD
  refine lv_if_eq (tgt := 30) hx hb dX12_par_13 (by decide) (fun _ => ?_) (fun c => absurd (by decide) c)
  refine lv_iconst (v := 0) hx hb dX12_par_30 (by decide) ?_
  have hP9 : va_P K.1 classes [(a0, zO 10 83 (va_up g0 81 (.int 1)))] H := hP.sub [0] rfl
  have hD9 : va_D A [(a0, zO 10 83 (va_up g0 81 (.int 1)))] := hD.sub [0] (by decide) rfl
  exact z_iret hx hb hr (fun _ => 0) rfl hP9 hD9 hS (Nat.le_of_ble_eq_true rfl) (Nat.le_of_ble_eq_true rfl) hlocks dX12_par_31
set_option maxHeartbeats 4000000 in
set_option maxRecDepth 100000 in
theorem cX11_centre_1 (l : Launch) (hl9 : l.stackTraces = false) (K : zK) (sz : Nat) (a0 : Nat) (a1 : Nat) (g0 : Nat → Value) (g1 : Nat → Value) (x0 : Int32) (x1 : Int32) (e0 : g0 0 = (.ref a1)) (e1 : x1 < (0 : Int32)) : vx_Met l yX11_centre (Cond.code yX11_centre cX11_centre 3 (some .int) :: WG) { frames := 7, cells := 1, slots := 6, locals := 103 } (zPre K [(a0, zO 9 9 g0), (a1, zO 7 6 g1)] sz [.ref a0, .int x0, .int x1]) (va_Qv (fun _ : Unit => False) (fun _ _ => True) (va_A [(a0, zO 9 9 g0), (a1, zO 7 6 g1)] sz)) (zX (va_A [(a0, zO 9 9 g0), (a1, zO 7 6 g1)] sz) zIB) 1 6 (va_A [(a0, zO 9 9 g0), (a1, zO 7 6 g1)] sz) := by
  refine z_xmet (Qc := fun A => va_Qv (fun _ : Unit => False) (fun _ _ => True) A) (XC := fun A => zX A zIB) (by decide +kernel) (Nat.le_of_ble_eq_true rfl) ?_
  intro p e s m args below meth c A ls H hx hb hr hg hown hlocks hml hno hK hP hD hA hS hZ hl
  have hown : s.vm.findClass RX11 = some m.cls := hown
  have hl : lv_has ls 3 [(0, .ref a0), (1, .int x0), (2, .int x1)] := hl
  refine lv_aload_n hx hb dX11_centre_0 rfl (lv_at hl 0 rfl) ?_
  refine lv_iload_n hx hb dX11_centre_1 rfl (lv_at hl 2 rfl) ?_
  refine z_xcall (EX := zIB) [(a0, zO 9 9 g0), (a1, zO 7 6 g1)] [0, 1] hP hD hS hA rfl (by decide) 1 6 rfl rfl (fun hPc hDc hF => z_xrunV (As := [.int x1]) (rest := []) ⟨hx, hb, hml, hown, hg⟩ (cX11_checkTold_1 l hl9 K H.size a0 a1 g0 g1 x1 e0 e1) kV_RX11_76 hd_X11_checkTold rfl rfl ⟨(Nat.le_of_ble_eq_true rfl), (Nat.le_of_ble_eq_true rfl)⟩ hK hS hZ hPc hDc hF 0 rfl rfl rfl hl.1 rfl (Nat.le_of_ble_eq_true rfl) dX11_centre_2 ⟨(Nat.le_of_ble_eq_true rfl), (Nat.le_of_ble_eq_true rfl)⟩) (fun ce q9 H locs hS hce hcv hcl => ?_)
  exact z_xout hno hlocks hS hce hcv hcl (Nat.le_of_ble_eq_true rfl) (Nat.le_of_ble_eq_true rfl)
set_option maxHeartbeats 4000000 in
set_option maxRecDepth 100000 in
theorem cL_centre_1 (l : Launch) (hl9 : l.stackTraces = false) (K : zK) (sz : Nat) (a0 : Nat) (a1 : Nat) (a2 : Nat) (g0 : Nat → Value) (g2 : Nat → Value) (x0 : Int32) (x1 : Int32) (e0 : g0 0 = (.ref a2)) (e1 : x1 < (0 : Int32)) : vx_Met l yL_centre (Cond.codeWith yL_centre cL_centre 5 (some .int) [(0, 10, 13, 27), (0, 10, 17, 18), (0, 10, 21, 13)] :: WG) { frames := 8, cells := 1, slots := 6, locals := 125 } (zPre K [(a0, zO 9 9 g0), (a2, zO 7 6 g2)] sz [.ref a0, .int x0, .int x1, .ref a1]) (va_Qi (fun (r : Int32) (_ : Nat → Nat) => r = 1) (zB K (va_A [(a0, zO 9 9 g0), (a2, zO 7 6 g2)] sz) (fun u : Nat → Nat => [])) (va_A [(a0, zO 9 9 g0), (a2, zO 7 6 g2)] sz)) (vx_X (fun _ : Unit => False) (fun _ _ _ => True) (va_A [(a0, zO 9 9 g0), (a2, zO 7 6 g2)] sz)) 1 6 (va_A [(a0, zO 9 9 g0), (a2, zO 7 6 g2)] sz) := by
  refine z_hmet (Qc := fun A => (va_Qi (fun (r : Int32) (_ : Nat → Nat) => r = 1) (zB K A (fun u : Nat → Nat => [])) A)) (XC := fun A => vx_X (fun _ : Unit => False) (fun _ _ _ => True) A) (by decide +kernel) (Nat.le_of_ble_eq_true rfl) ?_
  intro p e s m args below meth c A ls H hx hb hr hg hown hlocks hml hTab hK hP hD hA hS hZ hl
  have hown : s.vm.findClass RL = some m.cls := hown
  have hl : lv_has ls 5 [(0, .ref a0), (1, .int x0), (2, .int x1), (3, .ref a1)] := hl
  refine lv_aload_n hx hb dL_centre_0 rfl (lv_at hl 3 rfl) ?_
  refine lv_iconst (v := 0) hx hb dL_centre_1 (by decide) ?_
  refine lv_aload_n hx hb dL_centre_2 rfl (lv_at hl 0 rfl) ?_
  refine lv_iload_n hx hb dL_centre_3 rfl (lv_at hl 1 rfl) ?_
  refine lv_iload_n hx hb dL_centre_4 rfl (lv_at hl 2 rfl) ?_
  refine z_xcall (EX := zIB) [(a0, zO 9 9 g0), (a2, zO 7 6 g2)] [0, 1] hP hD hS hA rfl (by decide) 1 6 rfl rfl (fun hPc hDc hF => z_xrunV (As := [.int x0, .int x1]) (rest := [.int 0, .ref a1]) ⟨hx, hb, hml, hown, hg⟩ (cX11_centre_1 l hl9 K H.size a0 a2 g0 g2 x0 x1 e0 e1) kV_RL_61 hd_X11_centre rfl rfl ⟨(Nat.le_of_ble_eq_true rfl), (Nat.le_of_ble_eq_true rfl)⟩ hK hS hZ hPc hDc hF 0 rfl rfl rfl hl.1 rfl (Nat.le_of_ble_eq_true rfl) dL_centre_5 ⟨(Nat.le_of_ble_eq_true rfl), (Nat.le_of_ble_eq_true rfl)⟩) (fun ce q9 H locs hS hce hcv hcl => ?_)
  refine vx_catch (own := RL) (name := zIB) (E := zIB) hown [] ⟨0, 10, 13, 27⟩ [⟨0, 10, 17, 18⟩, ⟨0, 10, 21, 13⟩] (by rw [hTab]; rfl) (fun z hz => nomatch hz) (by decide) (by decide) (hg _ mt526) (va_Nw.use rfl hZ.1.1.2.2.2.1) hce hcv hcl ?_
  have hP : va_P K.1 classes [] H := z_P0
  have hD : va_D A [] := z_D0
  refine lv_astore (lv' := [(4, .ref q9), (0, .ref a0), (1, .int x0), (2, .int x1), (3, .ref a1)]) hx hb dL_centre_13 hl (by decide) rfl (fun ls hl => ?_)
  refine lv_iconst (v := 1) hx hb dL_centre_15 (by decide) ?_
  have hP9 : va_P K.1 classes [] H := hP.sub [] rfl
  have hD9 : va_D A [] := hD.sub [] (by decide) rfl
  exact z_iret hx hb hr (fun _ => 0) rfl hP9 hD9 hS (Nat.le_of_ble_eq_true rfl) (Nat.le_of_ble_eq_true rfl) hlocks dL_centre_16
set_option maxHeartbeats 4000000 in
set_option maxRecDepth 100000 in
theorem cX12_centre_1 (l : Launch) (K : zK) (sz : Nat) (a0 : Nat) (g0 : Nat → Value) (x0 : Int32) (x1 : Int32) (e0 : g0 0 = (.int 0)) (e1 : x1 < (0 : Int32)) (e2 : x0 < (0 : Int32)) : Met l yX12_centre (Cond.code yX12_centre cX12_centre 3 (some .int) :: WG) { frames := 2, cells := 0, slots := 0, locals := 43 } (zPre K [(a0, zO 10 83 g0)] sz [.ref a0, .int x0, .int x1]) (va_Qi (fun (r : Int32) (_ : Nat → Nat) => r = 0) (zB K (va_A [(a0, zO 10 83 g0)] sz) (fun u : Nat → Nat => [(a0, zO 10 83 (va_up g0 81 (.int 1)))])) (va_A [(a0, zO 10 83 g0)] sz)) 0 0 (va_A [(a0, zO 10 83 g0)] sz) := by
  refine z_met (Qc := fun A => (va_Qi (fun (r : Int32) (_ : Nat → Nat) => r = 0) (zB K A (fun u : Nat → Nat => [(a0, zO 10 83 (va_up g0 81 (.int 1)))])) A)) (by decide +kernel) (Nat.le_of_ble_eq_true rfl) ?_
  intro p e s m args below meth c A ls H hx hb hr hg hown hlocks hml hin hK hP hD hA hS hZ hl
  have hown : s.vm.findClass RX12 = some m.cls := hown
  have hl : lv_has ls 3 [(0, .ref a0), (1, .int x0), (2, .int x1)] := hl
  refine lv_aload_n hx hb dX12_centre_0 rfl (lv_at hl 0 rfl) ?_
  refine lv_aload_n hx hb dX12_centre_1 rfl (lv_at hl 0 rfl) ?_
  refine lv_iload_n hx hb dX12_centre_2 rfl (lv_at hl 2 rfl) ?_
  refine z_calli [(a0, zO 10 83 g0)] [] [0] [] hP hD hS hA rfl rfl (by decide) (by decide) (by decide +kernel) 0 0 rfl rfl (fun hPc hDc hF => z_runV (As := [.int x1]) (rest := [.ref a0]) ⟨hx, hb, hml, hown, hg⟩ (cX12_isNode_1 l K H.size a0 g0 x1 e0 e1) kV_RX12_200 hd_X12_isNode rfl rfl ⟨(Nat.le_of_ble_eq_true rfl), (Nat.le_of_ble_eq_true rfl)⟩ hK hS hZ hPc hDc hF 0 rfl rfl rfl hl.1 rfl (Nat.le_of_ble_eq_true rfl) dX12_centre_3 ⟨(Nat.le_of_ble_eq_true rfl), (Nat.le_of_ble_eq_true rfl)⟩) (fun r3 u1 H locs w2 hP hD hS => ?_)
  subst w2
  have hP : va_P K.1 classes [(a0, zO 10 83 g0)] H := hP
  have hD : va_D A [(a0, zO 10 83 g0)] := hD
  refine lv_iload_n hx hb dX12_centre_6 rfl (lv_at hl 1 rfl) ?_
  refine lv_iconst (v := 0) hx hb dX12_centre_7 (by decide) ?_
  refine lv_iconst (v := 3) hx hb dX12_centre_8 (by decide) ?_
  refine z_calli [] [(a0, zO 10 83 g0)] [] [0] hP hD hS hA rfl rfl (by decide) (by decide) (by decide +kernel) 0 0 rfl rfl (fun hPc hDc hF => z_runS (As := [.int x0, .int 0, .int 3]) (rest := [.int 0, .ref a0]) ⟨hx, hb, hml, hown, hg⟩ (cX12_isIn_9 l K H.size x0 e2) kS_RX12_175 hd_X12_isIn rfl rfl ⟨(Nat.le_of_ble_eq_true rfl), (Nat.le_of_ble_eq_true rfl)⟩ hK hS hZ hPc hDc hF rfl hl.1 rfl (Nat.le_of_ble_eq_true rfl) dX12_centre_9 ⟨(Nat.le_of_ble_eq_true rfl), (Nat.le_of_ble_eq_true rfl)⟩) (fun r6 u4 H locs w5 hP hD hS => ?_)
  subst w5
  have hP : va_P K.1 classes [(a0, zO 10 83 g0)] H := hP
  have hD : va_D A [(a0, zO 10 83 g0)] := hD
  refine z_calli [(a0, zO 10 83 g0)] [] [0] [] hP hD hS hA rfl rfl (by decide) (by decide) (by decide +kernel) 0 0 rfl rfl (fun hPc hDc hF => z_runV (As := [.int 0, .int 0]) (rest := []) ⟨hx, hb, hml, hown, hg⟩ (cX12_mayTell_1 l K H.size a0 g0) kV_RX12_203 hd_X12_mayTell rfl rfl ⟨(Nat.le_of_ble_eq_true rfl), (Nat.le_of_ble_eq_true rfl)⟩ hK hS hZ hPc hDc hF 0 rfl rfl rfl hl.1 rfl (Nat.le_of_ble_eq_true rfl) dX12_centre_12 ⟨(Nat.le_of_ble_eq_true rfl), (Nat.le_of_ble_eq_true rfl)⟩) (fun r9 u7 H locs w8 hP hD hS => ?_)
  subst w8
  have hP : va_P K.1 classes [(a0, zO 10 83 (va_up g0 81 (.int 1)))] H := hP
  have hD : va_D A [(a0, zO 10 83 (va_up g0 81 (.int 1)))] := hD
  refine lv_if_eq (tgt := 32) hx hb dX12_centre_15 (by decide) (fun _ => ?_) (fun c => absurd (by decide) c)
  refine lv_iconst (v := 0) hx hb dX12_centre_32 (by decide) ?_
  have hP9 : va_P K.1 classes [(a0, zO 10 83 (va_up g0 81 (.int 1)))] H := hP.sub [0] rfl
  have hD9 : va_D A [(a0, zO 10 83 (va_up g0 81 (.int 1)))] := hD.sub [0] (by decide) rfl
  exact z_iret hx hb hr (fun _ => 0) rfl hP9 hD9 hS (Nat.le_of_ble_eq_true rfl) (Nat.le_of_ble_eq_true rfl) hlocks dX12_centre_33
set_option maxHeartbeats 4000000 in
set_option maxRecDepth 100000 in
theorem cX11_centre_2 (l : Launch) (hl9 : l.stackTraces = false) (K : zK) (sz : Nat) (a0 : Nat) (a1 : Nat) (g0 : Nat → Value) (g1 : Nat → Value) (j0 : Nat) (hj0 : j0 < 4) (x1 : Int32) (e0 : g0 0 = (.ref a1)) (e1 : x1 < (0 : Int32)) : vx_Met l yX11_centre (Cond.code yX11_centre cX11_centre 3 (some .int) :: WG) { frames := 7, cells := 1, slots := 6, locals := 103 } (zPre K [(a0, zO 9 9 g0), (a1, zO 7 6 g1)] sz [.ref a0, .int (nI j0), .int x1]) (va_Qv (fun _ : Unit => False) (fun _ _ => True) (va_A [(a0, zO 9 9 g0), (a1, zO 7 6 g1)] sz)) (zX (va_A [(a0, zO 9 9 g0), (a1, zO 7 6 g1)] sz) zIB) 1 6 (va_A [(a0, zO 9 9 g0), (a1, zO 7 6 g1)] sz) := by
  refine z_xmet (Qc := fun A => va_Qv (fun _ : Unit => False) (fun _ _ => True) A) (XC := fun A => zX A zIB) (by decide +kernel) (Nat.le_of_ble_eq_true rfl) ?_
  intro p e s m args below meth c A ls H hx hb hr hg hown hlocks hml hno hK hP hD hA hS hZ hl
  have hown : s.vm.findClass RX11 = some m.cls := hown
  have hl : lv_has ls 3 [(0, .ref a0), (1, .int (nI j0)), (2, .int x1)] := hl
  refine lv_aload_n hx hb dX11_centre_0 rfl (lv_at hl 0 rfl) ?_
  refine lv_iload_n hx hb dX11_centre_1 rfl (lv_at hl 2 rfl) ?_
  refine z_xcall (EX := zIB) [(a0, zO 9 9 g0), (a1, zO 7 6 g1)] [0, 1] hP hD hS hA rfl (by decide) 1 6 rfl rfl (fun hPc hDc hF => z_xrunV (As := [.int x1]) (rest := []) ⟨hx, hb, hml, hown, hg⟩ (cX11_checkTold_1 l hl9 K H.size a0 a1 g0 g1 x1 e0 e1) kV_RX11_76 hd_X11_checkTold rfl rfl ⟨(Nat.le_of_ble_eq_true rfl), (Nat.le_of_ble_eq_true rfl)⟩ hK hS hZ hPc hDc hF 0 rfl rfl rfl hl.1 rfl (Nat.le_of_ble_eq_true rfl) dX11_centre_2 ⟨(Nat.le_of_ble_eq_true rfl), (Nat.le_of_ble_eq_true rfl)⟩) (fun ce q9 H locs hS hce hcv hcl => ?_)
  exact z_xout hno hlocks hS hce hcv hcl (Nat.le_of_ble_eq_true rfl) (Nat.le_of_ble_eq_true rfl)
set_option maxHeartbeats 4000000 in
set_option maxRecDepth 100000 in
theorem cL_centre_2 (l : Launch) (hl9 : l.stackTraces = false) (K : zK) (sz : Nat) (a0 : Nat) (a1 : Nat) (a2 : Nat) (g0 : Nat → Value) (g2 : Nat → Value) (j0 : Nat) (hj0 : j0 < 4) (x1 : Int32) (e0 : g0 0 = (.ref a2)) (e1 : x1 < (0 : Int32)) : vx_Met l yL_centre (Cond.codeWith yL_centre cL_centre 5 (some .int) [(0, 10, 13, 27), (0, 10, 17, 18), (0, 10, 21, 13)] :: WG) { frames := 8, cells := 1, slots := 6, locals := 125 } (zPre K [(a0, zO 9 9 g0), (a2, zO 7 6 g2)] sz [.ref a0, .int (nI j0), .int x1, .ref a1]) (va_Qi (fun (r : Int32) (_ : Nat → Nat) => r = 1) (zB K (va_A [(a0, zO 9 9 g0), (a2, zO 7 6 g2)] sz) (fun u : Nat → Nat => [])) (va_A [(a0, zO 9 9 g0), (a2, zO 7 6 g2)] sz)) (vx_X (fun _ : Unit => False) (fun _ _ _ => True) (va_A [(a0, zO 9 9 g0), (a2, zO 7 6 g2)] sz)) 1 6 (va_A [(a0, zO 9 9 g0), (a2, zO 7 6 g2)] sz) := by
  refine z_hmet (Qc := fun A => (va_Qi (fun (r : Int32) (_ : Nat → Nat) => r = 1) (zB K A (fun u : Nat → Nat => [])) A)) (XC := fun A => vx_X (fun _ : Unit => False) (fun _ _ _ => True) A) (by decide +kernel) (Nat.le_of_ble_eq_true rfl) ?_
  intro p e s m args below meth c A ls H hx hb hr hg hown hlocks hml hTab hK hP hD hA hS hZ hl
  have hown : s.vm.findClass RL = some m.cls := hown
  have hl : lv_has ls 5 [(0, .ref a0), (1, .int (nI j0)), (2, .int x1), (3, .ref a1)] := hl
  refine lv_aload_n hx hb dL_centre_0 rfl (lv_at hl 3 rfl) ?_
  refine lv_iconst (v := 0) hx hb dL_centre_1 (by decide) ?_
  refine lv_aload_n hx hb dL_centre_2 rfl (lv_at hl 0 rfl) ?_
  refine lv_iload_n hx hb dL_centre_3 rfl (lv_at hl 1 rfl) ?_
  refine lv_iload_n hx hb dL_centre_4 rfl (lv_at hl 2 rfl) ?_
  refine z_xcall (EX := zIB) [(a0, zO 9 9 g0), (a2, zO 7 6 g2)] [0, 1] hP hD hS hA rfl (by decide) 1 6 rfl rfl (fun hPc hDc hF => z_xrunV (As := [.int (nI j0), .int x1]) (rest := [.int 0, .ref a1]) ⟨hx, hb, hml, hown, hg⟩ (cX11_centre_2 l hl9 K H.size a0 a2 g0 g2 j0 hj0 x1 e0 e1) kV_RL_61 hd_X11_centre rfl rfl ⟨(Nat.le_of_ble_eq_true rfl), (Nat.le_of_ble_eq_true rfl)⟩ hK hS hZ hPc hDc hF 0 rfl rfl rfl hl.1 rfl (Nat.le_of_ble_eq_true rfl) dL_centre_5 ⟨(Nat.le_of_ble_eq_true rfl), (Nat.le_of_ble_eq_true rfl)⟩) (fun ce q9 H locs hS hce hcv hcl => ?_)
  refine vx_catch (own := RL) (name := zIB) (E := zIB) hown [] ⟨0, 10, 13, 27⟩ [⟨0, 10, 17, 18⟩, ⟨0, 10, 21, 13⟩] (by rw [hTab]; rfl) (fun z hz => nomatch hz) (by decide) (by decide) (hg _ mt526) (va_Nw.use rfl hZ.1.1.2.2.2.1) hce hcv hcl ?_
  have hP : va_P K.1 classes [] H := z_P0
  have hD : va_D A [] := z_D0
  refine lv_astore (lv' := [(4, .ref q9), (0, .ref a0), (1, .int (nI j0)), (2, .int x1), (3, .ref a1)]) hx hb dL_centre_13 hl (by decide) rfl (fun ls hl => ?_)
  refine lv_iconst (v := 1) hx hb dL_centre_15 (by decide) ?_
  have hP9 : va_P K.1 classes [] H := hP.sub [] rfl
  have hD9 : va_D A [] := hD.sub [] (by decide) rfl
  exact z_iret hx hb hr (fun _ => 0) rfl hP9 hD9 hS (Nat.le_of_ble_eq_true rfl) (Nat.le_of_ble_eq_true rfl) hlocks dL_centre_16
set_option maxHeartbeats 4000000 in
set_option maxRecDepth 100000 in
theorem cX12_centre_2 (l : Launch) (K : zK) (sz : Nat) (a0 : Nat) (g0 : Nat → Value) (j0 : Nat) (hj0 : j0 < 4) (x1 : Int32) (e0 : g0 0 = (.int 0)) (e1 : x1 < (0 : Int32)) : Met l yX12_centre (Cond.code yX12_centre cX12_centre 3 (some .int) :: WG) { frames := 2, cells := 0, slots := 0, locals := 43 } (zPre K [(a0, zO 10 83 g0)] sz [.ref a0, .int (nI j0), .int x1]) (va_Qi (fun (r : Int32) (_ : Nat → Nat) => r = 0) (zB K (va_A [(a0, zO 10 83 g0)] sz) (fun u : Nat → Nat => [(a0, zO 10 83 (va_up g0 81 (.int 1)))])) (va_A [(a0, zO 10 83 g0)] sz)) 0 0 (va_A [(a0, zO 10 83 g0)] sz) := by
  refine z_met (Qc := fun A => (va_Qi (fun (r : Int32) (_ : Nat → Nat) => r = 0) (zB K A (fun u : Nat → Nat => [(a0, zO 10 83 (va_up g0 81 (.int 1)))])) A)) (by decide +kernel) (Nat.le_of_ble_eq_true rfl) ?_
  intro p e s m args below meth c A ls H hx hb hr hg hown hlocks hml hin hK hP hD hA hS hZ hl
  have hown : s.vm.findClass RX12 = some m.cls := hown
  have hl : lv_has ls 3 [(0, .ref a0), (1, .int (nI j0)), (2, .int x1)] := hl
  refine lv_aload_n hx hb dX12_centre_0 rfl (lv_at hl 0 rfl) ?_
  refine lv_aload_n hx hb dX12_centre_1 rfl (lv_at hl 0 rfl) ?_
  refine lv_iload_n hx hb dX12_centre_2 rfl (lv_at hl 2 rfl) ?_
  refine z_calli [(a0, zO 10 83 g0)] [] [0] [] hP hD hS hA rfl rfl (by decide) (by decide) (by decide +kernel) 0 0 rfl rfl (fun hPc hDc hF => z_runV (As := [.int x1]) (rest := [.ref a0]) ⟨hx, hb, hml, hown, hg⟩ (cX12_isNode_1 l K H.size a0 g0 x1 e0 e1) kV_RX12_200 hd_X12_isNode rfl rfl ⟨(Nat.le_of_ble_eq_true rfl), (Nat.le_of_ble_eq_true rfl)⟩ hK hS hZ hPc hDc hF 0 rfl rfl rfl hl.1 rfl (Nat.le_of_ble_eq_true rfl) dX12_centre_3 ⟨(Nat.le_of_ble_eq_true rfl), (Nat.le_of_ble_eq_true rfl)⟩) (fun r3 u1 H locs w2 hP hD hS => ?_)
  subst w2
  have hP : va_P K.1 classes [(a0, zO 10 83 g0)] H := hP
  have hD : va_D A [(a0, zO 10 83 g0)] := hD
  refine lv_iload_n hx hb dX12_centre_6 rfl (lv_at hl 1 rfl) ?_
  refine lv_iconst (v := 0) hx hb dX12_centre_7 (by decide) ?_
  refine lv_iconst (v := 3) hx hb dX12_centre_8 (by decide) ?_
  refine z_calli [] [(a0, zO 10 83 g0)] [] [0] hP hD hS hA rfl rfl (by decide) (by decide) (by decide +kernel) 0 0 rfl rfl (fun hPc hDc hF => z_runS (As := [.int (nI j0), .int 0, .int 3]) (rest := [.int 0, .ref a0]) ⟨hx, hb, hml, hown, hg⟩ (cX12_isIn_10 l K H.size j0 hj0) kS_RX12_175 hd_X12_isIn rfl rfl ⟨(Nat.le_of_ble_eq_true rfl), (Nat.le_of_ble_eq_true rfl)⟩ hK hS hZ hPc hDc hF rfl hl.1 rfl (Nat.le_of_ble_eq_true rfl) dX12_centre_9 ⟨(Nat.le_of_ble_eq_true rfl), (Nat.le_of_ble_eq_true rfl)⟩) (fun r6 u4 H locs w5 hP hD hS => ?_)
  subst w5
  have hP : va_P K.1 classes [(a0, zO 10 83 g0)] H := hP
  have hD : va_D A [(a0, zO 10 83 g0)] := hD
  refine z_calli [(a0, zO 10 83 g0)] [] [0] [] hP hD hS hA rfl rfl (by decide) (by decide) (by decide +kernel) 0 0 rfl rfl (fun hPc hDc hF => z_runV (As := [.int 0, .int 1]) (rest := []) ⟨hx, hb, hml, hown, hg⟩ (cX12_mayTell_2 l K H.size a0 g0) kV_RX12_203 hd_X12_mayTell rfl rfl ⟨(Nat.le_of_ble_eq_true rfl), (Nat.le_of_ble_eq_true rfl)⟩ hK hS hZ hPc hDc hF 0 rfl rfl rfl hl.1 rfl (Nat.le_of_ble_eq_true rfl) dX12_centre_12 ⟨(Nat.le_of_ble_eq_true rfl), (Nat.le_of_ble_eq_true rfl)⟩) (fun r9 u7 H locs w8 hP hD hS => ?_)
  subst w8
  have hP : va_P K.1 classes [(a0, zO 10 83 (va_up g0 81 (.int 1)))] H := hP
  have hD : va_D A [(a0, zO 10 83 (va_up g0 81 (.int 1)))] := hD
  refine lv_if_eq (tgt := 32) hx hb dX12_centre_15 (by decide) (fun _ => ?_) (fun c => absurd (by decide) c)
  refine lv_iconst (v := 0) hx hb dX12_centre_32 (by decide) ?_
  have hP9 : va_P K.1 classes [(a0, zO 10 83 (va_up g0 81 (.int 1)))] H := hP.sub [0] rfl
  have hD9 : va_D A [(a0, zO 10 83 (va_up g0 81 (.int 1)))] := hD.sub [0] (by decide) rfl
  exact z_iret hx hb hr (fun _ => 0) rfl hP9 hD9 hS (Nat.le_of_ble_eq_true rfl) (Nat.le_of_ble_eq_true rfl) hlocks dX12_centre_33
set_option maxHeartbeats 4000000 in
set_option maxRecDepth 100000 in
theorem cX12_centre_3 (l : Launch) (K : zK) (sz : Nat) (a0 : Nat) (g0 : Nat → Value) (x0 : Int32) (x1 : Int32) (e0 : g0 0 = (.int 0)) (e1 : x1 < (0 : Int32)) (e2 : ¬ x0 < (0 : Int32)) (e3 : (3 : Int32) < x0) : Met l yX12_centre (Cond.code yX12_centre cX12_centre 3 (some .int) :: WG) { frames := 2, cells := 0, slots := 0, locals := 43 } (zPre K [(a0, zO 10 83 g0)] sz [.ref a0, .int x0, .int x1]) (va_Qi (fun (r : Int32) (_ : Nat → Nat) => r = 0) (zB K (va_A [(a0, zO 10 83 g0)] sz) (fun u : Nat → Nat => [(a0, zO 10 83 (va_up g0 81 (.int 1)))])) (va_A [(a0, zO 10 83 g0)] sz)) 0 0 (va_A [(a0, zO 10 83 g0)] sz) := by
  refine z_met (Qc := fun A => (va_Qi (fun (r : Int32) (_ : Nat → Nat) => r = 0) (zB K A (fun u : Nat → Nat => [(a0, zO 10 83 (va_up g0 81 (.int 1)))])) A)) (by decide +kernel) (Nat.le_of_ble_eq_true rfl) ?_
  intro p e s m args below meth c A ls H hx hb hr hg hown hlocks hml hin hK hP hD hA hS hZ hl
  have hown : s.vm.findClass RX12 = some m.cls := hown
  have hl : lv_has ls 3 [(0, .ref a0), (1, .int x0), (2, .int x1)] := hl
  refine lv_aload_n hx hb dX12_centre_0 rfl (lv_at hl 0 rfl) ?_
  refine lv_aload_n hx hb dX12_centre_1 rfl (lv_at hl 0 rfl) ?_
  refine lv_iload_n hx hb dX12_centre_2 rfl (lv_at hl 2 rfl) ?_
  refine z_calli [(a0, zO 10 83 g0)] [] [0] [] hP hD hS hA rfl rfl (by decide) (by decide) (by decide +kernel) 0 0 rfl rfl (fun hPc hDc hF => z_runV (As := [.int x1]) (rest := [.ref a0]) ⟨hx, hb, hml, hown, hg⟩ (cX12_isNode_1 l K H.size a0 g0 x1 e0 e1) kV_RX12_200 hd_X12_isNode rfl rfl ⟨(Nat.le_of_ble_eq_true rfl), (Nat.le_of_ble_eq_true rfl)⟩ hK hS hZ hPc hDc hF 0 rfl rfl rfl hl.1 rfl (Nat.le_of_ble_eq_true rfl) dX12_centre_3 ⟨(Nat.le_of_ble_eq_true rfl), (Nat.le_of_ble_eq_true rfl)⟩) (fun r3 u1 H locs w2 hP hD hS => ?_)
  subst w2
  have hP : va_P K.1 classes [(a0, zO 10 83 g0)] H := hP
  have hD : va_D A [(a0, zO 10 83 g0)] := hD
  refine lv_iload_n hx hb dX12_centre_6 rfl (lv_at hl 1 rfl) ?_
  refine lv_iconst (v := 0) hx hb dX12_centre_7 (by decide) ?_
  refine lv_iconst (v := 3) hx hb dX12_centre_8 (by decide) ?_
  refine z_calli [] [(a0, zO 10 83 g0)] [] [0] hP hD hS hA rfl rfl (by decide) (by decide) (by decide +kernel) 0 0 rfl rfl (fun hPc hDc hF => z_runS (As := [.int x0, .int 0, .int 3]) (rest := [.int 0, .ref a0]) ⟨hx, hb, hml, hown, hg⟩ (cX12_isIn_11 l K H.size x0 e2 e3) kS_RX12_175 hd_X12_isIn rfl rfl ⟨(Nat.le_of_ble_eq_true rfl), (Nat.le_of_ble_eq_true rfl)⟩ hK hS hZ hPc hDc hF rfl hl.1 rfl (Nat.le_of_ble_eq_true rfl) dX12_centre_9 ⟨(Nat.le_of_ble_eq_true rfl), (Nat.le_of_ble_eq_true rfl)⟩) (fun r6 u4 H locs w5 hP hD hS => ?_)
  subst w5
  have hP : va_P K.1 classes [(a0, zO 10 83 g0)] H := hP
  have hD : va_D A [(a0, zO 10 83 g0)] := hD
  refine z_calli [(a0, zO 10 83 g0)] [] [0] [] hP hD hS hA rfl rfl (by decide) (by decide) (by decide +kernel) 0 0 rfl rfl (fun hPc hDc hF => z_runV (As := [.int 0, .int 0]) (rest := []) ⟨hx, hb, hml, hown, hg⟩ (cX12_mayTell_1 l K H.size a0 g0) kV_RX12_203 hd_X12_mayTell rfl rfl ⟨(Nat.le_of_ble_eq_true rfl), (Nat.le_of_ble_eq_true rfl)⟩ hK hS hZ hPc hDc hF 0 rfl rfl rfl hl.1 rfl (Nat.le_of_ble_eq_true rfl) dX12_centre_12 ⟨(Nat.le_of_ble_eq_true rfl), (Nat.le_of_ble_eq_true rfl)⟩) (fun r9 u7 H locs w8 hP hD hS => ?_)
  subst w8
  have hP : va_P K.1 classes [(a0, zO 10 83 (va_up g0 81 (.int 1)))] H := hP
  have hD : va_D A [(a0, zO 10 83 (va_up g0 81 (.int 1)))] := hD
  refine lv_if_eq (tgt := 32) hx hb dX12_centre_15 (by decide) (fun _ => ?_) (fun c => absurd (by decide) c)
  refine lv_iconst (v := 0) hx hb dX12_centre_32 (by decide) ?_
  have hP9 : va_P K.1 classes [(a0, zO 10 83 (va_up g0 81 (.int 1)))] H := hP.sub [0] rfl
  have hD9 : va_D A [(a0, zO 10 83 (va_up g0 81 (.int 1)))] := hD.sub [0] (by decide) rfl
  exact z_iret hx hb hr (fun _ => 0) rfl hP9 hD9 hS (Nat.le_of_ble_eq_true rfl) (Nat.le_of_ble_eq_true rfl) hlocks dX12_centre_33
set_option maxHeartbeats 4000000 in
set_option maxRecDepth 100000 in
theorem cX11_centre_3 (l : Launch) (hl9 : l.stackTraces = false) (K : zK) (sz : Nat) (a0 : Nat) (a1 : Nat) (g0 : Nat → Value) (g1 : Nat → Value) (x0 : Int32) (x1 : Int32) (e0 : g0 0 = (.ref a1)) (e1 : ¬ x1 < (0 : Int32)) (e2 : g1 5 = (.int 0)) (e3 : (0 : Int32) ≤ x1) : vx_Met l yX11_centre (Cond.code yX11_centre cX11_centre 3 (some .int) :: WG) { frames := 7, cells := 1, slots := 6, locals := 103 } (zPre K [(a0, zO 9 9 g0), (a1, zO 7 6 g1)] sz [.ref a0, .int x0, .int x1]) (va_Qv (fun _ : Unit => False) (fun _ _ => True) (va_A [(a0, zO 9 9 g0), (a1, zO 7 6 g1)] sz)) (zX (va_A [(a0, zO 9 9 g0), (a1, zO 7 6 g1)] sz) zIB) 1 6 (va_A [(a0, zO 9 9 g0), (a1, zO 7 6 g1)] sz) := by
  refine z_xmet (Qc := fun A => va_Qv (fun _ : Unit => False) (fun _ _ => True) A) (XC := fun A => zX A zIB) (by decide +kernel) (Nat.le_of_ble_eq_true rfl) ?_
  intro p e s m args below meth c A ls H hx hb hr hg hown hlocks hml hno hK hP hD hA hS hZ hl
  have hown : s.vm.findClass RX11 = some m.cls := hown
  have hl : lv_has ls 3 [(0, .ref a0), (1, .int x0), (2, .int x1)] := hl
  refine lv_aload_n hx hb dX11_centre_0 rfl (lv_at hl 0 rfl) ?_
  refine lv_iload_n hx hb dX11_centre_1 rfl (lv_at hl 2 rfl) ?_
  refine z_xcall (EX := zIB) [(a0, zO 9 9 g0), (a1, zO 7 6 g1)] [0, 1] hP hD hS hA rfl (by decide) 1 6 rfl rfl (fun hPc hDc hF => z_xrunV (As := [.int x1]) (rest := []) ⟨hx, hb, hml, hown, hg⟩ (cX11_checkTold_2 l hl9 K H.size a0 a1 g0 g1 x1 e0 e1 e2 e3) kV_RX11_76 hd_X11_checkTold rfl rfl ⟨(Nat.le_of_ble_eq_true rfl), (Nat.le_of_ble_eq_true rfl)⟩ hK hS hZ hPc hDc hF 0 rfl rfl rfl hl.1 rfl (Nat.le_of_ble_eq_true rfl) dX11_centre_2 ⟨(Nat.le_of_ble_eq_true rfl), (Nat.le_of_ble_eq_true rfl)⟩) (fun ce q9 H locs hS hce hcv hcl => ?_)
  exact z_xout hno hlocks hS hce hcv hcl (Nat.le_of_ble_eq_true rfl) (Nat.le_of_ble_eq_true rfl)
set_option maxHeartbeats 4000000 in
set_option maxRecDepth 100000 in
theorem cL_centre_3 (l : Launch) (hl9 : l.stackTraces = false) (K : zK) (sz : Nat) (a0 : Nat) (a1 : Nat) (a2 : Nat) (g0 : Nat → Value) (g2 : Nat → Value) (x0 : Int32) (x1 : Int32) (e0 : g0 0 = (.ref a2)) (e1 : ¬ x1 < (0 : Int32)) (e2 : g2 5 = (.int 0)) (e3 : (0 : Int32) ≤ x1) : vx_Met l yL_centre (Cond.codeWith yL_centre cL_centre 5 (some .int) [(0, 10, 13, 27), (0, 10, 17, 18), (0, 10, 21, 13)] :: WG) { frames := 8, cells := 1, slots := 6, locals := 125 } (zPre K [(a0, zO 9 9 g0), (a2, zO 7 6 g2)] sz [.ref a0, .int x0, .int x1, .ref a1]) (va_Qi (fun (r : Int32) (_ : Nat → Nat) => r = 1) (zB K (va_A [(a0, zO 9 9 g0), (a2, zO 7 6 g2)] sz) (fun u : Nat → Nat => [])) (va_A [(a0, zO 9 9 g0), (a2, zO 7 6 g2)] sz)) (vx_X (fun _ : Unit => False) (fun _ _ _ => True) (va_A [(a0, zO 9 9 g0), (a2, zO 7 6 g2)] sz)) 1 6 (va_A [(a0, zO 9 9 g0), (a2, zO 7 6 g2)] sz) := by
  refine z_hmet (Qc := fun A => (va_Qi (fun (r : Int32) (_ : Nat → Nat) => r = 1) (zB K A (fun u : Nat → Nat => [])) A)) (XC := fun A => vx_X (fun _ : Unit => False) (fun _ _ _ => True) A) (by decide +kernel) (Nat.le_of_ble_eq_true rfl) ?_
  intro p e s m args below meth c A ls H hx hb hr hg hown hlocks hml hTab hK hP hD hA hS hZ hl
  have hown : s.vm.findClass RL = some m.cls := hown
  have hl : lv_has ls 5 [(0, .ref a0), (1, .int x0), (2, .int x1), (3, .ref a1)] := hl
  refine lv_aload_n hx hb dL_centre_0 rfl (lv_at hl 3 rfl) ?_
  refine lv_iconst (v := 0) hx hb dL_centre_1 (by decide) ?_
  refine lv_aload_n hx hb dL_centre_2 rfl (lv_at hl 0 rfl) ?_
  refine lv_iload_n hx hb dL_centre_3 rfl (lv_at hl 1 rfl) ?_
  refine lv_iload_n hx hb dL_centre_4 rfl (lv_at hl 2 rfl) ?_
  refine z_xcall (EX := zIB) [(a0, zO 9 9 g0), (a2, zO 7 6 g2)] [0, 1] hP hD hS hA rfl (by decide) 1 6 rfl rfl (fun hPc hDc hF => z_xrunV (As := [.int x0, .int x1]) (rest := [.int 0, .ref a1]) ⟨hx, hb, hml, hown, hg⟩ (cX11_centre_3 l hl9 K H.size a0 a2 g0 g2 x0 x1 e0 e1 e2 e3) kV_RL_61 hd_X11_centre rfl rfl ⟨(Nat.le_of_ble_eq_true rfl), (Nat.le_of_ble_eq_true rfl)⟩ hK hS hZ hPc hDc hF 0 rfl rfl rfl hl.1 rfl (Nat.le_of_ble_eq_true rfl) dL_centre_5 ⟨(Nat.le_of_ble_eq_true rfl), (Nat.le_of_ble_eq_true rfl)⟩) (fun ce q9 H locs hS hce hcv hcl => ?_)
  refine vx_catch (own := RL) (name := zIB) (E := zIB) hown [] ⟨0, 10, 13, 27⟩ [⟨0, 10, 17, 18⟩, ⟨0, 10, 21, 13⟩] (by rw [hTab]; rfl) (fun z hz => nomatch hz) (by decide) (by decide) (hg _ mt526) (va_Nw.use rfl hZ.1.1.2.2.2.1) hce hcv hcl ?_
  have hP : va_P K.1 classes [] H := z_P0
  have hD : va_D A [] := z_D0
  refine lv_astore (lv' := [(4, .ref q9), (0, .ref a0), (1, .int x0), (2, .int x1), (3, .ref a1)]) hx hb dL_centre_13 hl (by decide) rfl (fun ls hl => ?_)
  refine lv_iconst (v := 1) hx hb dL_centre_15 (by decide) ?_
  have hP9 : va_P K.1 classes [] H := hP.sub [] rfl
  have hD9 : va_D A [] := hD.sub [] (by decide) rfl
  exact z_iret hx hb hr (fun _ => 0) rfl hP9 hD9 hS (Nat.le_of_ble_eq_true rfl) (Nat.le_of_ble_eq_true rfl) hlocks dL_centre_16
set_option maxHeartbeats 4000000 in
set_option maxRecDepth 100000 in
theorem cX12_centre_4 (l : Launch) (K : zK) (sz : Nat) (a0 : Nat) (g0 : Nat → Value) (x0 : Int32) (x1 : Int32) (e0 : g0 0 = (.int 0)) (e1 : ¬ x1 < (0 : Int32)) (e2 : (-1 : Int32) < x1) (e3 : x0 < (0 : Int32)) : Met l yX12_centre (Cond.code yX12_centre cX12_centre 3 (some .int) :: WG) { frames := 2, cells := 0, slots := 0, locals := 43 } (zPre K [(a0, zO 10 83 g0)] sz [.ref a0, .int x0, .int x1]) (va_Qi (fun (r : Int32) (_ : Nat → Nat) => r = 0) (zB K (va_A [(a0, zO 10 83 g0)] sz) (fun u : Nat → Nat => [(a0, zO 10 83 (va_up g0 81 (.int 1)))])) (va_A [(a0, zO 10 83 g0)] sz)) 0 0 (va_A [(a0, zO 10 83 g0)] sz) := by
  refine z_met (Qc := fun A => (va_Qi (fun (r : Int32) (_ : Nat → Nat) => r = 0) (zB K A (fun u : Nat → Nat => [(a0, zO 10 83 (va_up g0 81 (.int 1)))])) A)) (by decide +kernel) (Nat.le_of_ble_eq_true rfl) ?_
  intro p e s m args below meth c A ls H hx hb hr hg hown hlocks hml hin hK hP hD hA hS hZ hl
  have hown : s.vm.findClass RX12 = some m.cls := hown
  have hl : lv_has ls 3 [(0, .ref a0), (1, .int x0), (2, .int x1)] := hl
  refine lv_aload_n hx hb dX12_centre_0 rfl (lv_at hl 0 rfl) ?_
  refine lv_aload_n hx hb dX12_centre_1 rfl (lv_at hl 0 rfl) ?_
  refine lv_iload_n hx hb dX12_centre_2 rfl (lv_at hl 2 rfl) ?_
  refine z_calli [(a0, zO 10 83 g0)] [] [0] [] hP hD hS hA rfl rfl (by decide) (by decide) (by decide +kernel) 0 0 rfl rfl (fun hPc hDc hF => z_runV (As := [.int x1]) (rest := [.ref a0]) ⟨hx, hb, hml, hown, hg⟩ (cX12_isNode_2 l K H.size a0 g0 x1 e0 e1 e2) kV_RX12_200 hd_X12_isNode rfl rfl ⟨(Nat.le_of_ble_eq_true rfl), (Nat.le_of_ble_eq_true rfl)⟩ hK hS hZ hPc hDc hF 0 rfl rfl rfl hl.1 rfl (Nat.le_of_ble_eq_true rfl) dX12_centre_3 ⟨(Nat.le_of_ble_eq_true rfl), (Nat.le_of_ble_eq_true rfl)⟩) (fun r3 u1 H locs w2 hP hD hS => ?_)
  subst w2
  have hP : va_P K.1 classes [(a0, zO 10 83 g0)] H := hP
  have hD : va_D A [(a0, zO 10 83 g0)] := hD
  refine lv_iload_n hx hb dX12_centre_6 rfl (lv_at hl 1 rfl) ?_
  refine lv_iconst (v := 0) hx hb dX12_centre_7 (by decide) ?_
  refine lv_iconst (v := 3) hx hb dX12_centre_8 (by decide) ?_
  refine z_calli [] [(a0, zO 10 83 g0)] [] [0] hP hD hS hA rfl rfl (by decide) (by decide) (by decide +kernel) 0 0 rfl rfl (fun hPc hDc hF => z_runS (As := [.int x0, .int 0, .int 3]) (rest := [.int 0, .ref a0]) ⟨hx, hb, hml, hown, hg⟩ (cX12_isIn_9 l K H.size x0 e3) kS_RX12_175 hd_X12_isIn rfl rfl ⟨(Nat.le_of_ble_eq_true rfl), (Nat.le_of_ble_eq_true rfl)⟩ hK hS hZ hPc hDc hF rfl hl.1 rfl (Nat.le_of_ble_eq_true rfl) dX12_centre_9 ⟨(Nat.le_of_ble_eq_true rfl), (Nat.le_of_ble_eq_true rfl)⟩) (fun r6 u4 H locs w5 hP hD hS => ?_)
  subst w5
  have hP : va_P K.1 classes [(a0, zO 10 83 g0)] H := hP
  have hD : va_D A [(a0, zO 10 83 g0)] := hD
  refine z_calli [(a0, zO 10 83 g0)] [] [0] [] hP hD hS hA rfl rfl (by decide) (by decide) (by decide +kernel) 0 0 rfl rfl (fun hPc hDc hF => z_runV (As := [.int 0, .int 0]) (rest := []) ⟨hx, hb, hml, hown, hg⟩ (cX12_mayTell_1 l K H.size a0 g0) kV_RX12_203 hd_X12_mayTell rfl rfl ⟨(Nat.le_of_ble_eq_true rfl), (Nat.le_of_ble_eq_true rfl)⟩ hK hS hZ hPc hDc hF 0 rfl rfl rfl hl.1 rfl (Nat.le_of_ble_eq_true rfl) dX12_centre_12 ⟨(Nat.le_of_ble_eq_true rfl), (Nat.le_of_ble_eq_true rfl)⟩) (fun r9 u7 H locs w8 hP hD hS => ?_)
  subst w8
  have hP : va_P K.1 classes [(a0, zO 10 83 (va_up g0 81 (.int 1)))] H := hP
  have hD : va_D A [(a0, zO 10 83 (va_up g0 81 (.int 1)))] := hD
  refine lv_if_eq (tgt := 32) hx hb dX12_centre_15 (by decide) (fun _ => ?_) (fun c => absurd (by decide) c)
  refine lv_iconst (v := 0) hx hb dX12_centre_32 (by decide) ?_
  have hP9 : va_P K.1 classes [(a0, zO 10 83 (va_up g0 81 (.int 1)))] H := hP.sub [0] rfl
  have hD9 : va_D A [(a0, zO 10 83 (va_up g0 81 (.int 1)))] := hD.sub [0] (by decide) rfl
  exact z_iret hx hb hr (fun _ => 0) rfl hP9 hD9 hS (Nat.le_of_ble_eq_true rfl) (Nat.le_of_ble_eq_true rfl) hlocks dX12_centre_33
set_option maxHeartbeats 4000000 in
set_option maxRecDepth 100000 in
theorem cX11_centre_4 (l : Launch) (hl9 : l.stackTraces = false) (K : zK) (sz : Nat) (a0 : Nat) (a1 : Nat) (g0 : Nat → Value) (g1 : Nat → Value) (j0 : Nat) (hj0 : j0 < 4) (x1 : Int32) (e0 : g0 0 = (.ref a1)) (e1 : ¬ x1 < (0 : Int32)) (e2 : g1 5 = (.int 0)) (e3 : (0 : Int32) ≤ x1) : vx_Met l yX11_centre (Cond.code yX11_centre cX11_centre 3 (some .int) :: WG) { frames := 7, cells := 1, slots := 6, locals := 103 } (zPre K [(a0, zO 9 9 g0), (a1, zO 7 6 g1)] sz [.ref a0, .int (nI j0), .int x1]) (va_Qv (fun _ : Unit => False) (fun _ _ => True) (va_A [(a0, zO 9 9 g0), (a1, zO 7 6 g1)] sz)) (zX (va_A [(a0, zO 9 9 g0), (a1, zO 7 6 g1)] sz) zIB) 1 6 (va_A [(a0, zO 9 9 g0), (a1, zO 7 6 g1)] sz) := by
  refine z_xmet (Qc := fun A => va_Qv (fun _ : Unit => False) (fun _ _ => True) A) (XC := fun A => zX A zIB) (by decide +kernel) (Nat.le_of_ble_eq_true rfl) ?_
  intro p e s m args below meth c A ls H hx hb hr hg hown hlocks hml hno hK hP hD hA hS hZ hl
  have hown : s.vm.findClass RX11 = some m.cls := hown
  have hl : lv_has ls 3 [(0, .ref a0), (1, .int (nI j0)), (2, .int x1)] := hl
  refine lv_aload_n hx hb dX11_centre_0 rfl (lv_at hl 0 rfl) ?_
  refine lv_iload_n hx hb dX11_centre_1 rfl (lv_at hl 2 rfl) ?_
  refine z_xcall (EX := zIB) [(a0, zO 9 9 g0), (a1, zO 7 6 g1)] [0, 1] hP hD hS hA rfl (by decide) 1 6 rfl rfl (fun hPc hDc hF => z_xrunV (As := [.int x1]) (rest := []) ⟨hx, hb, hml, hown, hg⟩ (cX11_checkTold_2 l hl9 K H.size a0 a1 g0 g1 x1 e0 e1 e2 e3) kV_RX11_76 hd_X11_checkTold rfl rfl ⟨(Nat.le_of_ble_eq_true rfl), (Nat.le_of_ble_eq_true rfl)⟩ hK hS hZ hPc hDc hF 0 rfl rfl rfl hl.1 rfl (Nat.le_of_ble_eq_true rfl) dX11_centre_2 ⟨(Nat.le_of_ble_eq_true rfl), (Nat.le_of_ble_eq_true rfl)⟩) (fun ce q9 H locs hS hce hcv hcl => ?_)
  exact z_xout hno hlocks hS hce hcv hcl (Nat.le_of_ble_eq_true rfl) (Nat.le_of_ble_eq_true rfl)
set_option maxHeartbeats 4000000 in
set_option maxRecDepth 100000 in
theorem cL_centre_4 (l : Launch) (hl9 : l.stackTraces = false) (K : zK) (sz : Nat) (a0 : Nat) (a1 : Nat) (a2 : Nat) (g0 : Nat → Value) (g2 : Nat → Value) (j0 : Nat) (hj0 : j0 < 4) (x1 : Int32) (e0 : g0 0 = (.ref a2)) (e1 : ¬ x1 < (0 : Int32)) (e2 : g2 5 = (.int 0)) (e3 : (0 : Int32) ≤ x1) : vx_Met l yL_centre (Cond.codeWith yL_centre cL_centre 5 (some .int) [(0, 10, 13, 27), (0, 10, 17, 18), (0, 10, 21, 13)] :: WG) { frames := 8, cells := 1, slots := 6, locals := 125 } (zPre K [(a0, zO 9 9 g0), (a2, zO 7 6 g2)] sz [.ref a0, .int (nI j0), .int x1, .ref a1]) (va_Qi (fun (r : Int32) (_ : Nat → Nat) => r = 1) (zB K (va_A [(a0, zO 9 9 g0), (a2, zO 7 6 g2)] sz) (fun u : Nat → Nat => [])) (va_A [(a0, zO 9 9 g0), (a2, zO 7 6 g2)] sz)) (vx_X (fun _ : Unit => False) (fun _ _ _ => True) (va_A [(a0, zO 9 9 g0), (a2, zO 7 6 g2)] sz)) 1 6 (va_A [(a0, zO 9 9 g0), (a2, zO 7 6 g2)] sz) := by
  refine z_hmet (Qc := fun A => (va_Qi (fun (r : Int32) (_ : Nat → Nat) => r = 1) (zB K A (fun u : Nat → Nat => [])) A)) (XC := fun A => vx_X (fun _ : Unit => False) (fun _ _ _ => True) A) (by decide +kernel) (Nat.le_of_ble_eq_true rfl) ?_
  intro p e s m args below meth c A ls H hx hb hr hg hown hlocks hml hTab hK hP hD hA hS hZ hl
  have hown : s.vm.findClass RL = some m.cls := hown
  have hl : lv_has ls 5 [(0, .ref a0), (1, .int (nI j0)), (2, .int x1), (3, .ref a1)] := hl
  refine lv_aload_n hx hb dL_centre_0 rfl (lv_at hl 3 rfl) ?_
  refine lv_iconst (v := 0) hx hb dL_centre_1 (by decide) ?_
  refine lv_aload_n hx hb dL_centre_2 rfl (lv_at hl 0 rfl) ?_
  refine lv_iload_n hx hb dL_centre_3 rfl (lv_at hl 1 rfl) ?_
  refine lv_iload_n hx hb dL_centre_4 rfl (lv_at hl 2 rfl) ?_
  refine z_xcall (EX := zIB) [(a0, zO 9 9 g0), (a2, zO 7 6 g2)] [0, 1] hP hD hS hA rfl (by decide) 1 6 rfl rfl (fun hPc hDc hF => z_xrunV (As := [.int (nI j0), .int x1]) (rest := [.int 0, .ref a1]) ⟨hx, hb, hml, hown, hg⟩ (cX11_centre_4 l hl9 K H.size a0 a2 g0 g2 j0 hj0 x1 e0 e1 e2 e3) kV_RL_61 hd_X11_centre rfl rfl ⟨(Nat.le_of_ble_eq_true rfl), (Nat.le_of_ble_eq_true rfl)⟩ hK hS hZ hPc hDc hF 0 rfl rfl rfl hl.1 rfl (Nat.le_of_ble_eq_true rfl) dL_centre_5 ⟨(Nat.le_of_ble_eq_true rfl), (Nat.le_of_ble_eq_true rfl)⟩) (fun ce q9 H locs hS hce hcv hcl => ?_)
  refine vx_catch (own := RL) (name := zIB) (E := zIB) hown [] ⟨0, 10, 13, 27⟩ [⟨0, 10, 17, 18⟩, ⟨0, 10, 21, 13⟩] (by rw [hTab]; rfl) (fun z hz => nomatch hz) (by decide) (by decide) (hg _ mt526) (va_Nw.use rfl hZ.1.1.2.2.2.1) hce hcv hcl ?_
  have hP : va_P K.1 classes [] H := z_P0
  have hD : va_D A [] := z_D0
  refine lv_astore (lv' := [(4, .ref q9), (0, .ref a0), (1, .int (nI j0)), (2, .int x1), (3, .ref a1)]) hx hb dL_centre_13 hl (by decide) rfl (fun ls hl => ?_)
  refine lv_iconst (v := 1) hx hb dL_centre_15 (by decide) ?_
  have hP9 : va_P K.1 classes [] H := hP.sub [] rfl
  have hD9 : va_D A [] := hD.sub [] (by decide) rfl
  exact z_iret hx hb hr (fun _ => 0) rfl hP9 hD9 hS (Nat.le_of_ble_eq_true rfl) (Nat.le_of_ble_eq_true rfl) hlocks dL_centre_16
set_option maxHeartbeats 4000000 in
set_option maxRecDepth 100000 in
theorem cX12_centre_5 (l : Launch) (K : zK) (sz : Nat) (a0 : Nat) (g0 : Nat → Value) (j0 : Nat) (hj0 : j0 < 4) (x1 : Int32) (e0 : g0 0 = (.int 0)) (e1 : ¬ x1 < (0 : Int32)) (e2 : (-1 : Int32) < x1) : Met l yX12_centre (Cond.code yX12_centre cX12_centre 3 (some .int) :: WG) { frames := 2, cells := 0, slots := 0, locals := 43 } (zPre K [(a0, zO 10 83 g0)] sz [.ref a0, .int (nI j0), .int x1]) (va_Qi (fun (r : Int32) (_ : Nat → Nat) => r = 0) (zB K (va_A [(a0, zO 10 83 g0)] sz) (fun u : Nat → Nat => [(a0, zO 10 83 (va_up g0 81 (.int 1)))])) (va_A [(a0, zO 10 83 g0)] sz)) 0 0 (va_A [(a0, zO 10 83 g0)] sz) := by
  refine z_met (Qc := fun A => (va_Qi (fun (r : Int32) (_ : Nat → Nat) => r = 0) (zB K A (fun u : Nat → Nat => [(a0, zO 10 83 (va_up g0 81 (.int 1)))])) A)) (by decide +kernel) (Nat.le_of_ble_eq_true rfl) ?_
  intro p e s m args below meth c A ls H hx hb hr hg hown hlocks hml hin hK hP hD hA hS hZ hl
  have hown : s.vm.findClass RX12 = some m.cls := hown
  have hl : lv_has ls 3 [(0, .ref a0), (1, .int (nI j0)), (2, .int x1)] := hl
  refine lv_aload_n hx hb dX12_centre_0 rfl (lv_at hl 0 rfl) ?_
  refine lv_aload_n hx hb dX12_centre_1 rfl (lv_at hl 0 rfl) ?_
  refine lv_iload_n hx hb dX12_centre_2 rfl (lv_at hl 2 rfl) ?_
  refine z_calli [(a0, zO 10 83 g0)] [] [0] [] hP hD hS hA rfl rfl (by decide) (by decide) (by decide +kernel) 0 0 rfl rfl (fun hPc hDc hF => z_runV (As := [.int x1]) (rest := [.ref a0]) ⟨hx, hb, hml, hown, hg⟩ (cX12_isNode_2 l K H.size a0 g0 x1 e0 e1 e2) kV_RX12_200 hd_X12_isNode rfl rfl ⟨(Nat.le_of_ble_eq_true rfl), (Nat.le_of_ble_eq_true rfl)⟩ hK hS hZ hPc hDc hF 0 rfl rfl rfl hl.1 rfl (Nat.le_of_ble_eq_true rfl) dX12_centre_3 ⟨(Nat.le_of_ble_eq_true rfl), (Nat.le_of_ble_eq_true rfl)⟩) (fun r3 u1 H locs w2 hP hD hS => ?_)
  subst w2
  have hP : va_P K.1 classes [(a0, zO 10 83 g0)] H := hP
  have hD : va_D A [(a0, zO 10 83 g0)] := hD
  refine lv_iload_n hx hb dX12_centre_6 rfl (lv_at hl 1 rfl) ?_
  refine lv_iconst (v := 0) hx hb dX12_centre_7 (by decide) ?_
  refine lv_iconst (v := 3) hx hb dX12_centre_8 (by decide) ?_
  refine z_calli [] [(a0, zO 10 83 g0)] [] [0] hP hD hS hA rfl rfl (by decide) (by decide) (by decide +kernel) 0 0 rfl rfl (fun hPc hDc hF => z_runS (As := [.int (nI j0), .int 0, .int 3]) (rest := [.int 0, .ref a0]) ⟨hx, hb, hml, hown, hg⟩ (cX12_isIn_10 l K H.size j0 hj0) kS_RX12_175 hd_X12_isIn rfl rfl ⟨(Nat.le_of_ble_eq_true rfl), (Nat.le_of_ble_eq_true rfl)⟩ hK hS hZ hPc hDc hF rfl hl.1 rfl (Nat.le_of_ble_eq_true rfl) dX12_centre_9 ⟨(Nat.le_of_ble_eq_true rfl), (Nat.le_of_ble_eq_true rfl)⟩) (fun r6 u4 H locs w5 hP hD hS => ?_)
  subst w5
  have hP : va_P K.1 classes [(a0, zO 10 83 g0)] H := hP
  have hD : va_D A [(a0, zO 10 83 g0)] := hD
  refine z_calli [(a0, zO 10 83 g0)] [] [0] [] hP hD hS hA rfl rfl (by decide) (by decide) (by decide +kernel) 0 0 rfl rfl (fun hPc hDc hF => z_runV (As := [.int 0, .int 1]) (rest := []) ⟨hx, hb, hml, hown, hg⟩ (cX12_mayTell_2 l K H.size a0 g0) kV_RX12_203 hd_X12_mayTell rfl rfl ⟨(Nat.le_of_ble_eq_true rfl), (Nat.le_of_ble_eq_true rfl)⟩ hK hS hZ hPc hDc hF 0 rfl rfl rfl hl.1 rfl (Nat.le_of_ble_eq_true rfl) dX12_centre_12 ⟨(Nat.le_of_ble_eq_true rfl), (Nat.le_of_ble_eq_true rfl)⟩) (fun r9 u7 H locs w8 hP hD hS => ?_)
  subst w8
  have hP : va_P K.1 classes [(a0, zO 10 83 (va_up g0 81 (.int 1)))] H := hP
  have hD : va_D A [(a0, zO 10 83 (va_up g0 81 (.int 1)))] := hD
  refine lv_if_eq (tgt := 32) hx hb dX12_centre_15 (by decide) (fun _ => ?_) (fun c => absurd (by decide) c)
  refine lv_iconst (v := 0) hx hb dX12_centre_32 (by decide) ?_
  have hP9 : va_P K.1 classes [(a0, zO 10 83 (va_up g0 81 (.int 1)))] H := hP.sub [0] rfl
  have hD9 : va_D A [(a0, zO 10 83 (va_up g0 81 (.int 1)))] := hD.sub [0] (by decide) rfl
  exact z_iret hx hb hr (fun _ => 0) rfl hP9 hD9 hS (Nat.le_of_ble_eq_true rfl) (Nat.le_of_ble_eq_true rfl) hlocks dX12_centre_33
set_option maxHeartbeats 4000000 in
set_option maxRecDepth 100000 in
theorem cX12_centre_6 (l : Launch) (K : zK) (sz : Nat) (a0 : Nat) (g0 : Nat → Value) (x0 : Int32) (x1 : Int32) (e0 : g0 0 = (.int 0)) (e1 : ¬ x1 < (0 : Int32)) (e2 : (-1 : Int32) < x1) (e3 : ¬ x0 < (0 : Int32)) (e4 : (3 : Int32) < x0) : Met l yX12_centre (Cond.code yX12_centre cX12_centre 3 (some .int) :: WG) { frames := 2, cells := 0, slots := 0, locals := 43 } (zPre K [(a0, zO 10 83 g0)] sz [.ref a0, .int x0, .int x1]) (va_Qi (fun (r : Int32) (_ : Nat → Nat) => r = 0) (zB K (va_A [(a0, zO 10 83 g0)] sz) (fun u : Nat → Nat => [(a0, zO 10 83 (va_up g0 81 (.int 1)))])) (va_A [(a0, zO 10 83 g0)] sz)) 0 0 (va_A [(a0, zO 10 83 g0)] sz) := by
  refine z_met (Qc := fun A => (va_Qi (fun (r : Int32) (_ : Nat → Nat) => r = 0) (zB K A (fun u : Nat → Nat => [(a0, zO 10 83 (va_up g0 81 (.int 1)))])) A)) (by decide +kernel) (Nat.le_of_ble_eq_true rfl) ?_
  intro p e s m args below meth c A ls H hx hb hr hg hown hlocks hml hin hK hP hD hA hS hZ hl
  have hown : s.vm.findClass RX12 = some m.cls := hown
  have hl : lv_has ls 3 [(0, .ref a0), (1, .int x0), (2, .int x1)] := hl
  refine lv_aload_n hx hb dX12_centre_0 rfl (lv_at hl 0 rfl) ?_
  refine lv_aload_n hx hb dX12_centre_1 rfl (lv_at hl 0 rfl) ?_
  refine lv_iload_n hx hb dX12_centre_2 rfl (lv_at hl 2 rfl) ?_
  refine z_calli [(a0, zO 10 83 g0)] [] [0] [] hP hD hS hA rfl rfl (by decide) (by decide) (by decide +kernel) 0 0 rfl rfl (fun hPc hDc hF => z_runV (As := [.int x1]) (rest := [.ref a0]) ⟨hx, hb, hml, hown, hg⟩ (cX12_isNode_2 l K H.size a0 g0 x1 e0 e1 e2) kV_RX12_200 hd_X12_isNode rfl rfl ⟨(Nat.le_of_ble_eq_true rfl), (Nat.le_of_ble_eq_true rfl)⟩ hK hS hZ hPc hDc hF 0 rfl rfl rfl hl.1 rfl (Nat.le_of_ble_eq_true rfl) dX12_centre_3 ⟨(Nat.le_of_ble_eq_true rfl), (Nat.le_of_ble_eq_true rfl)⟩) (fun r3 u1 H locs w2 hP hD hS => ?_)
  subst w2
  have hP : va_P K.1 classes [(a0, zO 10 83 g0)] H := hP
  have hD : va_D A [(a0, zO 10 83 g0)] := hD
  refine lv_iload_n hx hb dX12_centre_6 rfl (lv_at hl 1 rfl) ?_
  refine lv_iconst (v := 0) hx hb dX12_centre_7 (by decide) ?_
  refine lv_iconst (v := 3) hx hb dX12_centre_8 (by decide) ?_
  refine z_calli [] [(a0, zO 10 83 g0)] [] [0] hP hD hS hA rfl rfl (by decide) (by decide) (by decide +kernel) 0 0 rfl rfl (fun hPc hDc hF => z_runS (As := [.int x0, .int 0, .int 3]) (rest := [.int 0, .ref a0]) ⟨hx, hb, hml, hown, hg⟩ (cX12_isIn_11 l K H.size x0 e3 e4) kS_RX12_175 hd_X12_isIn rfl rfl ⟨(Nat.le_of_ble_eq_true rfl), (Nat.le_of_ble_eq_true rfl)⟩ hK hS hZ hPc hDc hF rfl hl.1 rfl (Nat.le_of_ble_eq_true rfl) dX12_centre_9 ⟨(Nat.le_of_ble_eq_true rfl), (Nat.le_of_ble_eq_true rfl)⟩) (fun r6 u4 H locs w5 hP hD hS => ?_)
  subst w5
  have hP : va_P K.1 classes [(a0, zO 10 83 g0)] H := hP
  have hD : va_D A [(a0, zO 10 83 g0)] := hD
  refine z_calli [(a0, zO 10 83 g0)] [] [0] [] hP hD hS hA rfl rfl (by decide) (by decide) (by decide +kernel) 0 0 rfl rfl (fun hPc hDc hF => z_runV (As := [.int 0, .int 0]) (rest := []) ⟨hx, hb, hml, hown, hg⟩ (cX12_mayTell_1 l K H.size a0 g0) kV_RX12_203 hd_X12_mayTell rfl rfl ⟨(Nat.le_of_ble_eq_true rfl), (Nat.le_of_ble_eq_true rfl)⟩ hK hS hZ hPc hDc hF 0 rfl rfl rfl hl.1 rfl (Nat.le_of_ble_eq_true rfl) dX12_centre_12 ⟨(Nat.le_of_ble_eq_true rfl), (Nat.le_of_ble_eq_true rfl)⟩) (fun r9 u7 H locs w8 hP hD hS => ?_)
  subst w8
  have hP : va_P K.1 classes [(a0, zO 10 83 (va_up g0 81 (.int 1)))] H := hP
  have hD : va_D A [(a0, zO 10 83 (va_up g0 81 (.int 1)))] := hD
  refine lv_if_eq (tgt := 32) hx hb dX12_centre_15 (by decide) (fun _ => ?_) (fun c => absurd (by decide) c)
  refine lv_iconst (v := 0) hx hb dX12_centre_32 (by decide) ?_
  have hP9 : va_P K.1 classes [(a0, zO 10 83 (va_up g0 81 (.int 1)))] H := hP.sub [0] rfl
  have hD9 : va_D A [(a0, zO 10 83 (va_up g0 81 (.int 1)))] := hD.sub [0] (by decide) rfl
  exact z_iret hx hb hr (fun _ => 0) rfl hP9 hD9 hS (Nat.le_of_ble_eq_true rfl) (Nat.le_of_ble_eq_true rfl) hlocks dX12_centre_33
set_option maxHeartbeats 4000000 in
set_option maxRecDepth 100000 in
theorem cX11_define_1 (l : Launch) (hl9 : l.stackTraces = false) (K : zK) (sz : Nat) (a0 : Nat) (a1 : Nat) (g0 : Nat → Value) (g1 : Nat → Value) (x0 : Int32) (x1 : Int32) (e0 : g0 0 = (.ref a1)) (e1 : x1 < (0 : Int32)) : vx_Met l yX11_define (Cond.code yX11_define cX11_define 3 (some .int) :: WG) { frames := 7, cells := 1, slots := 6, locals := 103 } (zPre K [(a0, zO 9 9 g0), (a1, zO 7 6 g1)] sz [.ref a0, .int x0, .int x1]) (va_Qv (fun _ : Unit => False) (fun _ _ => True) (va_A [(a0, zO 9 9 g0), (a1, zO 7 6 g1)] sz)) (zX (va_A [(a0, zO 9 9 g0), (a1, zO 7 6 g1)] sz) zIB) 1 6 (va_A [(a0, zO 9 9 g0), (a1, zO 7 6 g1)] sz) := by
  refine z_xmet (Qc := fun A => va_Qv (fun _ : Unit => False) (fun _ _ => True) A) (XC := fun A => zX A zIB) (by decide +kernel) (Nat.le_of_ble_eq_true rfl) ?_
  intro p e s m args below meth c A ls H hx hb hr hg hown hlocks hml hno hK hP hD hA hS hZ hl
  have hown : s.vm.findClass RX11 = some m.cls := hown
  have hl : lv_has ls 3 [(0, .ref a0), (1, .int x0), (2, .int x1)] := hl
  refine lv_aload_n hx hb dX11_define_0 rfl (lv_at hl 0 rfl) ?_
  refine lv_iload_n hx hb dX11_define_1 rfl (lv_at hl 2 rfl) ?_
  refine z_xcall (EX := zIB) [(a0, zO 9 9 g0), (a1, zO 7 6 g1)] [0, 1] hP hD hS hA rfl (by decide) 1 6 rfl rfl (fun hPc hDc hF => z_xrunV (As := [.int x1]) (rest := []) ⟨hx, hb, hml, hown, hg⟩ (cX11_checkTold_1 l hl9 K H.size a0 a1 g0 g1 x1 e0 e1) kV_RX11_76 hd_X11_checkTold rfl rfl ⟨(Nat.le_of_ble_eq_true rfl), (Nat.le_of_ble_eq_true rfl)⟩ hK hS hZ hPc hDc hF 0 rfl rfl rfl hl.1 rfl (Nat.le_of_ble_eq_true rfl) dX11_define_2 ⟨(Nat.le_of_ble_eq_true rfl), (Nat.le_of_ble_eq_true rfl)⟩) (fun ce q9 H locs hS hce hcv hcl => ?_)
  exact z_xout hno hlocks hS hce hcv hcl (Nat.le_of_ble_eq_true rfl) (Nat.le_of_ble_eq_true rfl)
set_option maxHeartbeats 4000000 in
set_option maxRecDepth 100000 in
theorem cL_define_1 (l : Launch) (hl9 : l.stackTraces = false) (K : zK) (sz : Nat) (a0 : Nat) (a1 : Nat) (a2 : Nat) (g0 : Nat → Value) (g2 : Nat → Value) (x0 : Int32) (x1 : Int32) (e0 : g0 0 = (.ref a2)) (e1 : x1 < (0 : Int32)) : vx_Met l yL_define (Cond.codeWith yL_define cL_define 5 (some .int) [(0, 10, 13, 27), (0, 10, 17, 18), (0, 10, 21, 13)] :: WG) { frames := 8, cells := 1, slots := 6, locals := 125 } (zPre K [(a0, zO 9 9 g0), (a2, zO 7 6 g2)] sz [.ref a0, .int x0, .int x1, .ref a1]) (va_Qi (fun (r : Int32) (_ : Nat → Nat) => r = 1) (zB K (va_A [(a0, zO 9 9 g0), (a2, zO 7 6 g2)] sz) (fun u : Nat → Nat => [])) (va_A [(a0, zO 9 9 g0), (a2, zO 7 6 g2)] sz)) (vx_X (fun _ : Unit => False) (fun _ _ _ => True) (va_A [(a0, zO 9 9 g0), (a2, zO 7 6 g2)] sz)) 1 6 (va_A [(a0, zO 9 9 g0), (a2, zO 7 6 g2)] sz) := by
  refine z_hmet (Qc := fun A => (va_Qi (fun (r : Int32) (_ : Nat → Nat) => r = 1) (zB K A (fun u : Nat → Nat => [])) A)) (XC := fun A => vx_X (fun _ : Unit => False) (fun _ _ _ => True) A) (by decide +kernel) (Nat.le_of_ble_eq_true rfl) ?_
  intro p e s m args below meth c A ls H hx hb hr hg hown hlocks hml hTab hK hP hD hA hS hZ hl
  have hown : s.vm.findClass RL = some m.cls := hown
  have hl : lv_has ls 5 [(0, .ref a0), (1, .int x0), (2, .int x1), (3, .ref a1)] := hl
  refine lv_aload_n hx hb dL_define_0 rfl (lv_at hl 3 rfl) ?_
  refine lv_iconst (v := 0) hx hb dL_define_1 (by decide) ?_
  refine lv_aload_n hx hb dL_define_2 rfl (lv_at hl 0 rfl) ?_
  refine lv_iload_n hx hb dL_define_3 rfl (lv_at hl 1 rfl) ?_
  refine lv_iload_n hx hb dL_define_4 rfl (lv_at hl 2 rfl) ?_
  refine z_xcall (EX := zIB) [(a0, zO 9 9 g0), (a2, zO 7 6 g2)] [0, 1] hP hD hS hA rfl (by decide) 1 6 rfl rfl (fun hPc hDc hF => z_xrunV (As := [.int x0, .int x1]) (rest := [.int 0, .ref a1]) ⟨hx, hb, hml, hown, hg⟩ (cX11_define_1 l hl9 K H.size a0 a2 g0 g2 x0 x1 e0 e1) kV_RL_64 hd_X11_define rfl rfl ⟨(Nat.le_of_ble_eq_true rfl), (Nat.le_of_ble_eq_true rfl)⟩ hK hS hZ hPc hDc hF 0 rfl rfl rfl hl.1 rfl (Nat.le_of_ble_eq_true rfl) dL_define_5 ⟨(Nat.le_of_ble_eq_true rfl), (Nat.le_of_ble_eq_true rfl)⟩) (fun ce q9 H locs hS hce hcv hcl => ?_)
  refine vx_catch (own := RL) (name := zIB) (E := zIB) hown [] ⟨0, 10, 13, 27⟩ [⟨0, 10, 17, 18⟩, ⟨0, 10, 21, 13⟩] (by rw [hTab]; rfl) (fun z hz => nomatch hz) (by decide) (by decide) (hg _ mt526) (va_Nw.use rfl hZ.1.1.2.2.2.1) hce hcv hcl ?_
  have hP : va_P K.1 classes [] H := z_P0
  have hD : va_D A [] := z_D0
  refine lv_astore (lv' := [(4, .ref q9), (0, .ref a0), (1, .int x0), (2, .int x1), (3, .ref a1)]) hx hb dL_define_13 hl (by decide) rfl (fun ls hl => ?_)
  refine lv_iconst (v := 1) hx hb dL_define_15 (by decide) ?_
  have hP9 : va_P K.1 classes [] H := hP.sub [] rfl
  have hD9 : va_D A [] := hD.sub [] (by decide) rfl
  exact z_iret hx hb hr (fun _ => 0) rfl hP9 hD9 hS (Nat.le_of_ble_eq_true rfl) (Nat.le_of_ble_eq_true rfl) hlocks dL_define_16
set_option maxHeartbeats 4000000 in
set_option maxRecDepth 100000 in
theorem cX12_define_1 (l : Launch) (K : zK) (sz : Nat) (a0 : Nat) (g0 : Nat → Value) (x0 : Int32) (x1 : Int32) (e0 : g0 0 = (.int 0)) (e1 : x1 < (0 : Int32)) : Met l yX12_define (Cond.code yX12_define cX12_define 5 (some .int) :: WG) { frames := 2, cells := 0, slots := 0, locals := 43 } (zPre K [(a0, zO 10 83 g0)] sz [.ref a0, .int x0, .int x1]) (va_Qi (fun (r : Int32) (_ : Nat → Nat) => r = 0) (zB K (va_A [(a0, zO 10 83 g0)] sz) (fun u : Nat → Nat => [(a0, zO 10 83 (va_up g0 81 (.int 1)))])) (va_A [(a0, zO 10 83 g0)] sz)) 0 0 (va_A [(a0, zO 10 83 g0)] sz) := by
  refine z_met (Qc := fun A => (va_Qi (fun (r : Int32) (_ : Nat → Nat) => r = 0) (zB K A (fun u : Nat → Nat => [(a0, zO 10 83 (va_up g0 81 (.int 1)))])) A)) (by decide +kernel) (Nat.le_of_ble_eq_true rfl) ?_
  intro p e s m args below meth c A ls H hx hb hr hg hown hlocks hml hin hK hP hD hA hS hZ hl
  have hown : s.vm.findClass RX12 = some m.cls := hown
  have hl : lv_has ls 5 [(0, .ref a0), (1, .int x0), (2, .int x1)] := hl
  refine lv_aload_n hx hb dX12_define_0 rfl (lv_at hl 0 rfl) ?_
  refine lv_iload_n hx hb dX12_define_1 rfl (lv_at hl 2 rfl) ?_
  refine z_calli [(a0, zO 10 83 g0)] [] [0] [] hP hD hS hA rfl rfl (by decide) (by decide) (by decide +kernel) 0 0 rfl rfl (fun hPc hDc hF => z_runV (As := [.int x1]) (rest := []) ⟨hx, hb, hml, hown, hg⟩ (cX12_isNode_1 l K H.size a0 g0 x1 e0 e1) kV_RX12_200 hd_X12_isNode rfl rfl ⟨(Nat.le_of_ble_eq_true rfl), (Nat.le_of_ble_eq_true rfl)⟩ hK hS hZ hPc hDc hF 0 rfl rfl rfl hl.1 rfl (Nat.le_of_ble_eq_true rfl) dX12_define_2 ⟨(Nat.le_of_ble_eq_true rfl), (Nat.le_of_ble_eq_true rfl)⟩) (fun r3 u1 H locs w2 hP hD hS => ?_)
  subst w2
  have hP : va_P K.1 classes [(a0, zO 10 83 g0)] H := hP
  have hD : va_D A [(a0, zO 10 83 g0)] := hD
  refine lv_istore_n (lv' := [(3, .int 0), (0, .ref a0), (1, .int x0), (2, .int x1)]) hx hb dX12_define_5 rfl hl (by decide) rfl (fun ls hl => ?_)
  refine lv_iload_n hx hb dX12_define_6 rfl (lv_at hl 0 rfl) ?_
  refine lv_if_eq (tgt := 25) hx hb dX12_define_7 (by decide) (fun _ => ?_) (fun c => absurd (by decide) c)
  refine lv_iconst (v := 0) hx hb dX12_define_25 (by decide) ?_
  refine lv_istore (lv' := [(4, .int 0), (3, .int 0), (0, .ref a0), (1, .int x0), (2, .int x1)]) hx hb dX12_define_26 hl (by decide) rfl (fun ls hl => ?_)
  refine lv_iload hx hb dX12_define_28 (lv_at hl 0 rfl) ?_
  refine lv_if_eq (tgt := 38) hx hb dX12_define_30 (by decide) (fun _ => ?_) (fun c => absurd (by decide) c)
  refine lv_aload_n hx hb dX12_define_38 rfl (lv_at hl 2 rfl) ?_
  refine lv_iload_n hx hb dX12_define_39 rfl (lv_at hl 1 rfl) ?_
  refine lv_if_ne (tgt := 47) hx hb dX12_define_40 (by decide) (fun c => absurd (by decide) c) (fun _ => ?_)
  refine lv_iconst (v := 1) hx hb dX12_define_43 (by decide) ?_
  refine lv_goto (tgt := 80) hx hb dX12_define_44 (by decide) ?_
  refine z_calli [(a0, zO 10 83 g0)] [] [0] [] hP hD hS hA rfl rfl (by decide) (by decide) (by decide +kernel) 0 0 rfl rfl (fun hPc hDc hF => z_runV (As := [.int 1]) (rest := []) ⟨hx, hb, hml, hown, hg⟩ (cX12_can_2 l K H.size a0 g0) kV_RX12_182 hd_X12_can rfl rfl ⟨(Nat.le_of_ble_eq_true rfl), (Nat.le_of_ble_eq_true rfl)⟩ hK hS hZ hPc hDc hF 0 rfl rfl rfl hl.1 rfl (Nat.le_of_ble_eq_true rfl) dX12_define_80 ⟨(Nat.le_of_ble_eq_true rfl), (Nat.le_of_ble_eq_true rfl)⟩) (fun r6 u4 H locs w5 hP hD hS => ?_)
  subst w5
  have hP : va_P K.1 classes [(a0, zO 10 83 (va_up g0 81 (.int 1)))] H := hP
  have hD : va_D A [(a0, zO 10 83 (va_up g0 81 (.int 1)))] := hD
  refine lv_if_ne (tgt := 88) hx hb dX12_define_83 (by decide) (fun c => absurd (by decide) c) (fun _ => ?_)
  refine lv_iconst (v := 0) hx hb dX12_define_86 (by decide) ?_
  have hP9 : va_P K.1 classes [(a0, zO 10 83 (va_up g0 81 (.int 1)))] H := hP.sub [0] rfl
  have hD9 : va_D A [(a0, zO 10 83 (va_up g0 81 (.int 1)))] := hD.sub [0] (by decide) rfl
  exact z_iret hx hb hr (fun _ => 0) rfl hP9 hD9 hS (Nat.le_of_ble_eq_true rfl) (Nat.le_of_ble_eq_true rfl) hlocks dX12_define_87
set_option maxHeartbeats 4000000 in
set_option maxRecDepth 100000 in
theorem cX11_define_2 (l : Launch) (hl9 : l.stackTraces = false) (K : zK) (sz : Nat) (a0 : Nat) (a1 : Nat) (g0 : Nat → Value) (g1 : Nat → Value) (x0 : Int32) (x1 : Int32) (e0 : g0 0 = (.ref a1)) (e1 : ¬ x1 < (0 : Int32)) (e2 : g1 5 = (.int 0)) (e3 : (0 : Int32) ≤ x1) : vx_Met l yX11_define (Cond.code yX11_define cX11_define 3 (some .int) :: WG) { frames := 7, cells := 1, slots := 6, locals := 103 } (zPre K [(a0, zO 9 9 g0), (a1, zO 7 6 g1)] sz [.ref a0, .int x0, .int x1]) (va_Qv (fun _ : Unit => False) (fun _ _ => True) (va_A [(a0, zO 9 9 g0), (a1, zO 7 6 g1)] sz)) (zX (va_A [(a0, zO 9 9 g0), (a1, zO 7 6 g1)] sz) zIB) 1 6 (va_A [(a0, zO 9 9 g0), (a1, zO 7 6 g1)] sz) := by
  refine z_xmet (Qc := fun A => va_Qv (fun _ : Unit => False) (fun _ _ => True) A) (XC := fun A => zX A zIB) (by decide +kernel) (Nat.le_of_ble_eq_true rfl) ?_
  intro p e s m args below meth c A ls H hx hb hr hg hown hlocks hml hno hK hP hD hA hS hZ hl
  have hown : s.vm.findClass RX11 = some m.cls := hown
  have hl : lv_has ls 3 [(0, .ref a0), (1, .int x0), (2, .int x1)] := hl
  refine lv_aload_n hx hb dX11_define_0 rfl (lv_at hl 0 rfl) ?_
  refine lv_iload_n hx hb dX11_define_1 rfl (lv_at hl 2 rfl) ?_
  refine z_xcall (EX := zIB) [(a0, zO 9 9 g0), (a1, zO 7 6 g1)] [0, 1] hP hD hS hA rfl (by decide) 1 6 rfl rfl (fun hPc hDc hF => z_xrunV (As := [.int x1]) (rest := []) ⟨hx, hb, hml, hown, hg⟩ (cX11_checkTold_2 l hl9 K H.size a0 a1 g0 g1 x1 e0 e1 e2 e3) kV_RX11_76 hd_X11_checkTold rfl rfl ⟨(Nat.le_of_ble_eq_true rfl), (Nat.le_of_ble_eq_true rfl)⟩ hK hS hZ hPc hDc hF 0 rfl rfl rfl hl.1 rfl (Nat.le_of_ble_eq_true rfl) dX11_define_2 ⟨(Nat.le_of_ble_eq_true rfl), (Nat.le_of_ble_eq_true rfl)⟩) (fun ce q9 H locs hS hce hcv hcl => ?_)
  exact z_xout hno hlocks hS hce hcv hcl (Nat.le_of_ble_eq_true rfl) (Nat.le_of_ble_eq_true rfl)
set_option maxHeartbeats 4000000 in
set_option maxRecDepth 100000 in
theorem cL_define_2 (l : Launch) (hl9 : l.stackTraces = false) (K : zK) (sz : Nat) (a0 : Nat) (a1 : Nat) (a2 : Nat) (g0 : Nat → Value) (g2 : Nat → Value) (x0 : Int32) (x1 : Int32) (e0 : g0 0 = (.ref a2)) (e1 : ¬ x1 < (0 : Int32)) (e2 : g2 5 = (.int 0)) (e3 : (0 : Int32) ≤ x1) : vx_Met l yL_define (Cond.codeWith yL_define cL_define 5 (some .int) [(0, 10, 13, 27), (0, 10, 17, 18), (0, 10, 21, 13)] :: WG) { frames := 8, cells := 1, slots := 6, locals := 125 } (zPre K [(a0, zO 9 9 g0), (a2, zO 7 6 g2)] sz [.ref a0, .int x0, .int x1, .ref a1]) (va_Qi (fun (r : Int32) (_ : Nat → Nat) => r = 1) (zB K (va_A [(a0, zO 9 9 g0), (a2, zO 7 6 g2)] sz) (fun u : Nat → Nat => [])) (va_A [(a0, zO 9 9 g0), (a2, zO 7 6 g2)] sz)) (vx_X (fun _ : Unit => False) (fun _ _ _ => True) (va_A [(a0, zO 9 9 g0), (a2, zO 7 6 g2)] sz)) 1 6 (va_A [(a0, zO 9 9 g0), (a2, zO 7 6 g2)] sz) := by
  refine z_hmet (Qc := fun A => (va_Qi (fun (r : Int32) (_ : Nat → Nat) => r = 1) (zB K A (fun u : Nat → Nat => [])) A)) (XC := fun A => vx_X (fun _ : Unit => False) (fun _ _ _ => True) A) (by decide +kernel) (Nat.le_of_ble_eq_true rfl) ?_
  intro p e s m args below meth c A ls H hx hb hr hg hown hlocks hml hTab hK hP hD hA hS hZ hl
  have hown : s.vm.findClass RL = some m.cls := hown
  have hl : lv_has ls 5 [(0, .ref a0), (1, .int x0), (2, .int x1), (3, .ref a1)] := hl
  refine lv_aload_n hx hb dL_define_0 rfl (lv_at hl 3 rfl) ?_
  refine lv_iconst (v := 0) hx hb dL_define_1 (by decide) ?_
  refine lv_aload_n hx hb dL_define_2 rfl (lv_at hl 0 rfl) ?_
  refine lv_iload_n hx hb dL_define_3 rfl (lv_at hl 1 rfl) ?_
  refine lv_iload_n hx hb dL_define_4 rfl (lv_at hl 2 rfl) ?_
  refine z_xcall (EX := zIB) [(a0, zO 9 9 g0), (a2, zO 7 6 g2)] [0, 1] hP hD hS hA rfl (by decide) 1 6 rfl rfl (fun hPc hDc hF => z_xrunV (As := [.int x0, .int x1]) (rest := [.int 0, .ref a1]) ⟨hx, hb, hml, hown, hg⟩ (cX11_define_2 l hl9 K H.size a0 a2 g0 g2 x0 x1 e0 e1 e2 e3) kV_RL_64 hd_X11_define rfl rfl ⟨(Nat.le_of_ble_eq_true rfl), (Nat.le_of_ble_eq_true rfl)⟩ hK hS hZ hPc hDc hF 0 rfl rfl rfl hl.1 rfl (Nat.le_of_ble_eq_true rfl) dL_define_5 ⟨(Nat.le_of_ble_eq_true rfl), (Nat.le_of_ble_eq_true rfl)⟩) (fun ce q9 H locs hS hce hcv hcl => ?_)
  refine vx_catch (own := RL) (name := zIB) (E := zIB) hown [] ⟨0, 10, 13, 27⟩ [⟨0, 10, 17, 18⟩, ⟨0, 10, 21, 13⟩] (by rw [hTab]; rfl) (fun z hz => nomatch hz) (by decide) (by decide) (hg _ mt526) (va_Nw.use rfl hZ.1.1.2.2.2.1) hce hcv hcl ?_
  have hP : va_P K.1 classes [] H := z_P0
  have hD : va_D A [] := z_D0
  refine lv_astore (lv' := [(4, .ref q9), (0, .ref a0), (1, .int x0), (2, .int x1), (3, .ref a1)]) hx hb dL_define_13 hl (by decide) rfl (fun ls hl => ?_)
  refine lv_iconst (v := 1) hx hb dL_define_15 (by decide) ?_
  have hP9 : va_P K.1 classes [] H := hP.sub [] rfl
  have hD9 : va_D A [] := hD.sub [] (by decide) rfl
  exact z_iret hx hb hr (fun _ => 0) rfl hP9 hD9 hS (Nat.le_of_ble_eq_true rfl) (Nat.le_of_ble_eq_true rfl) hlocks dL_define_16
set_option maxHeartbeats 4000000 in
set_option maxRecDepth 100000 in
theorem cX12_define_2 (l : Launch) (K : zK) (sz : Nat) (a0 : Nat) (g0 : Nat → Value) (x0 : Int32) (x1 : Int32) (e0 : g0 0 = (.int 0)) (e1 : ¬ x1 < (0 : Int32)) (e2 : (-1 : Int32) < x1) : Met l yX12_define (Cond.code yX12_define cX12_define 5 (some .int) :: WG) { frames := 2, cells := 0, slots := 0, locals := 43 } (zPre K [(a0, zO 10 83 g0)] sz [.ref a0, .int x0, .int x1]) (va_Qi (fun (r : Int32) (_ : Nat → Nat) => r = 0) (zB K (va_A [(a0, zO 10 83 g0)] sz) (fun u : Nat → Nat => [(a0, zO 10 83 (va_up g0 81 (.int 1)))])) (va_A [(a0, zO 10 83 g0)] sz)) 0 0 (va_A [(a0, zO 10 83 g0)] sz) := by
  refine z_met (Qc := fun A => (va_Qi (fun (r : Int32) (_ : Nat → Nat) => r = 0) (zB K A (fun u : Nat → Nat => [(a0, zO 10 83 (va_up g0 81 (.int 1)))])) A)) (by decide +kernel) (Nat.le_of_ble_eq_true rfl) ?_
  intro p e s m args below meth c A ls H hx hb hr hg hown hlocks hml hin hK hP hD hA hS hZ hl
  have hown : s.vm.findClass RX12 = some m.cls := hown
  have hl : lv_has ls 5 [(0, .ref a0), (1, .int x0), (2, .int x1)] := hl
  refine lv_aload_n hx hb dX12_define_0 rfl (lv_at hl 0 rfl) ?_
  refine lv_iload_n hx hb dX12_define_1 rfl (lv_at hl 2 rfl) ?_
  refine z_calli [(a0, zO 10 83 g0)] [] [0] [] hP hD hS hA rfl rfl (by decide) (by decide) (by decide +kernel) 0 0 rfl rfl (fun hPc hDc hF => z_runV (As := [.int x1]) (rest := []) ⟨hx, hb, hml, hown, hg⟩ (cX12_isNode_2 l K H.size a0 g0 x1 e0 e1 e2) kV_RX12_200 hd_X12_isNode rfl rfl ⟨(Nat.le_of_ble_eq_true rfl), (Nat.le_of_ble_eq_true rfl)⟩ hK hS hZ hPc hDc hF 0 rfl rfl rfl hl.1 rfl (Nat.le_of_ble_eq_true rfl) dX12_define_2 ⟨(Nat.le_of_ble_eq_true rfl), (Nat.le_of_ble_eq_true rfl)⟩) (fun r3 u1 H locs w2 hP hD hS => ?_)
  subst w2
  have hP : va_P K.1 classes [(a0, zO 10 83 g0)] H := hP
  have hD : va_D A [(a0, zO 10 83 g0)] := hD
  refine lv_istore_n (lv' := [(3, .int 0), (0, .ref a0), (1, .int x0), (2, .int x1)]) hx hb dX12_define_5 rfl hl (by decide) rfl (fun ls hl => ?_)
  refine lv_iload_n hx hb dX12_define_6 rfl (lv_at hl 0 rfl) ?_
  refine lv_if_eq (tgt := 25) hx hb dX12_define_7 (by decide) (fun _ => ?_) (fun c => absurd (by decide) c)
  refine lv_iconst (v := 0) hx hb dX12_define_25 (by decide) ?_
  refine lv_istore (lv' := [(4, .int 0), (3, .int 0), (0, .ref a0), (1, .int x0), (2, .int x1)]) hx hb dX12_define_26 hl (by decide) rfl (fun ls hl => ?_)
  refine lv_iload hx hb dX12_define_28 (lv_at hl 0 rfl) ?_
  refine lv_if_eq (tgt := 38) hx hb dX12_define_30 (by decide) (fun _ => ?_) (fun c => absurd (by decide) c)
  refine lv_aload_n hx hb dX12_define_38 rfl (lv_at hl 2 rfl) ?_
  refine lv_iload_n hx hb dX12_define_39 rfl (lv_at hl 1 rfl) ?_
  refine lv_if_ne (tgt := 47) hx hb dX12_define_40 (by decide) (fun c => absurd (by decide) c) (fun _ => ?_)
  refine lv_iconst (v := 1) hx hb dX12_define_43 (by decide) ?_
  refine lv_goto (tgt := 80) hx hb dX12_define_44 (by decide) ?_
  refine z_calli [(a0, zO 10 83 g0)] [] [0] [] hP hD hS hA rfl rfl (by decide) (by decide) (by decide +kernel) 0 0 rfl rfl (fun hPc hDc hF => z_runV (As := [.int 1]) (rest := []) ⟨hx, hb, hml, hown, hg⟩ (cX12_can_2 l K H.size a0 g0) kV_RX12_182 hd_X12_can rfl rfl ⟨(Nat.le_of_ble_eq_true rfl), (Nat.le_of_ble_eq_true rfl)⟩ hK hS hZ hPc hDc hF 0 rfl rfl rfl hl.1 rfl (Nat.le_of_ble_eq_true rfl) dX12_define_80 ⟨(Nat.le_of_ble_eq_true rfl), (Nat.le_of_ble_eq_true rfl)⟩) (fun r6 u4 H locs w5 hP hD hS => ?_)
  subst w5
  have hP : va_P K.1 classes [(a0, zO 10 83 (va_up g0 81 (.int 1)))] H := hP
  have hD : va_D A [(a0, zO 10 83 (va_up g0 81 (.int 1)))] := hD
  refine lv_if_ne (tgt := 88) hx hb dX12_define_83 (by decide) (fun c => absurd (by decide) c) (fun _ => ?_)
  refine lv_iconst (v := 0) hx hb dX12_define_86 (by decide) ?_
  have hP9 : va_P K.1 classes [(a0, zO 10 83 (va_up g0 81 (.int 1)))] H := hP.sub [0] rfl
  have hD9 : va_D A [(a0, zO 10 83 (va_up g0 81 (.int 1)))] := hD.sub [0] (by decide) rfl
  exact z_iret hx hb hr (fun _ => 0) rfl hP9 hD9 hS (Nat.le_of_ble_eq_true rfl) (Nat.le_of_ble_eq_true rfl) hlocks dX12_define_87
set_option maxHeartbeats 4000000 in
set_option maxRecDepth 100000 in
theorem cX11_rule_1 (l : Launch) (hl9 : l.stackTraces = false) (K : zK) (sz : Nat) (a0 : Nat) (g0 : Nat → Value) (x0 : Int32) (x1 : Int32) (x2 : Int32) (e0 : x0 < (0 : Int32)) : vx_Met l yX11_rule (Cond.code yX11_rule cX11_rule 4 (some .int) :: WG) { frames := 7, cells := 1, slots := 6, locals := 104 } (zPre K [(a0, zO 9 9 g0)] sz [.ref a0, .int x0, .int x1, .int x2]) (va_Qv (fun _ : Unit => False) (fun _ _ => True) (va_A [(a0, zO 9 9 g0)] sz)) (zX (va_A [(a0, zO 9 9 g0)] sz) zIA) 1 6 (va_A [(a0, zO 9 9 g0)] sz) := by
  refine z_xmet (Qc := fun A => va_Qv (fun _ : Unit => False) (fun _ _ => True) A) (XC := fun A => zX A zIA) (by decide +kernel) (Nat.le_of_ble_eq_true rfl) ?_
  intro p e s m args below meth c A ls H hx hb hr hg hown hlocks hml hno hK hP hD hA hS hZ hl
  have hown : s.vm.findClass RX11 = some m.cls := hown
  have hl : lv_has ls 4 [(0, .ref a0), (1, .int x0), (2, .int x1), (3, .int x2)] := hl
  refine lv_aload_n hx hb dX11_rule_0 rfl (lv_at hl 0 rfl) ?_
  refine lv_iload_n hx hb dX11_rule_1 rfl (lv_at hl 1 rfl) ?_
  refine lv_bipush (v := 8) hx hb dX11_rule_2 (by decide) ?_
  refine z_xcall (EX := zIA) [(a0, zO 9 9 g0)] [0] hP hD hS hA rfl (by decide) 1 6 rfl rfl (fun hPc hDc hF => z_xrunV (As := [.int x0, .int 8]) (rest := []) ⟨hx, hb, hml, hown, hg⟩ (cX11_checkRange_4 l hl9 K H.size a0 g0 x0 e0) kV_RX11_72 hd_X11_checkRange rfl rfl ⟨(Nat.le_of_ble_eq_true rfl), (Nat.le_of_ble_eq_true rfl)⟩ hK hS hZ hPc hDc hF 0 rfl rfl rfl hl.1 rfl (Nat.le_of_ble_eq_true rfl) dX11_rule_4 ⟨(Nat.le_of_ble_eq_true rfl), (Nat.le_of_ble_eq_true rfl)⟩) (fun ce q9 H locs hS hce hcv hcl => ?_)
  exact z_xout hno hlocks hS hce hcv hcl (Nat.le_of_ble_eq_true rfl) (Nat.le_of_ble_eq_true rfl)
set_option maxHeartbeats 4000000 in
set_option maxRecDepth 100000 in
theorem cL_rule_1 (l : Launch) (hl9 : l.stackTraces = false) (K : zK) (sz : Nat) (a0 : Nat) (a1 : Nat) (g0 : Nat → Value) (x0 : Int32) (x1 : Int32) (x2 : Int32) (e0 : x0 < (0 : Int32)) : vx_Met l yL_rule (Cond.codeWith yL_rule cL_rule 6 (some .int) [(0, 12, 15, 18), (0, 12, 19, 13)] :: WG) { frames := 8, cells := 1, slots := 6, locals := 127 } (zPre K [(a0, zO 9 9 g0)] sz [.ref a0, .int x0, .int x1, .int x2, .ref a1]) (va_Qi (fun (r : Int32) (_ : Nat → Nat) => r = 1) (zB K (va_A [(a0, zO 9 9 g0)] sz) (fun u : Nat → Nat => [])) (va_A [(a0, zO 9 9 g0)] sz)) (vx_X (fun _ : Unit => False) (fun _ _ _ => True) (va_A [(a0, zO 9 9 g0)] sz)) 1 6 (va_A [(a0, zO 9 9 g0)] sz) := by
  refine z_hmet (Qc := fun A => (va_Qi (fun (r : Int32) (_ : Nat → Nat) => r = 1) (zB K A (fun u : Nat → Nat => [])) A)) (XC := fun A => vx_X (fun _ : Unit => False) (fun _ _ _ => True) A) (by decide +kernel) (Nat.le_of_ble_eq_true rfl) ?_
  intro p e s m args below meth c A ls H hx hb hr hg hown hlocks hml hTab hK hP hD hA hS hZ hl
  have hown : s.vm.findClass RL = some m.cls := hown
  have hl : lv_has ls 6 [(0, .ref a0), (1, .int x0), (2, .int x1), (3, .int x2), (4, .ref a1)] := hl
  refine lv_aload hx hb dL_rule_0 (lv_at hl 4 rfl) ?_
  refine lv_iconst (v := 0) hx hb dL_rule_2 (by decide) ?_
  refine lv_aload_n hx hb dL_rule_3 rfl (lv_at hl 0 rfl) ?_
  refine lv_iload_n hx hb dL_rule_4 rfl (lv_at hl 1 rfl) ?_
  refine lv_iload_n hx hb dL_rule_5 rfl (lv_at hl 2 rfl) ?_
  refine lv_iload_n hx hb dL_rule_6 rfl (lv_at hl 3 rfl) ?_
  refine z_xcall (EX := zIA) [(a0, zO 9 9 g0)] [0] hP hD hS hA rfl (by decide) 1 6 rfl rfl (fun hPc hDc hF => z_xrunV (As := [.int x0, .int x1, .int x2]) (rest := [.int 0, .ref a1]) ⟨hx, hb, hml, hown, hg⟩ (cX11_rule_1 l hl9 K H.size a0 g0 x0 x1 x2 e0) kV_RL_67 hd_X11_rule rfl rfl ⟨(Nat.le_of_ble_eq_true rfl), (Nat.le_of_ble_eq_true rfl)⟩ hK hS hZ hPc hDc hF 0 rfl rfl rfl hl.1 rfl (Nat.le_of_ble_eq_true rfl) dL_rule_7 ⟨(Nat.le_of_ble_eq_true rfl), (Nat.le_of_ble_eq_true rfl)⟩) (fun ce q9 H locs hS hce hcv hcl => ?_)
  refine vx_catch (own := RL) (name := zIA) (E := zIA) hown [] ⟨0, 12, 15, 18⟩ [⟨0, 12, 19, 13⟩] (by rw [hTab]; rfl) (fun z hz => nomatch hz) (by decide) (by decide) (hg _ mt491) (va_Nw.use rfl hZ.1.1.2.1) hce hcv hcl ?_
  have hP : va_P K.1 classes [] H := z_P0
  have hD : va_D A [] := z_D0
  refine lv_astore (lv' := [(5, .ref q9), (0, .ref a0), (1, .int x0), (2, .int x1), (3, .int x2), (4, .ref a1)]) hx hb dL_rule_15 hl (by decide) rfl (fun ls hl => ?_)
  refine lv_iconst (v := 1) hx hb dL_rule_17 (by decide) ?_
  have hP9 : va_P K.1 classes [] H := hP.sub [] rfl
  have hD9 : va_D A [] := hD.sub [] (by decide) rfl
  exact z_iret hx hb hr (fun _ => 0) rfl hP9 hD9 hS (Nat.le_of_ble_eq_true rfl) (Nat.le_of_ble_eq_true rfl) hlocks dL_rule_18
set_option maxHeartbeats 4000000 in
set_option maxRecDepth 100000 in
theorem cX12_rule_1 (l : Launch) (K : zK) (sz : Nat) (a0 : Nat) (g0 : Nat → Value) (x0 : Int32) (x1 : Int32) (x2 : Int32) (e0 : x0 < (0 : Int32)) : Met l yX12_rule (Cond.code yX12_rule cX12_rule 4 (some .int) :: WG) { frames := 2, cells := 0, slots := 0, locals := 42 } (zPre K [(a0, zO 10 83 g0)] sz [.ref a0, .int x0, .int x1, .int x2]) (va_Qi (fun (r : Int32) (_ : Nat → Nat) => r = 0) (zB K (va_A [(a0, zO 10 83 g0)] sz) (fun u : Nat → Nat => [(a0, zO 10 83 (va_up g0 81 (.int 1)))])) (va_A [(a0, zO 10 83 g0)] sz)) 0 0 (va_A [(a0, zO 10 83 g0)] sz) := by
  refine z_met (Qc := fun A => (va_Qi (fun (r : Int32) (_ : Nat → Nat) => r = 0) (zB K A (fun u : Nat → Nat => [(a0, zO 10 83 (va_up g0 81 (.int 1)))])) A)) (by decide +kernel) (Nat.le_of_ble_eq_true rfl) ?_
  intro p e s m args below meth c A ls H hx hb hr hg hown hlocks hml hin hK hP hD hA hS hZ hl
  have hown : s.vm.findClass RX12 = some m.cls := hown
  have hl : lv_has ls 4 [(0, .ref a0), (1, .int x0), (2, .int x1), (3, .int x2)] := hl
  refine lv_aload_n hx hb dX12_rule_0 rfl (lv_at hl 0 rfl) ?_
  refine lv_iload_n hx hb dX12_rule_1 rfl (lv_at hl 1 rfl) ?_
  refine z_calli [] [(a0, zO 10 83 g0)] [] [0] hP hD hS hA rfl rfl (by decide) (by decide) (by decide +kernel) 0 0 rfl rfl (fun hPc hDc hF => z_runS (As := [.int x0]) (rest := [.ref a0]) ⟨hx, hb, hml, hown, hg⟩ (cX12_isGlobal_1 l K H.size x0 e0) kS_RX12_197 hd_X12_isGlobal rfl rfl ⟨(Nat.le_of_ble_eq_true rfl), (Nat.le_of_ble_eq_true rfl)⟩ hK hS hZ hPc hDc hF rfl hl.1 rfl (Nat.le_of_ble_eq_true rfl) dX12_rule_2 ⟨(Nat.le_of_ble_eq_true rfl), (Nat.le_of_ble_eq_true rfl)⟩) (fun r3 u1 H locs w2 hP hD hS => ?_)
  subst w2
  have hP : va_P K.1 classes [(a0, zO 10 83 g0)] H := hP
  have hD : va_D A [(a0, zO 10 83 g0)] := hD
  refine lv_if_eq (tgt := 22) hx hb dX12_rule_5 (by decide) (fun _ => ?_) (fun c => absurd (by decide) c)
  refine lv_iconst (v := 1) hx hb dX12_rule_22 (by decide) ?_
  refine lv_goto (tgt := 40) hx hb dX12_rule_23 (by decide) ?_
  refine z_calli [(a0, zO 10 83 g0)] [] [0] [] hP hD hS hA rfl rfl (by decide) (by decide) (by decide +kernel) 0 0 rfl rfl (fun hPc hDc hF => z_runV (As := [.int 1]) (rest := []) ⟨hx, hb, hml, hown, hg⟩ (cX12_can_2 l K H.size a0 g0) kV_RX12_182 hd_X12_can rfl rfl ⟨(Nat.le_of_ble_eq_true rfl), (Nat.le_of_ble_eq_true rfl)⟩ hK hS hZ hPc hDc hF 0 rfl rfl rfl hl.1 rfl (Nat.le_of_ble_eq_true rfl) dX12_rule_40 ⟨(Nat.le_of_ble_eq_true rfl), (Nat.le_of_ble_eq_true rfl)⟩) (fun r6 u4 H locs w5 hP hD hS => ?_)
  subst w5
  have hP : va_P K.1 classes [(a0, zO 10 83 (va_up g0 81 (.int 1)))] H := hP
  have hD : va_D A [(a0, zO 10 83 (va_up g0 81 (.int 1)))] := hD
  refine lv_if_ne (tgt := 48) hx hb dX12_rule_43 (by decide) (fun c => absurd (by decide) c) (fun _ => ?_)
  refine lv_iconst (v := 0) hx hb dX12_rule_46 (by decide) ?_
  have hP9 : va_P K.1 classes [(a0, zO 10 83 (va_up g0 81 (.int 1)))] H := hP.sub [0] rfl
  have hD9 : va_D A [(a0, zO 10 83 (va_up g0 81 (.int 1)))] := hD.sub [0] (by decide) rfl
  exact z_iret hx hb hr (fun _ => 0) rfl hP9 hD9 hS (Nat.le_of_ble_eq_true rfl) (Nat.le_of_ble_eq_true rfl) hlocks dX12_rule_47
set_option maxHeartbeats 4000000 in
set_option maxRecDepth 100000 in
theorem cX11_rule_2 (l : Launch) (hl9 : l.stackTraces = false) (K : zK) (sz : Nat) (a0 : Nat) (g0 : Nat → Value) (j0 : Nat) (hj0 : j0 < 8) (x1 : Int32) (x2 : Int32) (e0 : x1 < (0 : Int32)) : vx_Met l yX11_rule (Cond.code yX11_rule cX11_rule 4 (some .int) :: WG) { frames := 7, cells := 1, slots := 6, locals := 104 } (zPre K [(a0, zO 9 9 g0)] sz [.ref a0, .int (nI j0), .int x1, .int x2]) (va_Qv (fun _ : Unit => False) (fun _ _ => True) (va_A [(a0, zO 9 9 g0)] sz)) (zX (va_A [(a0, zO 9 9 g0)] sz) zIA) 1 6 (va_A [(a0, zO 9 9 g0)] sz) := by
  refine z_xmet (Qc := fun A => va_Qv (fun _ : Unit => False) (fun _ _ => True) A) (XC := fun A => zX A zIA) (by decide +kernel) (Nat.le_of_ble_eq_true rfl) ?_
  intro p e s m args below meth c A ls H hx hb hr hg hown hlocks hml hno hK hP hD hA hS hZ hl
  have hown : s.vm.findClass RX11 = some m.cls := hown
  have hl : lv_has ls 4 [(0, .ref a0), (1, .int (nI j0)), (2, .int x1), (3, .int x2)] := hl
  refine lv_aload_n hx hb dX11_rule_0 rfl (lv_at hl 0 rfl) ?_
  refine lv_iload_n hx hb dX11_rule_1 rfl (lv_at hl 1 rfl) ?_
  refine lv_bipush (v := 8) hx hb dX11_rule_2 (by decide) ?_
  refine z_callv [(a0, zO 9 9 g0)] [] [0] [] hP hD hS hA rfl rfl (by decide) (by decide) (by decide +kernel) 0 0 rfl rfl (fun hPc hDc hF => z_runV (As := [.int (nI j0), .int 8]) (rest := []) ⟨hx, hb, hml, hown, hg⟩ (cX11_checkRange_5 l K H.size a0 g0 j0 hj0) kV_RX11_72 hd_X11_checkRange rfl rfl ⟨(Nat.le_of_ble_eq_true rfl), (Nat.le_of_ble_eq_true rfl)⟩ hK hS hZ hPc hDc hF 0 rfl rfl rfl hl.1 rfl (Nat.le_of_ble_eq_true rfl) dX11_rule_4 ⟨(Nat.le_of_ble_eq_true rfl), (Nat.le_of_ble_eq_true rfl)⟩) (fun u1 H locs w2 hP hD hS => ?_)
  have hP : va_P K.1 classes [(a0, zO 9 9 g0)] H := hP
  have hD : va_D A [(a0, zO 9 9 g0)] := hD
  refine lv_aload_n hx hb dX11_rule_7 rfl (lv_at hl 0 rfl) ?_
  refine lv_iload_n hx hb dX11_rule_8 rfl (lv_at hl 2 rfl) ?_
  refine lv_bipush (v := 8) hx hb dX11_rule_9 (by decide) ?_
  refine z_xcall (EX := zIA) [(a0, zO 9 9 g0)] [0] hP hD hS hA rfl (by decide) 1 6 rfl rfl (fun hPc hDc hF => z_xrunV (As := [.int x1, .int 8]) (rest := []) ⟨hx, hb, hml, hown, hg⟩ (cX11_checkRange_4 l hl9 K H.size a0 g0 x1 e0) kV_RX11_72 hd_X11_checkRange rfl rfl ⟨(Nat.le_of_ble_eq_true rfl), (Nat.le_of_ble_eq_true rfl)⟩ hK hS hZ hPc hDc hF 0 rfl rfl rfl hl.1 rfl (Nat.le_of_ble_eq_true rfl) dX11_rule_11 ⟨(Nat.le_of_ble_eq_true rfl), (Nat.le_of_ble_eq_true rfl)⟩) (fun ce q9 H locs hS hce hcv hcl => ?_)
  exact z_xout hno hlocks hS hce hcv hcl (Nat.le_of_ble_eq_true rfl) (Nat.le_of_ble_eq_true rfl)
set_option maxHeartbeats 4000000 in
set_option maxRecDepth 100000 in
theorem cL_rule_2 (l : Launch) (hl9 : l.stackTraces = false) (K : zK) (sz : Nat) (a0 : Nat) (a1 : Nat) (g0 : Nat → Value) (j0 : Nat) (hj0 : j0 < 8) (x1 : Int32) (x2 : Int32) (e0 : x1 < (0 : Int32)) : vx_Met l yL_rule (Cond.codeWith yL_rule cL_rule 6 (some .int) [(0, 12, 15, 18), (0, 12, 19, 13)] :: WG) { frames := 8, cells := 1, slots := 6, locals := 127 } (zPre K [(a0, zO 9 9 g0)] sz [.ref a0, .int (nI j0), .int x1, .int x2, .ref a1]) (va_Qi (fun (r : Int32) (_ : Nat → Nat) => r = 1) (zB K (va_A [(a0, zO 9 9 g0)] sz) (fun u : Nat → Nat => [])) (va_A [(a0, zO 9 9 g0)] sz)) (vx_X (fun _ : Unit => False) (fun _ _ _ => True) (va_A [(a0, zO 9 9 g0)] sz)) 1 6 (va_A [(a0, zO 9 9 g0)] sz) := by
  refine z_hmet (Qc := fun A => (va_Qi (fun (r : Int32) (_ : Nat → Nat) => r = 1) (zB K A (fun u : Nat → Nat => [])) A)) (XC := fun A => vx_X (fun _ : Unit => False) (fun _ _ _ => True) A) (by decide +kernel) (Nat.le_of_ble_eq_true rfl) ?_
  intro p e s m args below meth c A ls H hx hb hr hg hown hlocks hml hTab hK hP hD hA hS hZ hl
  have hown : s.vm.findClass RL = some m.cls := hown
  have hl : lv_has ls 6 [(0, .ref a0), (1, .int (nI j0)), (2, .int x1), (3, .int x2), (4, .ref a1)] := hl
  refine lv_aload hx hb dL_rule_0 (lv_at hl 4 rfl) ?_
  refine lv_iconst (v := 0) hx hb dL_rule_2 (by decide) ?_
  refine lv_aload_n hx hb dL_rule_3 rfl (lv_at hl 0 rfl) ?_
  refine lv_iload_n hx hb dL_rule_4 rfl (lv_at hl 1 rfl) ?_
  refine lv_iload_n hx hb dL_rule_5 rfl (lv_at hl 2 rfl) ?_
  refine lv_iload_n hx hb dL_rule_6 rfl (lv_at hl 3 rfl) ?_
  refine z_xcall (EX := zIA) [(a0, zO 9 9 g0)] [0] hP hD hS hA rfl (by decide) 1 6 rfl rfl (fun hPc hDc hF => z_xrunV (As := [.int (nI j0), .int x1, .int x2]) (rest := [.int 0, .ref a1]) ⟨hx, hb, hml, hown, hg⟩ (cX11_rule_2 l hl9 K H.size a0 g0 j0 hj0 x1 x2 e0) kV_RL_67 hd_X11_rule rfl rfl ⟨(Nat.le_of_ble_eq_true rfl), (Nat.le_of_ble_eq_true rfl)⟩ hK hS hZ hPc hDc hF 0 rfl rfl rfl hl.1 rfl (Nat.le_of_ble_eq_true rfl) dL_rule_7 ⟨(Nat.le_of_ble_eq_true rfl), (Nat.le_of_ble_eq_true rfl)⟩) (fun ce q9 H locs hS hce hcv hcl => ?_)
  refine vx_catch (own := RL) (name := zIA) (E := zIA) hown [] ⟨0, 12, 15, 18⟩ [⟨0, 12, 19, 13⟩] (by rw [hTab]; rfl) (fun z hz => nomatch hz) (by decide) (by decide) (hg _ mt491) (va_Nw.use rfl hZ.1.1.2.1) hce hcv hcl ?_
  have hP : va_P K.1 classes [] H := z_P0
  have hD : va_D A [] := z_D0
  refine lv_astore (lv' := [(5, .ref q9), (0, .ref a0), (1, .int (nI j0)), (2, .int x1), (3, .int x2), (4, .ref a1)]) hx hb dL_rule_15 hl (by decide) rfl (fun ls hl => ?_)
  refine lv_iconst (v := 1) hx hb dL_rule_17 (by decide) ?_
  have hP9 : va_P K.1 classes [] H := hP.sub [] rfl
  have hD9 : va_D A [] := hD.sub [] (by decide) rfl
  exact z_iret hx hb hr (fun _ => 0) rfl hP9 hD9 hS (Nat.le_of_ble_eq_true rfl) (Nat.le_of_ble_eq_true rfl) hlocks dL_rule_18
set_option maxHeartbeats 4000000 in
set_option maxRecDepth 100000 in
theorem cX12_rule_2 (l : Launch) (K : zK) (sz : Nat) (a0 : Nat) (g0 : Nat → Value) (j0 : Nat) (hj0 : j0 < 8) (x1 : Int32) (x2 : Int32) (e0 : x1 < (0 : Int32)) : Met l yX12_rule (Cond.code yX12_rule cX12_rule 4 (some .int) :: WG) { frames := 2, cells := 0, slots := 0, locals := 42 } (zPre K [(a0, zO 10 83 g0)] sz [.ref a0, .int (nI j0), .int x1, .int x2]) (va_Qi (fun (r : Int32) (_ : Nat → Nat) => r = 0) (zB K (va_A [(a0, zO 10 83 g0)] sz) (fun u : Nat → Nat => [(a0, zO 10 83 (va_up g0 81 (.int 1)))])) (va_A [(a0, zO 10 83 g0)] sz)) 0 0 (va_A [(a0, zO 10 83 g0)] sz) := by
  refine z_met (Qc := fun A => (va_Qi (fun (r : Int32) (_ : Nat → Nat) => r = 0) (zB K A (fun u : Nat → Nat => [(a0, zO 10 83 (va_up g0 81 (.int 1)))])) A)) (by decide +kernel) (Nat.le_of_ble_eq_true rfl) ?_
  intro p e s m args below meth c A ls H hx hb hr hg hown hlocks hml hin hK hP hD hA hS hZ hl
  have hown : s.vm.findClass RX12 = some m.cls := hown
  have hl : lv_has ls 4 [(0, .ref a0), (1, .int (nI j0)), (2, .int x1), (3, .int x2)] := hl
  refine lv_aload_n hx hb dX12_rule_0 rfl (lv_at hl 0 rfl) ?_
  refine lv_iload_n hx hb dX12_rule_1 rfl (lv_at hl 1 rfl) ?_
  refine z_calli [] [(a0, zO 10 83 g0)] [] [0] hP hD hS hA rfl rfl (by decide) (by decide) (by decide +kernel) 0 0 rfl rfl (fun hPc hDc hF => z_runS (As := [.int (nI j0)]) (rest := [.ref a0]) ⟨hx, hb, hml, hown, hg⟩ (cX12_isGlobal_2 l K H.size j0 hj0) kS_RX12_197 hd_X12_isGlobal rfl rfl ⟨(Nat.le_of_ble_eq_true rfl), (Nat.le_of_ble_eq_true rfl)⟩ hK hS hZ hPc hDc hF rfl hl.1 rfl (Nat.le_of_ble_eq_true rfl) dX12_rule_2 ⟨(Nat.le_of_ble_eq_true rfl), (Nat.le_of_ble_eq_true rfl)⟩) (fun r3 u1 H locs w2 hP hD hS => ?_)
  subst w2
  have hP : va_P K.1 classes [(a0, zO 10 83 g0)] H := hP
  have hD : va_D A [(a0, zO 10 83 g0)] := hD
  refine lv_if_eq (tgt := 22) hx hb dX12_rule_5 (by decide) (fun c => absurd c (by decide)) (fun _ => ?_)
  refine lv_iload_n hx hb dX12_rule_8 rfl (lv_at hl 2 rfl) ?_
  refine z_calli [] [(a0, zO 10 83 g0)] [] [0] hP hD hS hA rfl rfl (by decide) (by decide) (by decide +kernel) 0 0 rfl rfl (fun hPc hDc hF => z_runS (As := [.int x1]) (rest := [.ref a0]) ⟨hx, hb, hml, hown, hg⟩ (cX12_isGlobal_1 l K H.size x1 e0) kS_RX12_197 hd_X12_isGlobal rfl rfl ⟨(Nat.le_of_ble_eq_true rfl), (Nat.le_of_ble_eq_true rfl)⟩ hK hS hZ hPc hDc hF rfl hl.1 rfl (Nat.le_of_ble_eq_true rfl) dX12_rule_9 ⟨(Nat.le_of_ble_eq_true rfl), (Nat.le_of_ble_eq_true rfl)⟩) (fun r6 u4 H locs w5 hP hD hS => ?_)
  subst w5
  have hP : va_P K.1 classes [(a0, zO 10 83 g0)] H := hP
  have hD : va_D A [(a0, zO 10 83 g0)] := hD
  refine lv_if_eq (tgt := 22) hx hb dX12_rule_12 (by decide) (fun _ => ?_) (fun c => absurd (by decide) c)
  refine lv_iconst (v := 1) hx hb dX12_rule_22 (by decide) ?_
  refine lv_goto (tgt := 40) hx hb dX12_rule_23 (by decide) ?_
  refine z_calli [(a0, zO 10 83 g0)] [] [0] [] hP hD hS hA rfl rfl (by decide) (by decide) (by decide +kernel) 0 0 rfl rfl (fun hPc hDc hF => z_runV (As := [.int 1]) (rest := []) ⟨hx, hb, hml, hown, hg⟩ (cX12_can_2 l K H.size a0 g0) kV_RX12_182 hd_X12_can rfl rfl ⟨(Nat.le_of_ble_eq_true rfl), (Nat.le_of_ble_eq_true rfl)⟩ hK hS hZ hPc hDc hF 0 rfl rfl rfl hl.1 rfl (Nat.le_of_ble_eq_true rfl) dX12_rule_40 ⟨(Nat.le_of_ble_eq_true rfl), (Nat.le_of_ble_eq_true rfl)⟩) (fun r9 u7 H locs w8 hP hD hS => ?_)
  subst w8
  have hP : va_P K.1 classes [(a0, zO 10 83 (va_up g0 81 (.int 1)))] H := hP
  have hD : va_D A [(a0, zO 10 83 (va_up g0 81 (.int 1)))] := hD
  refine lv_if_ne (tgt := 48) hx hb dX12_rule_43 (by decide) (fun c => absurd (by decide) c) (fun _ => ?_)
  refine lv_iconst (v := 0) hx hb dX12_rule_46 (by decide) ?_
  have hP9 : va_P K.1 classes [(a0, zO 10 83 (va_up g0 81 (.int 1)))] H := hP.sub [0] rfl
  have hD9 : va_D A [(a0, zO 10 83 (va_up g0 81 (.int 1)))] := hD.sub [0] (by decide) rfl
  exact z_iret hx hb hr (fun _ => 0) rfl hP9 hD9 hS (Nat.le_of_ble_eq_true rfl) (Nat.le_of_ble_eq_true rfl) hlocks dX12_rule_47
set_option maxHeartbeats 4000000 in
set_option maxRecDepth 100000 in
theorem cX11_rule_3 (l : Launch) (hl9 : l.stackTraces = false) (K : zK) (sz : Nat) (a0 : Nat) (g0 : Nat → Value) (j0 : Nat) (hj0 : j0 < 8) (j1 : Nat) (hj1 : j1 < 8) (x2 : Int32) (e0 : x2 < (0 : Int32)) : vx_Met l yX11_rule (Cond.code yX11_rule cX11_rule 4 (some .int) :: WG) { frames := 7, cells := 1, slots := 6, locals := 104 } (zPre K [(a0, zO 9 9 g0)] sz [.ref a0, .int (nI j0), .int (nI j1), .int x2]) (va_Qv (fun _ : Unit => False) (fun _ _ => True) (va_A [(a0, zO 9 9 g0)] sz)) (zX (va_A [(a0, zO 9 9 g0)] sz) zIA) 1 6 (va_A [(a0, zO 9 9 g0)] sz) := by
  refine z_xmet (Qc := fun A => va_Qv (fun _ : Unit => False) (fun _ _ => True) A) (XC := fun A => zX A zIA) (by decide +kernel) (Nat.le_of_ble_eq_true rfl) ?_
  intro p e s m args below meth c A ls H hx hb hr hg hown hlocks hml hno hK hP hD hA hS hZ hl
  have hown : s.vm.findClass RX11 = some m.cls := hown
  have hl : lv_has ls 4 [(0, .ref a0), (1, .int (nI j0)), (2, .int (nI j1)), (3, .int x2)] := hl
  refine lv_aload_n hx hb dX11_rule_0 rfl (lv_at hl 0 rfl) ?_
  refine lv_iload_n hx hb dX11_rule_1 rfl (lv_at hl 1 rfl) ?_
  refine lv_bipush (v := 8) hx hb dX11_rule_2 (by decide) ?_
  refine z_callv [(a0, zO 9 9 g0)] [] [0] [] hP hD hS hA rfl rfl (by decide) (by decide) (by decide +kernel) 0 0 rfl rfl (fun hPc hDc hF => z_runV (As := [.int (nI j0), .int 8]) (rest := []) ⟨hx, hb, hml, hown, hg⟩ (cX11_checkRange_5 l K H.size a0 g0 j0 hj0) kV_RX11_72 hd_X11_checkRange rfl rfl ⟨(Nat.le_of_ble_eq_true rfl), (Nat.le_of_ble_eq_true rfl)⟩ hK hS hZ hPc hDc hF 0 rfl rfl rfl hl.1 rfl (Nat.le_of_ble_eq_true rfl) dX11_rule_4 ⟨(Nat.le_of_ble_eq_true rfl), (Nat.le_of_ble_eq_true rfl)⟩) (fun u1 H locs w2 hP hD hS => ?_)
  have hP : va_P K.1 classes [(a0, zO 9 9 g0)] H := hP
  have hD : va_D A [(a0, zO 9 9 g0)] := hD
  refine lv_aload_n hx hb dX11_rule_7 rfl (lv_at hl 0 rfl) ?_
  refine lv_iload_n hx hb dX11_rule_8 rfl (lv_at hl 2 rfl) ?_
  refine lv_bipush (v := 8) hx hb dX11_rule_9 (by decide) ?_
  refine z_callv [(a0, zO 9 9 g0)] [] [0] [] hP hD hS hA rfl rfl (by decide) (by decide) (by decide +kernel) 0 0 rfl rfl (fun hPc hDc hF => z_runV (As := [.int (nI j1), .int 8]) (rest := []) ⟨hx, hb, hml, hown, hg⟩ (cX11_checkRange_5 l K H.size a0 g0 j1 hj1) kV_RX11_72 hd_X11_checkRange rfl rfl ⟨(Nat.le_of_ble_eq_true rfl), (Nat.le_of_ble_eq_true rfl)⟩ hK hS hZ hPc hDc hF 0 rfl rfl rfl hl.1 rfl (Nat.le_of_ble_eq_true rfl) dX11_rule_11 ⟨(Nat.le_of_ble_eq_true rfl), (Nat.le_of_ble_eq_true rfl)⟩) (fun u4 H locs w5 hP hD hS => ?_)
  have hP : va_P K.1 classes [(a0, zO 9 9 g0)] H := hP
  have hD : va_D A [(a0, zO 9 9 g0)] := hD
  refine lv_aload_n hx hb dX11_rule_14 rfl (lv_at hl 0 rfl) ?_
  refine lv_iload_n hx hb dX11_rule_15 rfl (lv_at hl 3 rfl) ?_
  refine lv_bipush (v := 8) hx hb dX11_rule_16 (by decide) ?_
  refine z_xcall (EX := zIA) [(a0, zO 9 9 g0)] [0] hP hD hS hA rfl (by decide) 1 6 rfl rfl (fun hPc hDc hF => z_xrunV (As := [.int x2, .int 8]) (rest := []) ⟨hx, hb, hml, hown, hg⟩ (cX11_checkRange_4 l hl9 K H.size a0 g0 x2 e0) kV_RX11_72 hd_X11_checkRange rfl rfl ⟨(Nat.le_of_ble_eq_true rfl), (Nat.le_of_ble_eq_true rfl)⟩ hK hS hZ hPc hDc hF 0 rfl rfl rfl hl.1 rfl (Nat.le_of_ble_eq_true rfl) dX11_rule_18 ⟨(Nat.le_of_ble_eq_true rfl), (Nat.le_of_ble_eq_true rfl)⟩) (fun ce q9 H locs hS hce hcv hcl => ?_)
  exact z_xout hno hlocks hS hce hcv hcl (Nat.le_of_ble_eq_true rfl) (Nat.le_of_ble_eq_true rfl)
set_option maxHeartbeats 4000000 in
set_option maxRecDepth 100000 in
theorem cL_rule_3 (l : Launch) (hl9 : l.stackTraces = false) (K : zK) (sz : Nat) (a0 : Nat) (a1 : Nat) (g0 : Nat → Value) (j0 : Nat) (hj0 : j0 < 8) (j1 : Nat) (hj1 : j1 < 8) (x2 : Int32) (e0 : x2 < (0 : Int32)) : vx_Met l yL_rule (Cond.codeWith yL_rule cL_rule 6 (some .int) [(0, 12, 15, 18), (0, 12, 19, 13)] :: WG) { frames := 8, cells := 1, slots := 6, locals := 127 } (zPre K [(a0, zO 9 9 g0)] sz [.ref a0, .int (nI j0), .int (nI j1), .int x2, .ref a1]) (va_Qi (fun (r : Int32) (_ : Nat → Nat) => r = 1) (zB K (va_A [(a0, zO 9 9 g0)] sz) (fun u : Nat → Nat => [])) (va_A [(a0, zO 9 9 g0)] sz)) (vx_X (fun _ : Unit => False) (fun _ _ _ => True) (va_A [(a0, zO 9 9 g0)] sz)) 1 6 (va_A [(a0, zO 9 9 g0)] sz) := by
  refine z_hmet (Qc := fun A => (va_Qi (fun (r : Int32) (_ : Nat → Nat) => r = 1) (zB K A (fun u : Nat → Nat => [])) A)) (XC := fun A => vx_X (fun _ : Unit => False) (fun _ _ _ => True) A) (by decide +kernel) (Nat.le_of_ble_eq_true rfl) ?_
  intro p e s m args below meth c A ls H hx hb hr hg hown hlocks hml hTab hK hP hD hA hS hZ hl
  have hown : s.vm.findClass RL = some m.cls := hown
  have hl : lv_has ls 6 [(0, .ref a0), (1, .int (nI j0)), (2, .int (nI j1)), (3, .int x2), (4, .ref a1)] := hl
  refine lv_aload hx hb dL_rule_0 (lv_at hl 4 rfl) ?_
  refine lv_iconst (v := 0) hx hb dL_rule_2 (by decide) ?_
  refine lv_aload_n hx hb dL_rule_3 rfl (lv_at hl 0 rfl) ?_
  refine lv_iload_n hx hb dL_rule_4 rfl (lv_at hl 1 rfl) ?_
  refine lv_iload_n hx hb dL_rule_5 rfl (lv_at hl 2 rfl) ?_
  refine lv_iload_n hx hb dL_rule_6 rfl (lv_at hl 3 rfl) ?_
  refine z_xcall (EX := zIA) [(a0, zO 9 9 g0)] [0] hP hD hS hA rfl (by decide) 1 6 rfl rfl (fun hPc hDc hF => z_xrunV (As := [.int (nI j0), .int (nI j1), .int x2]) (rest := [.int 0, .ref a1]) ⟨hx, hb, hml, hown, hg⟩ (cX11_rule_3 l hl9 K H.size a0 g0 j0 hj0 j1 hj1 x2 e0) kV_RL_67 hd_X11_rule rfl rfl ⟨(Nat.le_of_ble_eq_true rfl), (Nat.le_of_ble_eq_true rfl)⟩ hK hS hZ hPc hDc hF 0 rfl rfl rfl hl.1 rfl (Nat.le_of_ble_eq_true rfl) dL_rule_7 ⟨(Nat.le_of_ble_eq_true rfl), (Nat.le_of_ble_eq_true rfl)⟩) (fun ce q9 H locs hS hce hcv hcl => ?_)
  refine vx_catch (own := RL) (name := zIA) (E := zIA) hown [] ⟨0, 12, 15, 18⟩ [⟨0, 12, 19, 13⟩] (by rw [hTab]; rfl) (fun z hz => nomatch hz) (by decide) (by decide) (hg _ mt491) (va_Nw.use rfl hZ.1.1.2.1) hce hcv hcl ?_
  have hP : va_P K.1 classes [] H := z_P0
  have hD : va_D A [] := z_D0
  refine lv_astore (lv' := [(5, .ref q9), (0, .ref a0), (1, .int (nI j0)), (2, .int (nI j1)), (3, .int x2), (4, .ref a1)]) hx hb dL_rule_15 hl (by decide) rfl (fun ls hl => ?_)
  refine lv_iconst (v := 1) hx hb dL_rule_17 (by decide) ?_
  have hP9 : va_P K.1 classes [] H := hP.sub [] rfl
  have hD9 : va_D A [] := hD.sub [] (by decide) rfl
  exact z_iret hx hb hr (fun _ => 0) rfl hP9 hD9 hS (Nat.le_of_ble_eq_true rfl) (Nat.le_of_ble_eq_true rfl) hlocks dL_rule_18
set_option maxHeartbeats 4000000 in
set_option maxRecDepth 100000 in
theorem cX12_rule_3 (l : Launch) (K : zK) (sz : Nat) (a0 : Nat) (g0 : Nat → Value) (j0 : Nat) (hj0 : j0 < 8) (j1 : Nat) (hj1 : j1 < 8) (x2 : Int32) (e0 : x2 < (0 : Int32)) : Met l yX12_rule (Cond.code yX12_rule cX12_rule 4 (some .int) :: WG) { frames := 2, cells := 0, slots := 0, locals := 42 } (zPre K [(a0, zO 10 83 g0)] sz [.ref a0, .int (nI j0), .int (nI j1), .int x2]) (va_Qi (fun (r : Int32) (_ : Nat → Nat) => r = 0) (zB K (va_A [(a0, zO 10 83 g0)] sz) (fun u : Nat → Nat => [(a0, zO 10 83 (va_up g0 81 (.int 1)))])) (va_A [(a0, zO 10 83 g0)] sz)) 0 0 (va_A [(a0, zO 10 83 g0)] sz) := by
  refine z_met (Qc := fun A => (va_Qi (fun (r : Int32) (_ : Nat → Nat) => r = 0) (zB K A (fun u : Nat → Nat => [(a0, zO 10 83 (va_up g0 81 (.int 1)))])) A)) (by decide +kernel) (Nat.le_of_ble_eq_true rfl) ?_
  intro p e s m args below meth c A ls H hx hb hr hg hown hlocks hml hin hK hP hD hA hS hZ hl
  have hown : s.vm.findClass RX12 = some m.cls := hown
  have hl : lv_has ls 4 [(0, .ref a0), (1, .int (nI j0)), (2, .int (nI j1)), (3, .int x2)] := hl
  refine lv_aload_n hx hb dX12_rule_0 rfl (lv_at hl 0 rfl) ?_
  refine lv_iload_n hx hb dX12_rule_1 rfl (lv_at hl 1 rfl) ?_
  refine z_calli [] [(a0, zO 10 83 g0)] [] [0] hP hD hS hA rfl rfl (by decide) (by decide) (by decide +kernel) 0 0 rfl rfl (fun hPc hDc hF => z_runS (As := [.int (nI j0)]) (rest := [.ref a0]) ⟨hx, hb, hml, hown, hg⟩ (cX12_isGlobal_2 l K H.size j0 hj0) kS_RX12_197 hd_X12_isGlobal rfl rfl ⟨(Nat.le_of_ble_eq_true rfl), (Nat.le_of_ble_eq_true rfl)⟩ hK hS hZ hPc hDc hF rfl hl.1 rfl (Nat.le_of_ble_eq_true rfl) dX12_rule_2 ⟨(Nat.le_of_ble_eq_true rfl), (Nat.le_of_ble_eq_true rfl)⟩) (fun r3 u1 H locs w2 hP hD hS => ?_)
  subst w2
  have hP : va_P K.1 classes [(a0, zO 10 83 g0)] H := hP
  have hD : va_D A [(a0, zO 10 83 g0)] := hD
  refine lv_if_eq (tgt := 22) hx hb dX12_rule_5 (by decide) (fun c => absurd c (by decide)) (fun _ => ?_)
  refine lv_iload_n hx hb dX12_rule_8 rfl (lv_at hl 2 rfl) ?_
  refine z_calli [] [(a0, zO 10 83 g0)] [] [0] hP hD hS hA rfl rfl (by decide) (by decide) (by decide +kernel) 0 0 rfl rfl (fun hPc hDc hF => z_runS (As := [.int (nI j1)]) (rest := [.ref a0]) ⟨hx, hb, hml, hown, hg⟩ (cX12_isGlobal_2 l K H.size j1 hj1) kS_RX12_197 hd_X12_isGlobal rfl rfl ⟨(Nat.le_of_ble_eq_true rfl), (Nat.le_of_ble_eq_true rfl)⟩ hK hS hZ hPc hDc hF rfl hl.1 rfl (Nat.le_of_ble_eq_true rfl) dX12_rule_9 ⟨(Nat.le_of_ble_eq_true rfl), (Nat.le_of_ble_eq_true rfl)⟩) (fun r6 u4 H locs w5 hP hD hS => ?_)
  subst w5
  have hP : va_P K.1 classes [(a0, zO 10 83 g0)] H := hP
  have hD : va_D A [(a0, zO 10 83 g0)] := hD
  refine lv_if_eq (tgt := 22) hx hb dX12_rule_12 (by decide) (fun c => absurd c (by decide)) (fun _ => ?_)
  refine lv_iload_n hx hb dX12_rule_15 rfl (lv_at hl 3 rfl) ?_
  refine z_calli [] [(a0, zO 10 83 g0)] [] [0] hP hD hS hA rfl rfl (by decide) (by decide) (by decide +kernel) 0 0 rfl rfl (fun hPc hDc hF => z_runS (As := [.int x2]) (rest := [.ref a0]) ⟨hx, hb, hml, hown, hg⟩ (cX12_isGlobal_1 l K H.size x2 e0) kS_RX12_197 hd_X12_isGlobal rfl rfl ⟨(Nat.le_of_ble_eq_true rfl), (Nat.le_of_ble_eq_true rfl)⟩ hK hS hZ hPc hDc hF rfl hl.1 rfl (Nat.le_of_ble_eq_true rfl) dX12_rule_16 ⟨(Nat.le_of_ble_eq_true rfl), (Nat.le_of_ble_eq_true rfl)⟩) (fun r9 u7 H locs w8 hP hD hS => ?_)
  subst w8
  have hP : va_P K.1 classes [(a0, zO 10 83 g0)] H := hP
  have hD : va_D A [(a0, zO 10 83 g0)] := hD
  refine lv_if_ne (tgt := 26) hx hb dX12_rule_19 (by decide) (fun c => absurd (by decide) c) (fun _ => ?_)
  refine lv_iconst (v := 1) hx hb dX12_rule_22 (by decide) ?_
  refine lv_goto (tgt := 40) hx hb dX12_rule_23 (by decide) ?_
  refine z_calli [(a0, zO 10 83 g0)] [] [0] [] hP hD hS hA rfl rfl (by decide) (by decide) (by decide +kernel) 0 0 rfl rfl (fun hPc hDc hF => z_runV (As := [.int 1]) (rest := []) ⟨hx, hb, hml, hown, hg⟩ (cX12_can_2 l K H.size a0 g0) kV_RX12_182 hd_X12_can rfl rfl ⟨(Nat.le_of_ble_eq_true rfl), (Nat.le_of_ble_eq_true rfl)⟩ hK hS hZ hPc hDc hF 0 rfl rfl rfl hl.1 rfl (Nat.le_of_ble_eq_true rfl) dX12_rule_40 ⟨(Nat.le_of_ble_eq_true rfl), (Nat.le_of_ble_eq_true rfl)⟩) (fun r12 u10 H locs w11 hP hD hS => ?_)
  subst w11
  have hP : va_P K.1 classes [(a0, zO 10 83 (va_up g0 81 (.int 1)))] H := hP
  have hD : va_D A [(a0, zO 10 83 (va_up g0 81 (.int 1)))] := hD
  refine lv_if_ne (tgt := 48) hx hb dX12_rule_43 (by decide) (fun c => absurd (by decide) c) (fun _ => ?_)
  refine lv_iconst (v := 0) hx hb dX12_rule_46 (by decide) ?_
  have hP9 : va_P K.1 classes [(a0, zO 10 83 (va_up g0 81 (.int 1)))] H := hP.sub [0] rfl
  have hD9 : va_D A [(a0, zO 10 83 (va_up g0 81 (.int 1)))] := hD.sub [0] (by decide) rfl
  exact z_iret hx hb hr (fun _ => 0) rfl hP9 hD9 hS (Nat.le_of_ble_eq_true rfl) (Nat.le_of_ble_eq_true rfl) hlocks dX12_rule_47
set_option maxHeartbeats 4000000 in
set_option maxRecDepth 100000 in
theorem cX6_hasAllRules_1 (l : Launch) (K : zK) (sz : Nat) (a0 : Nat) (g0 : Nat → Value) (e0 : g0 8 = (.int 0)) : Met l yX6_hasAllRules (Cond.code yX6_hasAllRules cX6_hasAllRules 1 (some .boolean) :: WG) { frames := 0, cells := 0, slots := 0, locals := 0 } (zPre K [(a0, zO 5 9 g0)] sz [.ref a0]) (va_Qi (fun (r : Int32) (_ : Nat → Nat) => r = 0) (zB K (va_A [(a0, zO 5 9 g0)] sz) (fun u : Nat → Nat => [(a0, zO 5 9 g0)])) (va_A [(a0, zO 5 9 g0)] sz)) 0 0 (va_A [(a0, zO 5 9 g0)] sz) := by
  refine z_met (Qc := fun A => (va_Qi (fun (r : Int32) (_ : Nat → Nat) => r = 0) (zB K A (fun u : Nat → Nat => [(a0, zO 5 9 g0)])) A)) (by decide +kernel) (Nat.le_of_ble_eq_true rfl) ?_
  intro p e s m args below meth c A ls H hx hb hr hg hown hlocks hml hin hK hP hD hA hS hZ hl
  have hown : s.vm.findClass RX6 = some m.cls := hown
  have hl : lv_has ls 1 [(0, .ref a0)] := hl
  refine lv_aload_n hx hb dX6_hasAllRules_0 rfl (lv_at hl 0 rfl) ?_
  refine z_get (v := .int 0) hx hb hg hown hK hP i_X6 rfl 0 rfl 8 (by decide) mt168 e0 dX6_hasAllRules_1 ?_
  refine lv_bipush (v := 8) hx hb dX6_hasAllRules_4 (by decide) ?_
  refine lv_icmp_lt (tgt := 13) hx hb dX6_hasAllRules_6 (by decide) (fun _ => ?_) (fun c => absurd (by decide) c)
  refine lv_iconst (v := 0) hx hb dX6_hasAllRules_13 (by decide) ?_
  have hP9 : va_P K.1 classes [(a0, zO 5 9 g0)] H := hP.sub [0] rfl
  have hD9 : va_D A [(a0, zO 5 9 g0)] := hD.sub [0] (by decide) rfl
  exact z_zret hx hb hr rfl (fun _ => 0) rfl hP9 hD9 hS (Nat.le_of_ble_eq_true rfl) (Nat.le_of_ble_eq_true rfl) hlocks dX6_hasAllRules_14
