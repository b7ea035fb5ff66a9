/-! calls of the law's cases [0, 1, 2, 3, 4, 5, 6, 7, 8, 9, 10, 11, 12, 13, 14, 15, 16, 18] (printed by wip/p1/walk.py) -/
set_option maxHeartbeats 4000000 in
set_option maxRecDepth 100000 in
theorem cX9_reserve_2 (l : Launch) (K : zK) (sz : Nat) (a0 : Nat) (a1 : Nat) (g0 : Nat → Value) (f1 : Nat → Int32) (e0 : g0 0 = (.ref a1)) (e1 : g0 5 = (.int 0)) : Met l yX9_reserve (Cond.code yX9_reserve cX9_reserve 3 (some .int) :: WG) { frames := 0, cells := 0, slots := 0, locals := 0 } (zPre K [(a0, zO 7 6 g0), (a1, zI K 200 f1)] sz [.ref a0, .int 1]) (va_Qi (fun (r : Int32) (_ : Nat → Nat) => r = 0) (zB K (va_A [(a0, zO 7 6 g0), (a1, zI K 200 f1)] sz) (fun u : Nat → Nat => [(a0, zO 7 6 (va_up g0 5 (.int 1))), (a1, zI K 200 f1)])) (va_A [(a0, zO 7 6 g0), (a1, zI K 200 f1)] sz)) 0 0 (va_A [(a0, zO 7 6 g0), (a1, zI K 200 f1)] sz) := by
  refine z_met (Qc := fun A => (va_Qi (fun (r : Int32) (_ : Nat → Nat) => r = 0) (zB K A (fun u : Nat → Nat => [(a0, zO 7 6 (va_up g0 5 (.int 1))), (a1, zI K 200 f1)])) A)) (by decide +kernel) (Nat.le_of_ble_eq_true rfl) ?_
  intro p e s m args below meth c A ls H hx hb hr hg hown hlocks hml hin hK hP hD hA hS hZ hl
  have hown : s.vm.findClass RX9 = some m.cls := hown
  have hl : lv_has ls 3 [(0, .ref a0), (1, .int 1)] := hl
  refine lv_iload_n hx hb dX9_reserve_0 rfl (lv_at hl 1 rfl) ?_
  refine lv_if_lt (tgt := 18) hx hb dX9_reserve_1 (by decide) (fun c => absurd c (by decide)) (fun _ => ?_)
  refine lv_iload_n hx hb dX9_reserve_4 rfl (lv_at hl 1 rfl) ?_
  refine lv_aload_n hx hb dX9_reserve_5 rfl (lv_at hl 0 rfl) ?_
  refine z_get (v := .ref a1) hx hb hg hown hK hP i_X9 rfl 0 rfl 0 (by decide) mt37 e0 dX9_reserve_6 ?_
  refine z_leni (v := 200) hx hb hK hP 1 rfl (by decide +kernel) dX9_reserve_9 ?_
  refine lv_aload_n hx hb dX9_reserve_10 rfl (lv_at hl 0 rfl) ?_
  refine z_get (v := .int 0) hx hb hg hown hK hP i_X9 rfl 0 rfl 5 (by decide) mt42 e1 dX9_reserve_11 ?_
  refine lv_isub hx hb dX9_reserve_14 ?_
  refine z_cst (v := 200) (by decide +kernel) ?_
  refine lv_icmp_le (tgt := 20) hx hb dX9_reserve_15 (by decide) (fun _ => ?_) (fun c => absurd (by decide) c)
  refine lv_aload_n hx hb dX9_reserve_20 rfl (lv_at hl 0 rfl) ?_
  refine z_get (v := .int 0) hx hb hg hown hK hP i_X9 rfl 0 rfl 5 (by decide) mt42 e1 dX9_reserve_21 ?_
  refine lv_istore_n (lv' := [(2, .int 0), (0, .ref a0), (1, .int 1)]) hx hb dX9_reserve_24 rfl hl (by decide) rfl (fun ls hl => ?_)
  refine lv_aload_n hx hb dX9_reserve_25 rfl (lv_at hl 1 rfl) ?_
  refine lv_dup hx hb dX9_reserve_26 rfl ?_
  refine z_get (v := .int 0) hx hb hg hown hK hP i_X9 rfl 0 rfl 5 (by decide) mt42 e1 dX9_reserve_27 ?_
  refine lv_iload_n hx hb dX9_reserve_30 rfl (lv_at hl 2 rfl) ?_
  refine lv_iadd hx hb dX9_reserve_31 ?_
  refine z_cst (v := 1) (by decide +kernel) ?_
  refine z_put hx hb hg hown hK hP hD hS i_X9 rfl tyX9_ok nmX9 0 rfl 5 (by decide) mt42 rfl rfl rfl dX9_reserve_32 (fun gg1 H locs y2 hP hD hS => ?_)
  have hP : va_P K.1 classes [(a0, zO 7 6 gg1), (a1, zI K 200 f1)] H := hP
  have hD : va_D A [(a0, zO 7 6 gg1), (a1, zI K 200 f1)] := hD
  refine lv_iload_n hx hb dX9_reserve_35 rfl (lv_at hl 0 rfl) ?_
  subst y2
  have hP9 : va_P K.1 classes [(a0, zO 7 6 (va_up g0 5 (.int 1))), (a1, zI K 200 f1)] H := hP.sub [0, 1] rfl
  have hD9 : va_D A [(a0, zO 7 6 (va_up g0 5 (.int 1))), (a1, zI K 200 f1)] := hD.sub [0, 1] (by decide) rfl
  exact z_iret hx hb hr (fun _ => 0) rfl hP9 hD9 hS (Nat.le_of_ble_eq_true rfl) (Nat.le_of_ble_eq_true rfl) hlocks dX9_reserve_36
set_option maxHeartbeats 4000000 in
set_option maxRecDepth 100000 in
theorem cX9_has_1 (l : Launch) (K : zK) (sz : Nat) (a0 : Nat) (g0 : Nat → Value) (e0 : g0 5 = (.int 1)) : Met l yX9_has (Cond.code yX9_has cX9_has 2 (some .boolean) :: WG) { frames := 0, cells := 0, slots := 0, locals := 0 } (zPre K [(a0, zO 7 6 g0)] sz [.ref a0, .int 0]) (va_Qi (fun (r : Int32) (_ : Nat → Nat) => r = 1) (zB K (va_A [(a0, zO 7 6 g0)] sz) (fun u : Nat → Nat => [(a0, zO 7 6 g0)])) (va_A [(a0, zO 7 6 g0)] sz)) 0 0 (va_A [(a0, zO 7 6 g0)] sz) := by
  refine z_met (Qc := fun A => (va_Qi (fun (r : Int32) (_ : Nat → Nat) => r = 1) (zB K A (fun u : Nat → Nat => [(a0, zO 7 6 g0)])) A)) (by decide +kernel) (Nat.le_of_ble_eq_true rfl) ?_
  intro p e s m args below meth c A ls H hx hb hr hg hown hlocks hml hin hK hP hD hA hS hZ hl
  have hown : s.vm.findClass RX9 = some m.cls := hown
  have hl : lv_has ls 2 [(0, .ref a0), (1, .int 0)] := hl
  refine lv_iload_n hx hb dX9_has_0 rfl (lv_at hl 1 rfl) ?_
  refine lv_if_lt (tgt := 16) hx hb dX9_has_1 (by decide) (fun c => absurd c (by decide)) (fun _ => ?_)
  refine lv_iload_n hx hb dX9_has_4 rfl (lv_at hl 1 rfl) ?_
  refine lv_aload_n hx hb dX9_has_5 rfl (lv_at hl 0 rfl) ?_
  refine z_get (v := .int 1) hx hb hg hown hK hP i_X9 rfl 0 rfl 5 (by decide) mt42 e0 dX9_has_6 ?_
  refine lv_icmp_ge (tgt := 16) hx hb dX9_has_9 (by decide) (fun c => absurd c (by decide)) (fun _ => ?_)
  refine lv_iconst (v := 1) hx hb dX9_has_12 (by decide) ?_
  refine lv_goto (tgt := 17) hx hb dX9_has_13 (by decide) ?_
  have hP9 : va_P K.1 classes [(a0, zO 7 6 g0)] H := hP.sub [0] rfl
  have hD9 : va_D A [(a0, zO 7 6 g0)] := hD.sub [0] (by decide) rfl
  exact z_zret hx hb hr rfl (fun _ => 0) rfl hP9 hD9 hS (Nat.le_of_ble_eq_true rfl) (Nat.le_of_ble_eq_true rfl) hlocks dX9_has_17
set_option maxHeartbeats 4000000 in
set_option maxRecDepth 100000 in
theorem cX9_set_1 (l : Launch) (K : zK) (sz : Nat) (a0 : Nat) (a1 : Nat) (a2 : Nat) (a3 : Nat) (a4 : Nat) (a5 : Nat) (g0 : Nat → Value) (f1 : Nat → Int32) (f2 : Nat → Int32) (f3 : Nat → Int32) (f4 : Nat → Int32) (f5 : Nat → Int32) (x0 : Int32) (e0 : g0 5 = (.int 1)) (e1 : g0 0 = (.ref a1)) (e2 : g0 1 = (.ref a2)) (e3 : g0 2 = (.ref a3)) (e4 : g0 3 = (.ref a4)) (e5 : g0 4 = (.ref a5)) : Met l yX9_set (Cond.code yX9_set cX9_set 6 none :: WG) { frames := 1, cells := 0, slots := 0, locals := 21 } (zPre K [(a0, zO 7 6 g0), (a1, zI K 200 f1), (a2, zI K 200 f2), (a3, zI K 200 f3), (a4, zI K 200 f4), (a5, zI K 600 f5)] sz [.ref a0, .int 0, .int 0, .int x0, .int 0, .int 0]) (va_Qv (fun _ : Nat → Nat => True) (zB K (va_A [(a0, zO 7 6 g0), (a1, zI K 200 f1), (a2, zI K 200 f2), (a3, zI K 200 f3), (a4, zI K 200 f4), (a5, zI K 600 f5)] sz) (fun u : Nat → Nat => [(a0, zO 7 6 g0), (a1, zI K 200 (va_up f1 0 0)), (a2, zI K 200 (va_up f2 0 x0)), (a3, zI K 200 (va_up f3 0 0)), (a4, zI K 200 (va_up f4 0 0)), (a5, zI K 600 (va_up (va_up (va_up f5 0 (-1)) 1 (-1)) 2 (-1)))])) (va_A [(a0, zO 7 6 g0), (a1, zI K 200 f1), (a2, zI K 200 f2), (a3, zI K 200 f3), (a4, zI K 200 f4), (a5, zI K 600 f5)] sz)) 0 0 (va_A [(a0, zO 7 6 g0), (a1, zI K 200 f1), (a2, zI K 200 f2), (a3, zI K 200 f3), (a4, zI K 200 f4), (a5, zI K 600 f5)] sz) := by
  refine z_met (Qc := fun A => (va_Qv (fun _ : Nat → Nat => True) (zB K A (fun u : Nat → Nat => [(a0, zO 7 6 g0), (a1, zI K 200 (va_up f1 0 0)), (a2, zI K 200 (va_up f2 0 x0)), (a3, zI K 200 (va_up f3 0 0)), (a4, zI K 200 (va_up f4 0 0)), (a5, zI K 600 (va_up (va_up (va_up f5 0 (-1)) 1 (-1)) 2 (-1)))])) A)) (by decide +kernel) (Nat.le_of_ble_eq_true rfl) ?_
  intro p e s m args below meth c A ls H hx hb hr hg hown hlocks hml hin hK hP hD hA hS hZ hl
  have hown : s.vm.findClass RX9 = some m.cls := hown
  have hl : lv_has ls 6 [(0, .ref a0), (1, .int 0), (2, .int 0), (3, .int x0), (4, .int 0), (5, .int 0)] := hl
  refine lv_aload_n hx hb dX9_set_0 rfl (lv_at hl 0 rfl) ?_
  refine lv_iload_n hx hb dX9_set_1 rfl (lv_at hl 1 rfl) ?_
  refine z_calli [(a0, zO 7 6 g0)] [(a1, zI K 200 f1), (a2, zI K 200 f2), (a3, zI K 200 f3), (a4, zI K 200 f4), (a5, zI K 600 f5)] [0] [1, 2, 3, 4, 5] hP hD hS hA rfl rfl (by decide) (by decide) (by decide +kernel) 0 0 rfl rfl (fun hPc hDc hF => z_runV (As := [.int 0]) (rest := []) ⟨hx, hb, hml, hown, hg⟩ (cX9_has_1 l K H.size a0 g0 e0) kV_RX9_31 hd_X9_has rfl rfl ⟨(Nat.le_of_ble_eq_true rfl), (Nat.le_of_ble_eq_true rfl)⟩ hK hS hZ hPc hDc hF 0 rfl rfl rfl hl.1 rfl (Nat.le_of_ble_eq_true rfl) dX9_set_2 ⟨(Nat.le_of_ble_eq_true rfl), (Nat.le_of_ble_eq_true rfl)⟩) (fun r3 u1 H locs w2 hP hD hS => ?_)
  subst w2
  have hP : va_P K.1 classes [(a1, zI K 200 f1), (a2, zI K 200 f2), (a3, zI K 200 f3), (a4, zI K 200 f4), (a5, zI K 600 f5), (a0, zO 7 6 g0)] H := hP
  have hD : va_D A [(a1, zI K 200 f1), (a2, zI K 200 f2), (a3, zI K 200 f3), (a4, zI K 200 f4), (a5, zI K 600 f5), (a0, zO 7 6 g0)] := hD
  refine lv_if_eq (tgt := 69) hx hb dX9_set_5 (by decide) (fun c => absurd c (by decide)) (fun _ => ?_)
  refine lv_aload_n hx hb dX9_set_8 rfl (lv_at hl 0 rfl) ?_
  refine z_get (v := .ref a1) hx hb hg hown hK hP i_X9 rfl 5 rfl 0 (by decide) mt37 e1 dX9_set_9 ?_
  refine lv_iload_n hx hb dX9_set_12 rfl (lv_at hl 1 rfl) ?_
  refine lv_iload_n hx hb dX9_set_13 rfl (lv_at hl 2 rfl) ?_
  refine z_iast (j := 0) hx hb hK hP hD hS 0 rfl rfl (Nat.le_of_ble_eq_true rfl) (Nat.le_of_ble_eq_true rfl) dX9_set_14 (fun ff4 H locs y5 hP hD hS => ?_)
  have hP : va_P K.1 classes [(a1, zI K 200 ff4), (a2, zI K 200 f2), (a3, zI K 200 f3), (a4, zI K 200 f4), (a5, zI K 600 f5), (a0, zO 7 6 g0)] H := hP
  have hD : va_D A [(a1, zI K 200 ff4), (a2, zI K 200 f2), (a3, zI K 200 f3), (a4, zI K 200 f4), (a5, zI K 600 f5), (a0, zO 7 6 g0)] := hD
  refine lv_aload_n hx hb dX9_set_15 rfl (lv_at hl 0 rfl) ?_
  refine z_get (v := .ref a2) hx hb hg hown hK hP i_X9 rfl 5 rfl 1 (by decide) mt38 e2 dX9_set_16 ?_
  refine lv_iload_n hx hb dX9_set_19 rfl (lv_at hl 1 rfl) ?_
  refine lv_iload_n hx hb dX9_set_20 rfl (lv_at hl 3 rfl) ?_
  refine z_iast (j := 0) hx hb hK hP hD hS 1 rfl rfl (Nat.le_of_ble_eq_true rfl) (Nat.le_of_ble_eq_true rfl) dX9_set_21 (fun ff6 H locs y7 hP hD hS => ?_)
  have hP : va_P K.1 classes [(a1, zI K 200 ff4), (a2, zI K 200 ff6), (a3, zI K 200 f3), (a4, zI K 200 f4), (a5, zI K 600 f5), (a0, zO 7 6 g0)] H := hP
  have hD : va_D A [(a1, zI K 200 ff4), (a2, zI K 200 ff6), (a3, zI K 200 f3), (a4, zI K 200 f4), (a5, zI K 600 f5), (a0, zO 7 6 g0)] := hD
  refine lv_aload_n hx hb dX9_set_22 rfl (lv_at hl 0 rfl) ?_
  refine z_get (v := .ref a3) hx hb hg hown hK hP i_X9 rfl 5 rfl 2 (by decide) mt39 e3 dX9_set_23 ?_
  refine lv_iload_n hx hb dX9_set_26 rfl (lv_at hl 1 rfl) ?_
  refine lv_iload hx hb dX9_set_27 (lv_at hl 4 rfl) ?_
  refine z_iast (j := 0) hx hb hK hP hD hS 2 rfl rfl (Nat.le_of_ble_eq_true rfl) (Nat.le_of_ble_eq_true rfl) dX9_set_29 (fun ff8 H locs y9 hP hD hS => ?_)
  have hP : va_P K.1 classes [(a1, zI K 200 ff4), (a2, zI K 200 ff6), (a3, zI K 200 ff8), (a4, zI K 200 f4), (a5, zI K 600 f5), (a0, zO 7 6 g0)] H := hP
  have hD : va_D A [(a1, zI K 200 ff4), (a2, zI K 200 ff6), (a3, zI K 200 ff8), (a4, zI K 200 f4), (a5, zI K 600 f5), (a0, zO 7 6 g0)] := hD
  refine lv_aload_n hx hb dX9_set_30 rfl (lv_at hl 0 rfl) ?_
  refine z_get (v := .ref a4) hx hb hg hown hK hP i_X9 rfl 5 rfl 3 (by decide) mt40 e4 dX9_set_31 ?_
  refine lv_iload_n hx hb dX9_set_34 rfl (lv_at hl 1 rfl) ?_
  refine lv_iload hx hb dX9_set_35 (lv_at hl 5 rfl) ?_
  refine z_iast (j := 0) hx hb hK hP hD hS 3 rfl rfl (Nat.le_of_ble_eq_true rfl) (Nat.le_of_ble_eq_true rfl) dX9_set_37 (fun ff10 H locs y11 hP hD hS => ?_)
  have hP : va_P K.1 classes [(a1, zI K 200 ff4), (a2, zI K 200 ff6), (a3, zI K 200 ff8), (a4, zI K 200 ff10), (a5, zI K 600 f5), (a0, zO 7 6 g0)] H := hP
  have hD : va_D A [(a1, zI K 200 ff4), (a2, zI K 200 ff6), (a3, zI K 200 ff8), (a4, zI K 200 ff10), (a5, zI K 600 f5), (a0, zO 7 6 g0)] := hD
  refine lv_aload_n hx hb dX9_set_38 rfl (lv_at hl 0 rfl) ?_
  refine z_get (v := .ref a5) hx hb hg hown hK hP i_X9 rfl 5 rfl 4 (by decide) mt41 e5 dX9_set_39 ?_
  refine lv_iconst (v := 3) hx hb dX9_set_42 (by decide) ?_
  refine lv_iload_n hx hb dX9_set_43 rfl (lv_at hl 1 rfl) ?_
  refine lv_imul hx hb dX9_set_44 ?_
  refine z_cst (v := 0) (by decide +kernel) ?_
  refine lv_iconst (v := (-1)) hx hb dX9_set_45 (by decide) ?_
  refine z_iast (j := 0) hx hb hK hP hD hS 4 rfl rfl (Nat.le_of_ble_eq_true rfl) (Nat.le_of_ble_eq_true rfl) dX9_set_46 (fun ff12 H locs y13 hP hD hS => ?_)
  have hP : va_P K.1 classes [(a1, zI K 200 ff4), (a2, zI K 200 ff6), (a3, zI K 200 ff8), (a4, zI K 200 ff10), (a5, zI K 600 ff12), (a0, zO 7 6 g0)] H := hP
  have hD : va_D A [(a1, zI K 200 ff4), (a2, zI K 200 ff6), (a3, zI K 200 ff8), (a4, zI K 200 ff10), (a5, zI K 600 ff12), (a0, zO 7 6 g0)] := hD
  refine lv_aload_n hx hb dX9_set_47 rfl (lv_at hl 0 rfl) ?_
  refine z_get (v := .ref a5) hx hb hg hown hK hP i_X9 rfl 5 rfl 4 (by decide) mt41 e5 dX9_set_48 ?_
  refine lv_iconst (v := 3) hx hb dX9_set_51 (by decide) ?_
  refine lv_iload_n hx hb dX9_set_52 rfl (lv_at hl 1 rfl) ?_
  refine lv_imul hx hb dX9_set_53 ?_
  refine z_cst (v := 0) (by decide +kernel) ?_
  refine lv_iconst (v := 1) hx hb dX9_set_54 (by decide) ?_
  refine lv_iadd hx hb dX9_set_55 ?_
  refine z_cst (v := 1) (by decide +kernel) ?_
  refine lv_iconst (v := (-1)) hx hb dX9_set_56 (by decide) ?_
  refine z_iast (j := 1) hx hb hK hP hD hS 4 rfl rfl (Nat.le_of_ble_eq_true rfl) (Nat.le_of_ble_eq_true rfl) dX9_set_57 (fun ff14 H locs y15 hP hD hS => ?_)
  have hP : va_P K.1 classes [(a1, zI K 200 ff4), (a2, zI K 200 ff6), (a3, zI K 200 ff8), (a4, zI K 200 ff10), (a5, zI K 600 ff14), (a0, zO 7 6 g0)] H := hP
  have hD : va_D A [(a1, zI K 200 ff4), (a2, zI K 200 ff6), (a3, zI K 200 ff8), (a4, zI K 200 ff10), (a5, zI K 600 ff14), (a0, zO 7 6 g0)] := hD
  refine lv_aload_n hx hb dX9_set_58 rfl (lv_at hl 0 rfl) ?_
  refine z_get (v := .ref a5) hx hb hg hown hK hP i_X9 rfl 5 rfl 4 (by decide) mt41 e5 dX9_set_59 ?_
  refine lv_iconst (v := 3) hx hb dX9_set_62 (by decide) ?_
  refine lv_iload_n hx hb dX9_set_63 rfl (lv_at hl 1 rfl) ?_
  refine lv_imul hx hb dX9_set_64 ?_
  refine z_cst (v := 0) (by decide +kernel) ?_
  refine lv_iconst (v := 2) hx hb dX9_set_65 (by decide) ?_
  refine lv_iadd hx hb dX9_set_66 ?_
  refine z_cst (v := 2) (by decide +kernel) ?_
  refine lv_iconst (v := (-1)) hx hb dX9_set_67 (by decide) ?_
  refine z_iast (j := 2) hx hb hK hP hD hS 4 rfl rfl (Nat.le_of_ble_eq_true rfl) (Nat.le_of_ble_eq_true rfl) dX9_set_68 (fun ff16 H locs y17 hP hD hS => ?_)
  have hP : va_P K.1 classes [(a1, zI K 200 ff4), (a2, zI K 200 ff6), (a3, zI K 200 ff8), (a4, zI K 200 ff10), (a5, zI K 600 ff16), (a0, zO 7 6 g0)] H := hP
  have hD : va_D A [(a1, zI K 200 ff4), (a2, zI K 200 ff6), (a3, zI K 200 ff8), (a4, zI K 200 ff10), (a5, zI K 600 ff16), (a0, zO 7 6 g0)] := hD
  subst y17
  subst y15
  subst y13
  subst y11
  subst y9
  subst y7
  subst y5
  have hP9 : va_P K.1 classes [(a0, zO 7 6 g0), (a1, zI K 200 (va_up f1 0 0)), (a2, zI K 200 (va_up f2 0 x0)), (a3, zI K 200 (va_up f3 0 0)), (a4, zI K 200 (va_up f4 0 0)), (a5, zI K 600 (va_up (va_up (va_up f5 0 (-1)) 1 (-1)) 2 (-1)))] H := hP.sub [5, 0, 1, 2, 3, 4] rfl
  have hD9 : va_D A [(a0, zO 7 6 g0), (a1, zI K 200 (va_up f1 0 0)), (a2, zI K 200 (va_up f2 0 x0)), (a3, zI K 200 (va_up f3 0 0)), (a4, zI K 200 (va_up f4 0 0)), (a5, zI K 600 (va_up (va_up (va_up f5 0 (-1)) 1 (-1)) 2 (-1)))] := hD.sub [5, 0, 1, 2, 3, 4] (by decide) rfl
  exact z_vret hx hb hr (fun _ => 0) trivial hP9 hD9 hS (Nat.le_of_ble_eq_true rfl) (Nat.le_of_ble_eq_true rfl) hlocks dX9_set_69
set_option maxHeartbeats 4000000 in
set_option maxRecDepth 100000 in
theorem cX9_join_1 (l : Launch) (K : zK) (sz : Nat) (a0 : Nat) (a1 : Nat) (g0 : Nat → Value) (f1 : Nat → Int32) (e0 : g0 5 = (.int 1)) (e1 : g0 4 = (.ref a1)) : Met l yX9_join (Cond.code yX9_join cX9_join 5 none :: WG) { frames := 1, cells := 0, slots := 0, locals := 21 } (zPre K [(a0, zO 7 6 g0), (a1, zI K 600 f1)] sz [.ref a0, .int 0, .int (-1), .int (-1), .int (-1)]) (va_Qv (fun _ : Nat → Nat => True) (zB K (va_A [(a0, zO 7 6 g0), (a1, zI K 600 f1)] sz) (fun u : Nat → Nat => [(a0, zO 7 6 g0), (a1, zI K 600 (va_up (va_up (va_up f1 0 (-1)) 1 (-1)) 2 (-1)))])) (va_A [(a0, zO 7 6 g0), (a1, zI K 600 f1)] sz)) 0 0 (va_A [(a0, zO 7 6 g0), (a1, zI K 600 f1)] sz) := by
  refine z_met (Qc := fun A => (va_Qv (fun _ : Nat → Nat => True) (zB K A (fun u : Nat → Nat => [(a0, zO 7 6 g0), (a1, zI K 600 (va_up (va_up (va_up f1 0 (-1)) 1 (-1)) 2 (-1)))])) A)) (by decide +kernel) (Nat.le_of_ble_eq_true rfl) ?_
  intro p e s m args below meth c A ls H hx hb hr hg hown hlocks hml hin hK hP hD hA hS hZ hl
  have hown : s.vm.findClass RX9 = some m.cls := hown
  have hl : lv_has ls 5 [(0, .ref a0), (1, .int 0), (2, .int (-1)), (3, .int (-1)), (4, .int (-1))] := hl
  refine lv_aload_n hx hb dX9_join_0 rfl (lv_at hl 0 rfl) ?_
  refine lv_iload_n hx hb dX9_join_1 rfl (lv_at hl 1 rfl) ?_
  refine z_calli [(a0, zO 7 6 g0)] [(a1, zI K 600 f1)] [0] [1] hP hD hS hA rfl rfl (by decide) (by decide) (by decide +kernel) 0 0 rfl rfl (fun hPc hDc hF => z_runV (As := [.int 0]) (rest := []) ⟨hx, hb, hml, hown, hg⟩ (cX9_has_1 l K H.size a0 g0 e0) kV_RX9_31 hd_X9_has rfl rfl ⟨(Nat.le_of_ble_eq_true rfl), (Nat.le_of_ble_eq_true rfl)⟩ hK hS hZ hPc hDc hF 0 rfl rfl rfl hl.1 rfl (Nat.le_of_ble_eq_true rfl) dX9_join_2 ⟨(Nat.le_of_ble_eq_true rfl), (Nat.le_of_ble_eq_true rfl)⟩) (fun r3 u1 H locs w2 hP hD hS => ?_)
  subst w2
  have hP : va_P K.1 classes [(a1, zI K 600 f1), (a0, zO 7 6 g0)] H := hP
  have hD : va_D A [(a1, zI K 600 f1), (a0, zO 7 6 g0)] := hD
  refine lv_if_eq (tgt := 40) hx hb dX9_join_5 (by decide) (fun c => absurd c (by decide)) (fun _ => ?_)
  refine lv_aload_n hx hb dX9_join_8 rfl (lv_at hl 0 rfl) ?_
  refine z_get (v := .ref a1) hx hb hg hown hK hP i_X9 rfl 1 rfl 4 (by decide) mt41 e1 dX9_join_9 ?_
  refine lv_iconst (v := 3) hx hb dX9_join_12 (by decide) ?_
  refine lv_iload_n hx hb dX9_join_13 rfl (lv_at hl 1 rfl) ?_
  refine lv_imul hx hb dX9_join_14 ?_
  refine z_cst (v := 0) (by decide +kernel) ?_
  refine lv_iload_n hx hb dX9_join_15 rfl (lv_at hl 2 rfl) ?_
  refine z_iast (j := 0) hx hb hK hP hD hS 0 rfl rfl (Nat.le_of_ble_eq_true rfl) (Nat.le_of_ble_eq_true rfl) dX9_join_16 (fun ff4 H locs y5 hP hD hS => ?_)
  have hP : va_P K.1 classes [(a1, zI K 600 ff4), (a0, zO 7 6 g0)] H := hP
  have hD : va_D A [(a1, zI K 600 ff4), (a0, zO 7 6 g0)] := hD
  refine lv_aload_n hx hb dX9_join_17 rfl (lv_at hl 0 rfl) ?_
  refine z_get (v := .ref a1) hx hb hg hown hK hP i_X9 rfl 1 rfl 4 (by decide) mt41 e1 dX9_join_18 ?_
  refine lv_iconst (v := 3) hx hb dX9_join_21 (by decide) ?_
  refine lv_iload_n hx hb dX9_join_22 rfl (lv_at hl 1 rfl) ?_
  refine lv_imul hx hb dX9_join_23 ?_
  refine z_cst (v := 0) (by decide +kernel) ?_
  refine lv_iconst (v := 1) hx hb dX9_join_24 (by decide) ?_
  refine lv_iadd hx hb dX9_join_25 ?_
  refine z_cst (v := 1) (by decide +kernel) ?_
  refine lv_iload_n hx hb dX9_join_26 rfl (lv_at hl 3 rfl) ?_
  refine z_iast (j := 1) hx hb hK hP hD hS 0 rfl rfl (Nat.le_of_ble_eq_true rfl) (Nat.le_of_ble_eq_true rfl) dX9_join_27 (fun ff6 H locs y7 hP hD hS => ?_)
  have hP : va_P K.1 classes [(a1, zI K 600 ff6), (a0, zO 7 6 g0)] H := hP
  have hD : va_D A [(a1, zI K 600 ff6), (a0, zO 7 6 g0)] := hD
  refine lv_aload_n hx hb dX9_join_28 rfl (lv_at hl 0 rfl) ?_
  refine z_get (v := .ref a1) hx hb hg hown hK hP i_X9 rfl 1 rfl 4 (by decide) mt41 e1 dX9_join_29 ?_
  refine lv_iconst (v := 3) hx hb dX9_join_32 (by decide) ?_
  refine lv_iload_n hx hb dX9_join_33 rfl (lv_at hl 1 rfl) ?_
  refine lv_imul hx hb dX9_join_34 ?_
  refine z_cst (v := 0) (by decide +kernel) ?_
  refine lv_iconst (v := 2) hx hb dX9_join_35 (by decide) ?_
  refine lv_iadd hx hb dX9_join_36 ?_
  refine z_cst (v := 2) (by decide +kernel) ?_
  refine lv_iload hx hb dX9_join_37 (lv_at hl 4 rfl) ?_
  refine z_iast (j := 2) hx hb hK hP hD hS 0 rfl rfl (Nat.le_of_ble_eq_true rfl) (Nat.le_of_ble_eq_true rfl) dX9_join_39 (fun ff8 H locs y9 hP hD hS => ?_)
  have hP : va_P K.1 classes [(a1, zI K 600 ff8), (a0, zO 7 6 g0)] H := hP
  have hD : va_D A [(a1, zI K 600 ff8), (a0, zO 7 6 g0)] := hD
  subst y9
  subst y7
  subst y5
  have hP9 : va_P K.1 classes [(a0, zO 7 6 g0), (a1, zI K 600 (va_up (va_up (va_up f1 0 (-1)) 1 (-1)) 2 (-1)))] H := hP.sub [1, 0] rfl
  have hD9 : va_D A [(a0, zO 7 6 g0), (a1, zI K 600 (va_up (va_up (va_up f1 0 (-1)) 1 (-1)) 2 (-1)))] := hD.sub [1, 0] (by decide) rfl
  exact z_vret hx hb hr (fun _ => 0) trivial hP9 hD9 hS (Nat.le_of_ble_eq_true rfl) (Nat.le_of_ble_eq_true rfl) hlocks dX9_join_40
set_option maxHeartbeats 4000000 in
set_option maxRecDepth 100000 in
theorem cX9_part_1 (l : Launch) (K : zK) (sz : Nat) (a0 : Nat) (a1 : Nat) (g0 : Nat → Value) (f1 : Nat → Int32) (e0 : g0 5 = (.int 1)) (e1 : g0 4 = (.ref a1)) (e2 : f1 0 = (-1)) : Met l yX9_part (Cond.code yX9_part cX9_part 3 (some .int) :: WG) { frames := 0, cells := 0, slots := 0, locals := 0 } (zPre K [(a0, zO 7 6 g0), (a1, zI K 600 f1)] sz [.ref a0, .int 0, .int 0]) (va_Qi (fun (r : Int32) (_ : Nat → Nat) => r = (-1)) (zB K (va_A [(a0, zO 7 6 g0), (a1, zI K 600 f1)] sz) (fun u : Nat → Nat => [(a0, zO 7 6 g0), (a1, zI K 600 f1)])) (va_A [(a0, zO 7 6 g0), (a1, zI K 600 f1)] sz)) 0 0 (va_A [(a0, zO 7 6 g0), (a1, zI K 600 f1)] sz) := by
  refine z_met (Qc := fun A => (va_Qi (fun (r : Int32) (_ : Nat → Nat) => r = (-1)) (zB K A (fun u : Nat → Nat => [(a0, zO 7 6 g0), (a1, zI K 600 f1)])) A)) (by decide +kernel) (Nat.le_of_ble_eq_true rfl) ?_
  intro p e s m args below meth c A ls H hx hb hr hg hown hlocks hml hin hK hP hD hA hS hZ hl
  have hown : s.vm.findClass RX9 = some m.cls := hown
  have hl : lv_has ls 3 [(0, .ref a0), (1, .int 0), (2, .int 0)] := hl
  refine lv_iload_n hx hb dX9_part_0 rfl (lv_at hl 1 rfl) ?_
  refine lv_if_lt (tgt := 34) hx hb dX9_part_1 (by decide) (fun c => absurd c (by decide)) (fun _ => ?_)
  refine lv_iload_n hx hb dX9_part_4 rfl (lv_at hl 1 rfl) ?_
  refine lv_aload_n hx hb dX9_part_5 rfl (lv_at hl 0 rfl) ?_
  refine z_get (v := .int 1) hx hb hg hown hK hP i_X9 rfl 0 rfl 5 (by decide) mt42 e0 dX9_part_6 ?_
  refine lv_icmp_ge (tgt := 34) hx hb dX9_part_9 (by decide) (fun c => absurd c (by decide)) (fun _ => ?_)
  refine lv_iload_n hx hb dX9_part_12 rfl (lv_at hl 2 rfl) ?_
  refine lv_if_lt (tgt := 34) hx hb dX9_part_13 (by decide) (fun c => absurd c (by decide)) (fun _ => ?_)
  refine lv_iload_n hx hb dX9_part_16 rfl (lv_at hl 2 rfl) ?_
  refine lv_iconst (v := 3) hx hb dX9_part_17 (by decide) ?_
  refine lv_icmp_ge (tgt := 34) hx hb dX9_part_18 (by decide) (fun c => absurd c (by decide)) (fun _ => ?_)
  refine lv_aload_n hx hb dX9_part_21 rfl (lv_at hl 0 rfl) ?_
  refine z_get (v := .ref a1) hx hb hg hown hK hP i_X9 rfl 0 rfl 4 (by decide) mt41 e1 dX9_part_22 ?_
  refine lv_iconst (v := 3) hx hb dX9_part_25 (by decide) ?_
  refine lv_iload_n hx hb dX9_part_26 rfl (lv_at hl 1 rfl) ?_
  refine lv_imul hx hb dX9_part_27 ?_
  refine z_cst (v := 0) (by decide +kernel) ?_
  refine lv_iload_n hx hb dX9_part_28 rfl (lv_at hl 2 rfl) ?_
  refine lv_iadd hx hb dX9_part_29 ?_
  refine z_cst (v := 0) (by decide +kernel) ?_
  refine z_iald (v := (-1)) (j := 0) hx hb hK hP 1 rfl rfl (Nat.le_of_ble_eq_true rfl) (Nat.le_of_ble_eq_true rfl) e2 dX9_part_30 ?_
  refine lv_goto (tgt := 35) hx hb dX9_part_31 (by decide) ?_
  have hP9 : va_P K.1 classes [(a0, zO 7 6 g0), (a1, zI K 600 f1)] H := hP.sub [0, 1] rfl
  have hD9 : va_D A [(a0, zO 7 6 g0), (a1, zI K 600 f1)] := hD.sub [0, 1] (by decide) rfl
  exact z_iret hx hb hr (fun _ => 0) rfl hP9 hD9 hS (Nat.le_of_ble_eq_true rfl) (Nat.le_of_ble_eq_true rfl) hlocks dX9_part_35
set_option maxHeartbeats 4000000 in
set_option maxRecDepth 100000 in
theorem cX9_part_2 (l : Launch) (K : zK) (sz : Nat) (a0 : Nat) (a1 : Nat) (g0 : Nat → Value) (f1 : Nat → Int32) (e0 : g0 5 = (.int 1)) (e1 : g0 4 = (.ref a1)) (e2 : f1 1 = (-1)) : Met l yX9_part (Cond.code yX9_part cX9_part 3 (some .int) :: WG) { frames := 0, cells := 0, slots := 0, locals := 0 } (zPre K [(a0, zO 7 6 g0), (a1, zI K 600 f1)] sz [.ref a0, .int 0, .int 1]) (va_Qi (fun (r : Int32) (_ : Nat → Nat) => r = (-1)) (zB K (va_A [(a0, zO 7 6 g0), (a1, zI K 600 f1)] sz) (fun u : Nat → Nat => [(a0, zO 7 6 g0), (a1, zI K 600 f1)])) (va_A [(a0, zO 7 6 g0), (a1, zI K 600 f1)] sz)) 0 0 (va_A [(a0, zO 7 6 g0), (a1, zI K 600 f1)] sz) := by
  refine z_met (Qc := fun A => (va_Qi (fun (r : Int32) (_ : Nat → Nat) => r = (-1)) (zB K A (fun u : Nat → Nat => [(a0, zO 7 6 g0), (a1, zI K 600 f1)])) A)) (by decide +kernel) (Nat.le_of_ble_eq_true rfl) ?_
  intro p e s m args below meth c A ls H hx hb hr hg hown hlocks hml hin hK hP hD hA hS hZ hl
  have hown : s.vm.findClass RX9 = some m.cls := hown
  have hl : lv_has ls 3 [(0, .ref a0), (1, .int 0), (2, .int 1)] := hl
  refine lv_iload_n hx hb dX9_part_0 rfl (lv_at hl 1 rfl) ?_
  refine lv_if_lt (tgt := 34) hx hb dX9_part_1 (by decide) (fun c => absurd c (by decide)) (fun _ => ?_)
  refine lv_iload_n hx hb dX9_part_4 rfl (lv_at hl 1 rfl) ?_
  refine lv_aload_n hx hb dX9_part_5 rfl (lv_at hl 0 rfl) ?_
  refine z_get (v := .int 1) hx hb hg hown hK hP i_X9 rfl 0 rfl 5 (by decide) mt42 e0 dX9_part_6 ?_
  refine lv_icmp_ge (tgt := 34) hx hb dX9_part_9 (by decide) (fun c => absurd c (by decide)) (fun _ => ?_)
  refine lv_iload_n hx hb dX9_part_12 rfl (lv_at hl 2 rfl) ?_
  refine lv_if_lt (tgt := 34) hx hb dX9_part_13 (by decide) (fun c => absurd c (by decide)) (fun _ => ?_)
  refine lv_iload_n hx hb dX9_part_16 rfl (lv_at hl 2 rfl) ?_
  refine lv_iconst (v := 3) hx hb dX9_part_17 (by decide) ?_
  refine lv_icmp_ge (tgt := 34) hx hb dX9_part_18 (by decide) (fun c => absurd c (by decide)) (fun _ => ?_)
  refine lv_aload_n hx hb dX9_part_21 rfl (lv_at hl 0 rfl) ?_
  refine z_get (v := .ref a1) hx hb hg hown hK hP i_X9 rfl 0 rfl 4 (by decide) mt41 e1 dX9_part_22 ?_
  refine lv_iconst (v := 3) hx hb dX9_part_25 (by decide) ?_
  refine lv_iload_n hx hb dX9_part_26 rfl (lv_at hl 1 rfl) ?_
  refine lv_imul hx hb dX9_part_27 ?_
  refine z_cst (v := 0) (by decide +kernel) ?_
  refine lv_iload_n hx hb dX9_part_28 rfl (lv_at hl 2 rfl) ?_
  refine lv_iadd hx hb dX9_part_29 ?_
  refine z_cst (v := 1) (by decide +kernel) ?_
  refine z_iald (v := (-1)) (j := 1) hx hb hK hP 1 rfl rfl (Nat.le_of_ble_eq_true rfl) (Nat.le_of_ble_eq_true rfl) e2 dX9_part_30 ?_
  refine lv_goto (tgt := 35) hx hb dX9_part_31 (by decide) ?_
  have hP9 : va_P K.1 classes [(a0, zO 7 6 g0), (a1, zI K 600 f1)] H := hP.sub [0, 1] rfl
  have hD9 : va_D A [(a0, zO 7 6 g0), (a1, zI K 600 f1)] := hD.sub [0, 1] (by decide) rfl
  exact z_iret hx hb hr (fun _ => 0) rfl hP9 hD9 hS (Nat.le_of_ble_eq_true rfl) (Nat.le_of_ble_eq_true rfl) hlocks dX9_part_35
set_option maxHeartbeats 4000000 in
set_option maxRecDepth 100000 in
theorem cX9_part_3 (l : Launch) (K : zK) (sz : Nat) (a0 : Nat) (a1 : Nat) (g0 : Nat → Value) (f1 : Nat → Int32) (e0 : g0 5 = (.int 1)) (e1 : g0 4 = (.ref a1)) (e2 : f1 2 = (-1)) : Met l yX9_part (Cond.code yX9_part cX9_part 3 (some .int) :: WG) { frames := 0, cells := 0, slots := 0, locals := 0 } (zPre K [(a0, zO 7 6 g0), (a1, zI K 600 f1)] sz [.ref a0, .int 0, .int 2]) (va_Qi (fun (r : Int32) (_ : Nat → Nat) => r = (-1)) (zB K (va_A [(a0, zO 7 6 g0), (a1, zI K 600 f1)] sz) (fun u : Nat → Nat => [(a0, zO 7 6 g0), (a1, zI K 600 f1)])) (va_A [(a0, zO 7 6 g0), (a1, zI K 600 f1)] sz)) 0 0 (va_A [(a0, zO 7 6 g0), (a1, zI K 600 f1)] sz) := by
  refine z_met (Qc := fun A => (va_Qi (fun (r : Int32) (_ : Nat → Nat) => r = (-1)) (zB K A (fun u : Nat → Nat => [(a0, zO 7 6 g0), (a1, zI K 600 f1)])) A)) (by decide +kernel) (Nat.le_of_ble_eq_true rfl) ?_
  intro p e s m args below meth c A ls H hx hb hr hg hown hlocks hml hin hK hP hD hA hS hZ hl
  have hown : s.vm.findClass RX9 = some m.cls := hown
  have hl : lv_has ls 3 [(0, .ref a0), (1, .int 0), (2, .int 2)] := hl
  refine lv_iload_n hx hb dX9_part_0 rfl (lv_at hl 1 rfl) ?_
  refine lv_if_lt (tgt := 34) hx hb dX9_part_1 (by decide) (fun c => absurd c (by decide)) (fun _ => ?_)
  refine lv_iload_n hx hb dX9_part_4 rfl (lv_at hl 1 rfl) ?_
  refine lv_aload_n hx hb dX9_part_5 rfl (lv_at hl 0 rfl) ?_
  refine z_get (v := .int 1) hx hb hg hown hK hP i_X9 rfl 0 rfl 5 (by decide) mt42 e0 dX9_part_6 ?_
  refine lv_icmp_ge (tgt := 34) hx hb dX9_part_9 (by decide) (fun c => absurd c (by decide)) (fun _ => ?_)
  refine lv_iload_n hx hb dX9_part_12 rfl (lv_at hl 2 rfl) ?_
  refine lv_if_lt (tgt := 34) hx hb dX9_part_13 (by decide) (fun c => absurd c (by decide)) (fun _ => ?_)
  refine lv_iload_n hx hb dX9_part_16 rfl (lv_at hl 2 rfl) ?_
  refine lv_iconst (v := 3) hx hb dX9_part_17 (by decide) ?_
  refine lv_icmp_ge (tgt := 34) hx hb dX9_part_18 (by decide) (fun c => absurd c (by decide)) (fun _ => ?_)
  refine lv_aload_n hx hb dX9_part_21 rfl (lv_at hl 0 rfl) ?_
  refine z_get (v := .ref a1) hx hb hg hown hK hP i_X9 rfl 0 rfl 4 (by decide) mt41 e1 dX9_part_22 ?_
  refine lv_iconst (v := 3) hx hb dX9_part_25 (by decide) ?_
  refine lv_iload_n hx hb dX9_part_26 rfl (lv_at hl 1 rfl) ?_
  refine lv_imul hx hb dX9_part_27 ?_
  refine z_cst (v := 0) (by decide +kernel) ?_
  refine lv_iload_n hx hb dX9_part_28 rfl (lv_at hl 2 rfl) ?_
  refine lv_iadd hx hb dX9_part_29 ?_
  refine z_cst (v := 2) (by decide +kernel) ?_
  refine z_iald (v := (-1)) (j := 2) hx hb hK hP 1 rfl rfl (Nat.le_of_ble_eq_true rfl) (Nat.le_of_ble_eq_true rfl) e2 dX9_part_30 ?_
  refine lv_goto (tgt := 35) hx hb dX9_part_31 (by decide) ?_
  have hP9 : va_P K.1 classes [(a0, zO 7 6 g0), (a1, zI K 600 f1)] H := hP.sub [0, 1] rfl
  have hD9 : va_D A [(a0, zO 7 6 g0), (a1, zI K 600 f1)] := hD.sub [0, 1] (by decide) rfl
  exact z_iret hx hb hr (fun _ => 0) rfl hP9 hD9 hS (Nat.le_of_ble_eq_true rfl) (Nat.le_of_ble_eq_true rfl) hlocks dX9_part_35
set_option maxHeartbeats 4000000 in
set_option maxRecDepth 100000 in
theorem cX11_tell_1 (l : Launch) (K : zK) (sz : Nat) (a0 : Nat) (a1 : Nat) (a2 : Nat) (a3 : Nat) (a4 : Nat) (a5 : Nat) (a6 : Nat) (a7 : Nat) (a8 : Nat) (g0 : Nat → Value) (g1 : Nat → Value) (f2 : Nat → Int32) (f3 : Nat → Int32) (f4 : Nat → Int32) (f5 : Nat → Int32) (f6 : Nat → Int32) (f7 : Nat → Int32) (f8 : Nat → Int32) (x0 : Int32) (e0 : g0 0 = (.ref a1)) (e1 : g1 0 = (.ref a2)) (e2 : g1 5 = (.int 0)) (e3 : g1 1 = (.ref a3)) (e4 : g1 2 = (.ref a4)) (e5 : g1 3 = (.ref a5)) (e6 : g1 4 = (.ref a6)) (e7 : g0 1 = (.ref a7)) (e8 : g0 2 = (.ref a8)) : Met l yX11_tell (Cond.code yX11_tell cX11_tell 13 (some .int) :: WG) { frames := 2, cells := 0, slots := 0, locals := 46 } (zPre K [(a0, zO 9 9 g0), (a1, zO 7 6 g1), (a2, zI K 200 f2), (a3, zI K 200 f3), (a4, zI K 200 f4), (a5, zI K 200 f5), (a6, zI K 600 f6), (a7, zI K 200 f7), (a8, zI K 200 f8)] sz [.ref a0, .int 0, .int x0, .int 0, .int 0, .int (-1), .int (-1), .int (-1)]) (va_Qi (fun (r : Int32) (_ : Nat → Nat) => r = 0) (zB K (va_A [(a0, zO 9 9 g0), (a1, zO 7 6 g1), (a2, zI K 200 f2), (a3, zI K 200 f3), (a4, zI K 200 f4), (a5, zI K 200 f5), (a6, zI K 600 f6), (a7, zI K 200 f7), (a8, zI K 200 f8)] sz) (fun u : Nat → Nat => [(a0, zO 9 9 g0), (a1, zO 7 6 (va_up g1 5 (.int 1))), (a2, zI K 200 (va_up f2 0 0)), (a3, zI K 200 (va_up f3 0 x0)), (a4, zI K 200 (va_up f4 0 0)), (a5, zI K 200 (va_up f5 0 0)), (a6, zI K 600 (va_up (va_up (va_up (va_up (va_up (va_up f6 0 (-1)) 1 (-1)) 2 (-1)) 0 (-1)) 1 (-1)) 2 (-1))), (a7, zI K 200 (va_up f7 0 1)), (a8, zI K 200 (va_up f8 0 0))])) (va_A [(a0, zO 9 9 g0), (a1, zO 7 6 g1), (a2, zI K 200 f2), (a3, zI K 200 f3), (a4, zI K 200 f4), (a5, zI K 200 f5), (a6, zI K 600 f6), (a7, zI K 200 f7), (a8, zI K 200 f8)] sz)) 0 0 (va_A [(a0, zO 9 9 g0), (a1, zO 7 6 g1), (a2, zI K 200 f2), (a3, zI K 200 f3), (a4, zI K 200 f4), (a5, zI K 200 f5), (a6, zI K 600 f6), (a7, zI K 200 f7), (a8, zI K 200 f8)] sz) := by
  refine z_met (Qc := fun A => (va_Qi (fun (r : Int32) (_ : Nat → Nat) => r = 0) (zB K A (fun u : Nat → Nat => [(a0, zO 9 9 g0), (a1, zO 7 6 (va_up g1 5 (.int 1))), (a2, zI K 200 (va_up f2 0 0)), (a3, zI K 200 (va_up f3 0 x0)), (a4, zI K 200 (va_up f4 0 0)), (a5, zI K 200 (va_up f5 0 0)), (a6, zI K 600 (va_up (va_up (va_up (va_up (va_up (va_up f6 0 (-1)) 1 (-1)) 2 (-1)) 0 (-1)) 1 (-1)) 2 (-1))), (a7, zI K 200 (va_up f7 0 1)), (a8, zI K 200 (va_up f8 0 0))])) A)) (by decide +kernel) (Nat.le_of_ble_eq_true rfl) ?_
  intro p e s m args below meth c A ls H hx hb hr hg hown hlocks hml hin hK hP hD hA hS hZ hl
  have hown : s.vm.findClass RX11 = some m.cls := hown
  have hl : lv_has ls 13 [(0, .ref a0), (1, .int 0), (2, .int x0), (3, .int 0), (4, .int 0), (5, .int (-1)), (6, .int (-1)), (7, .int (-1))] := hl
  refine lv_aload_n hx hb dX11_tell_0 rfl (lv_at hl 0 rfl) ?_
  refine z_get (v := .ref a1) hx hb hg hown hK hP i_X11 rfl 0 rfl 0 (by decide) mt304 e0 dX11_tell_1 ?_
  refine lv_iconst (v := 1) hx hb dX11_tell_4 (by decide) ?_
  refine z_calli [(a1, zO 7 6 g1), (a2, zI K 200 f2)] [(a0, zO 9 9 g0), (a3, zI K 200 f3), (a4, zI K 200 f4), (a5, zI K 200 f5), (a6, zI K 600 f6), (a7, zI K 200 f7), (a8, zI K 200 f8)] [1, 2] [0, 3, 4, 5, 6, 7, 8] hP hD hS hA rfl rfl (by decide) (by decide) (by decide +kernel) 0 0 rfl rfl (fun hPc hDc hF => z_runV (As := [.int 1]) (rest := []) ⟨hx, hb, hml, hown, hg⟩ (cX9_reserve_2 l K H.size a1 a2 g1 f2 e1 e2) kV_RX11_198 hd_X9_reserve rfl rfl ⟨(Nat.le_of_ble_eq_true rfl), (Nat.le_of_ble_eq_true rfl)⟩ hK hS hZ hPc hDc hF 0 rfl rfl rfl hl.1 rfl (Nat.le_of_ble_eq_true rfl) dX11_tell_5 ⟨(Nat.le_of_ble_eq_true rfl), (Nat.le_of_ble_eq_true rfl)⟩) (fun r3 u1 H locs w2 hP hD hS => ?_)
  subst w2
  have hP : va_P K.1 classes [(a0, zO 9 9 g0), (a3, zI K 200 f3), (a4, zI K 200 f4), (a5, zI K 200 f5), (a6, zI K 600 f6), (a7, zI K 200 f7), (a8, zI K 200 f8), (a1, zO 7 6 (va_up g1 5 (.int 1))), (a2, zI K 200 f2)] H := hP
  have hD : va_D A [(a0, zO 9 9 g0), (a3, zI K 200 f3), (a4, zI K 200 f4), (a5, zI K 200 f5), (a6, zI K 600 f6), (a7, zI K 200 f7), (a8, zI K 200 f8), (a1, zO 7 6 (va_up g1 5 (.int 1))), (a2, zI K 200 f2)] := hD
  refine lv_istore (lv' := [(8, .int 0), (0, .ref a0), (1, .int 0), (2, .int x0), (3, .int 0), (4, .int 0), (5, .int (-1)), (6, .int (-1)), (7, .int (-1))]) hx hb dX11_tell_8 hl (by decide) rfl (fun ls hl => ?_)
  refine lv_iload hx hb dX11_tell_10 (lv_at hl 0 rfl) ?_
  refine lv_iconst (v := (-1)) hx hb dX11_tell_12 (by decide) ?_
  refine lv_icmp_ne (tgt := 26) hx hb dX11_tell_13 (by decide) (fun _ => ?_) (fun c => absurd c (by decide))
  refine lv_aload_n hx hb dX11_tell_26 rfl (lv_at hl 1 rfl) ?_
  refine z_get (v := .ref a1) hx hb hg hown hK hP i_X11 rfl 0 rfl 0 (by decide) mt304 e0 dX11_tell_27 ?_
  refine lv_iload hx hb dX11_tell_30 (lv_at hl 0 rfl) ?_
  refine lv_iload_n hx hb dX11_tell_32 rfl (lv_at hl 2 rfl) ?_
  refine lv_iload_n hx hb dX11_tell_33 rfl (lv_at hl 3 rfl) ?_
  refine lv_iload_n hx hb dX11_tell_34 rfl (lv_at hl 4 rfl) ?_
  refine lv_iload hx hb dX11_tell_35 (lv_at hl 5 rfl) ?_
  refine z_callv [(a1, zO 7 6 (va_up g1 5 (.int 1))), (a2, zI K 200 f2), (a3, zI K 200 f3), (a4, zI K 200 f4), (a5, zI K 200 f5), (a6, zI K 600 f6)] [(a0, zO 9 9 g0), (a7, zI K 200 f7), (a8, zI K 200 f8)] [7, 8, 1, 2, 3, 4] [0, 5, 6] hP hD hS hA rfl rfl (by decide) (by decide) (by decide +kernel) 0 0 rfl rfl (fun hPc hDc hF => z_runV (As := [.int 0, .int 0, .int x0, .int 0, .int 0]) (rest := []) ⟨hx, hb, hml, hown, hg⟩ (cX9_set_1 l K H.size a1 a2 a3 a4 a5 a6 (va_up g1 5 (.int 1)) f2 f3 f4 f5 f6 x0 zu_eq (zu_ne (by decide) e1) (zu_ne (by decide) e3) (zu_ne (by decide) e4) (zu_ne (by decide) e5) (zu_ne (by decide) e6)) kV_RX11_203 hd_X9_set rfl rfl ⟨(Nat.le_of_ble_eq_true rfl), (Nat.le_of_ble_eq_true rfl)⟩ hK hS hZ hPc hDc hF 0 rfl rfl rfl hl.1 rfl (Nat.le_of_ble_eq_true rfl) dX11_tell_37 ⟨(Nat.le_of_ble_eq_true rfl), (Nat.le_of_ble_eq_true rfl)⟩) (fun u4 H locs w5 hP hD hS => ?_)
  have hP : va_P K.1 classes [(a0, zO 9 9 g0), (a7, zI K 200 f7), (a8, zI K 200 f8), (a1, zO 7 6 (va_up g1 5 (.int 1))), (a2, zI K 200 (va_up f2 0 0)), (a3, zI K 200 (va_up f3 0 x0)), (a4, zI K 200 (va_up f4 0 0)), (a5, zI K 200 (va_up f5 0 0)), (a6, zI K 600 (va_up (va_up (va_up f6 0 (-1)) 1 (-1)) 2 (-1)))] H := hP
  have hD : va_D A [(a0, zO 9 9 g0), (a7, zI K 200 f7), (a8, zI K 200 f8), (a1, zO 7 6 (va_up g1 5 (.int 1))), (a2, zI K 200 (va_up f2 0 0)), (a3, zI K 200 (va_up f3 0 x0)), (a4, zI K 200 (va_up f4 0 0)), (a5, zI K 200 (va_up f5 0 0)), (a6, zI K 600 (va_up (va_up (va_up f6 0 (-1)) 1 (-1)) 2 (-1)))] := hD
  obtain ⟨ff7, y8⟩ : ∃ z, z = ((va_up (va_up (va_up f6 0 (-1)) 1 (-1)) 2 (-1)) : Nat → Int32) := ⟨_, rfl⟩
  rw [← y8] at hP hD
  refine lv_aload_n hx hb dX11_tell_40 rfl (lv_at hl 1 rfl) ?_
  refine z_get (v := .ref a1) hx hb hg hown hK hP i_X11 rfl 0 rfl 0 (by decide) mt304 e0 dX11_tell_41 ?_
  refine lv_iload hx hb dX11_tell_44 (lv_at hl 0 rfl) ?_
  refine lv_iload hx hb dX11_tell_46 (lv_at hl 6 rfl) ?_
  refine lv_iload hx hb dX11_tell_48 (lv_at hl 7 rfl) ?_
  refine lv_iload hx hb dX11_tell_50 (lv_at hl 8 rfl) ?_
  refine z_callv [(a1, zO 7 6 (va_up g1 5 (.int 1))), (a6, zI K 600 ff7)] [(a0, zO 9 9 g0), (a7, zI K 200 f7), (a8, zI K 200 f8), (a2, zI K 200 (va_up f2 0 0)), (a3, zI K 200 (va_up f3 0 x0)), (a4, zI K 200 (va_up f4 0 0)), (a5, zI K 200 (va_up f5 0 0))] [3, 8] [0, 1, 2, 4, 5, 6, 7] hP hD hS hA rfl rfl (by decide) (by decide) (by decide +kernel) 0 0 rfl rfl (fun hPc hDc hF => z_runV (As := [.int 0, .int (-1), .int (-1), .int (-1)]) (rest := []) ⟨hx, hb, hml, hown, hg⟩ (cX9_join_1 l K H.size a1 a6 (va_up g1 5 (.int 1)) ff7 zu_eq (zu_ne (by decide) e6)) kV_RX11_207 hd_X9_join rfl rfl ⟨(Nat.le_of_ble_eq_true rfl), (Nat.le_of_ble_eq_true rfl)⟩ hK hS hZ hPc hDc hF 0 rfl rfl rfl hl.1 rfl (Nat.le_of_ble_eq_true rfl) dX11_tell_52 ⟨(Nat.le_of_ble_eq_true rfl), (Nat.le_of_ble_eq_true rfl)⟩) (fun u9 H locs w10 hP hD hS => ?_)
  have hP : va_P K.1 classes [(a0, zO 9 9 g0), (a7, zI K 200 f7), (a8, zI K 200 f8), (a2, zI K 200 (va_up f2 0 0)), (a3, zI K 200 (va_up f3 0 x0)), (a4, zI K 200 (va_up f4 0 0)), (a5, zI K 200 (va_up f5 0 0)), (a1, zO 7 6 (va_up g1 5 (.int 1))), (a6, zI K 600 (va_up (va_up (va_up ff7 0 (-1)) 1 (-1)) 2 (-1)))] H := hP
  have hD : va_D A [(a0, zO 9 9 g0), (a7, zI K 200 f7), (a8, zI K 200 f8), (a2, zI K 200 (va_up f2 0 0)), (a3, zI K 200 (va_up f3 0 x0)), (a4, zI K 200 (va_up f4 0 0)), (a5, zI K 200 (va_up f5 0 0)), (a1, zO 7 6 (va_up g1 5 (.int 1))), (a6, zI K 600 (va_up (va_up (va_up ff7 0 (-1)) 1 (-1)) 2 (-1)))] := hD
  obtain ⟨ff12, y13⟩ : ∃ z, z = ((va_up (va_up (va_up ff7 0 (-1)) 1 (-1)) 2 (-1)) : Nat → Int32) := ⟨_, rfl⟩
  rw [← y13] at hP hD
  refine lv_iconst (v := 1) hx hb dX11_tell_55 (by decide) ?_
  refine lv_istore (lv' := [(9, .int 1), (8, .int 0), (0, .ref a0), (1, .int 0), (2, .int x0), (3, .int 0), (4, .int 0), (5, .int (-1)), (6, .int (-1)), (7, .int (-1))]) hx hb dX11_tell_56 hl (by decide) rfl (fun ls hl => ?_)
  refine lv_iload_n hx hb dX11_tell_58 rfl (lv_at hl 3 rfl) ?_
  refine lv_iconst (v := 1) hx hb dX11_tell_59 (by decide) ?_
  refine lv_icmp_eq (tgt := 69) hx hb dX11_tell_60 (by decide) (fun c => absurd c (by decide)) (fun _ => ?_)
  refine lv_iload_n hx hb dX11_tell_63 rfl (lv_at hl 3 rfl) ?_
  refine lv_bipush (v := 14) hx hb dX11_tell_64 (by decide) ?_
  refine lv_icmp_ne (tgt := 75) hx hb dX11_tell_66 (by decide) (fun _ => ?_) (fun c => absurd c (by decide))
  refine lv_iconst (v := 0) hx hb dX11_tell_75 (by decide) ?_
  refine lv_istore (lv' := [(10, .int 0), (9, .int 1), (8, .int 0), (0, .ref a0), (1, .int 0), (2, .int x0), (3, .int 0), (4, .int 0), (5, .int (-1)), (6, .int (-1)), (7, .int (-1))]) hx hb dX11_tell_76 hl (by decide) rfl (fun ls hl => ?_)
  refine lv_iconst (v := 0) hx hb dX11_tell_78 (by decide) ?_
  refine lv_istore (lv' := [(11, .int 0), (10, .int 0), (9, .int 1), (8, .int 0), (0, .ref a0), (1, .int 0), (2, .int x0), (3, .int 0), (4, .int 0), (5, .int (-1)), (6, .int (-1)), (7, .int (-1))]) hx hb dX11_tell_79 hl (by decide) rfl (fun ls hl => ?_)
  refine lv_iload hx hb dX11_tell_81 (lv_at hl 0 rfl) ?_
  refine lv_iconst (v := 3) hx hb dX11_tell_83 (by decide) ?_
  refine lv_icmp_ge (tgt := 156) hx hb dX11_tell_84 (by decide) (fun c => absurd c (by decide)) (fun _ => ?_)
  refine lv_aload_n hx hb dX11_tell_87 rfl (lv_at hl 4 rfl) ?_
  refine z_get (v := .ref a1) hx hb hg hown hK hP i_X11 rfl 0 rfl 0 (by decide) mt304 e0 dX11_tell_88 ?_
  refine lv_iload hx hb dX11_tell_91 (lv_at hl 3 rfl) ?_
  refine lv_iload hx hb dX11_tell_93 (lv_at hl 0 rfl) ?_
  refine z_calli [(a1, zO 7 6 (va_up g1 5 (.int 1))), (a6, zI K 600 ff12)] [(a0, zO 9 9 g0), (a7, zI K 200 f7), (a8, zI K 200 f8), (a2, zI K 200 (va_up f2 0 0)), (a3, zI K 200 (va_up f3 0 x0)), (a4, zI K 200 (va_up f4 0 0)), (a5, zI K 200 (va_up f5 0 0))] [7, 8] [0, 1, 2, 3, 4, 5, 6] hP hD hS hA rfl rfl (by decide) (by decide) (by decide +kernel) 0 0 rfl rfl (fun hPc hDc hF => z_runV (As := [.int 0, .int 0]) (rest := []) ⟨hx, hb, hml, hown, hg⟩ (cX9_part_1 l K H.size a1 a6 (va_up g1 5 (.int 1)) ff12 zu_eq (zu_ne (by decide) e6) (zu_of y13 (zu_ne (by decide) (zu_ne (by decide) zu_eq)))) kV_RX11_211 hd_X9_part rfl rfl ⟨(Nat.le_of_ble_eq_true rfl), (Nat.le_of_ble_eq_true rfl)⟩ hK hS hZ hPc hDc hF 0 rfl rfl rfl hl.1 rfl (Nat.le_of_ble_eq_true rfl) dX11_tell_95 ⟨(Nat.le_of_ble_eq_true rfl), (Nat.le_of_ble_eq_true rfl)⟩) (fun r16 u14 H locs w15 hP hD hS => ?_)
  subst w15
  have hP : va_P K.1 classes [(a0, zO 9 9 g0), (a7, zI K 200 f7), (a8, zI K 200 f8), (a2, zI K 200 (va_up f2 0 0)), (a3, zI K 200 (va_up f3 0 x0)), (a4, zI K 200 (va_up f4 0 0)), (a5, zI K 200 (va_up f5 0 0)), (a1, zO 7 6 (va_up g1 5 (.int 1))), (a6, zI K 600 ff12)] H := hP
  have hD : va_D A [(a0, zO 9 9 g0), (a7, zI K 200 f7), (a8, zI K 200 f8), (a2, zI K 200 (va_up f2 0 0)), (a3, zI K 200 (va_up f3 0 x0)), (a4, zI K 200 (va_up f4 0 0)), (a5, zI K 200 (va_up f5 0 0)), (a1, zO 7 6 (va_up g1 5 (.int 1))), (a6, zI K 600 ff12)] := hD
  refine lv_istore (lv' := [(12, .int (-1)), (11, .int 0), (10, .int 0), (9, .int 1), (8, .int 0), (0, .ref a0), (1, .int 0), (2, .int x0), (3, .int 0), (4, .int 0), (5, .int (-1)), (6, .int (-1)), (7, .int (-1))]) hx hb dX11_tell_98 hl (by decide) rfl (fun ls hl => ?_)
  refine lv_iload hx hb dX11_tell_100 (lv_at hl 0 rfl) ?_
  refine lv_if_lt (tgt := 150) hx hb dX11_tell_102 (by decide) (fun _ => ?_) (fun c => absurd (by decide) c)
  refine lv_iinc (v := 1) (lv' := [(11, .int 1), (12, .int (-1)), (10, .int 0), (9, .int 1), (8, .int 0), (0, .ref a0), (1, .int 0), (2, .int x0), (3, .int 0), (4, .int 0), (5, .int (-1)), (6, .int (-1)), (7, .int (-1))]) hx hb dX11_tell_150 hl (k := 1) rfl (by decide +kernel) (by decide) rfl (fun ls hl => ?_)
  refine lv_goto (tgt := 81) hx hb dX11_tell_153 (by decide) ?_
  refine lv_iload hx hb dX11_tell_81 (lv_at hl 0 rfl) ?_
  refine lv_iconst (v := 3) hx hb dX11_tell_83 (by decide) ?_
  refine lv_icmp_ge (tgt := 156) hx hb dX11_tell_84 (by decide) (fun c => absurd c (by decide)) (fun _ => ?_)
  refine lv_aload_n hx hb dX11_tell_87 rfl (lv_at hl 5 rfl) ?_
  refine z_get (v := .ref a1) hx hb hg hown hK hP i_X11 rfl 0 rfl 0 (by decide) mt304 e0 dX11_tell_88 ?_
  refine lv_iload hx hb dX11_tell_91 (lv_at hl 4 rfl) ?_
  refine lv_iload hx hb dX11_tell_93 (lv_at hl 0 rfl) ?_
  refine z_calli [(a1, zO 7 6 (va_up g1 5 (.int 1))), (a6, zI K 600 ff12)] [(a0, zO 9 9 g0), (a7, zI K 200 f7), (a8, zI K 200 f8), (a2, zI K 200 (va_up f2 0 0)), (a3, zI K 200 (va_up f3 0 x0)), (a4, zI K 200 (va_up f4 0 0)), (a5, zI K 200 (va_up f5 0 0))] [7, 8] [0, 1, 2, 3, 4, 5, 6] hP hD hS hA rfl rfl (by decide) (by decide) (by decide +kernel) 0 0 rfl rfl (fun hPc hDc hF => z_runV (As := [.int 0, .int 1]) (rest := []) ⟨hx, hb, hml, hown, hg⟩ (cX9_part_2 l K H.size a1 a6 (va_up g1 5 (.int 1)) ff12 zu_eq (zu_ne (by decide) e6) (zu_of y13 (zu_ne (by decide) zu_eq))) kV_RX11_211 hd_X9_part rfl rfl ⟨(Nat.le_of_ble_eq_true rfl), (Nat.le_of_ble_eq_true rfl)⟩ hK hS hZ hPc hDc hF 0 rfl rfl rfl hl.1 rfl (Nat.le_of_ble_eq_true rfl) dX11_tell_95 ⟨(Nat.le_of_ble_eq_true rfl), (Nat.le_of_ble_eq_true rfl)⟩) (fun r19 u17 H locs w18 hP hD hS => ?_)
  subst w18
  have hP : va_P K.1 classes [(a0, zO 9 9 g0), (a7, zI K 200 f7), (a8, zI K 200 f8), (a2, zI K 200 (va_up f2 0 0)), (a3, zI K 200 (va_up f3 0 x0)), (a4, zI K 200 (va_up f4 0 0)), (a5, zI K 200 (va_up f5 0 0)), (a1, zO 7 6 (va_up g1 5 (.int 1))), (a6, zI K 600 ff12)] H := hP
  have hD : va_D A [(a0, zO 9 9 g0), (a7, zI K 200 f7), (a8, zI K 200 f8), (a2, zI K 200 (va_up f2 0 0)), (a3, zI K 200 (va_up f3 0 x0)), (a4, zI K 200 (va_up f4 0 0)), (a5, zI K 200 (va_up f5 0 0)), (a1, zO 7 6 (va_up g1 5 (.int 1))), (a6, zI K 600 ff12)] := hD
  refine lv_istore (lv' := [(12, .int (-1)), (11, .int 1), (10, .int 0), (9, .int 1), (8, .int 0), (0, .ref a0), (1, .int 0), (2, .int x0), (3, .int 0), (4, .int 0), (5, .int (-1)), (6, .int (-1)), (7, .int (-1))]) hx hb dX11_tell_98 hl (by decide) rfl (fun ls hl => ?_)
  refine lv_iload hx hb dX11_tell_100 (lv_at hl 0 rfl) ?_
  refine lv_if_lt (tgt := 150) hx hb dX11_tell_102 (by decide) (fun _ => ?_) (fun c => absurd (by decide) c)
  refine lv_iinc (v := 2) (lv' := [(11, .int 2), (12, .int (-1)), (10, .int 0), (9, .int 1), (8, .int 0), (0, .ref a0), (1, .int 0), (2, .int x0), (3, .int 0), (4, .int 0), (5, .int (-1)), (6, .int (-1)), (7, .int (-1))]) hx hb dX11_tell_150 hl (k := 1) rfl (by decide +kernel) (by decide) rfl (fun ls hl => ?_)
  refine lv_goto (tgt := 81) hx hb dX11_tell_153 (by decide) ?_
  refine lv_iload hx hb dX11_tell_81 (lv_at hl 0 rfl) ?_
  refine lv_iconst (v := 3) hx hb dX11_tell_83 (by decide) ?_
  refine lv_icmp_ge (tgt := 156) hx hb dX11_tell_84 (by decide) (fun c => absurd c (by decide)) (fun _ => ?_)
  refine lv_aload_n hx hb dX11_tell_87 rfl (lv_at hl 5 rfl) ?_
  refine z_get (v := .ref a1) hx hb hg hown hK hP i_X11 rfl 0 rfl 0 (by decide) mt304 e0 dX11_tell_88 ?_
  refine lv_iload hx hb dX11_tell_91 (lv_at hl 4 rfl) ?_
  refine lv_iload hx hb dX11_tell_93 (lv_at hl 0 rfl) ?_
  refine z_calli [(a1, zO 7 6 (va_up g1 5 (.int 1))), (a6, zI K 600 ff12)] [(a0, zO 9 9 g0), (a7, zI K 200 f7), (a8, zI K 200 f8), (a2, zI K 200 (va_up f2 0 0)), (a3, zI K 200 (va_up f3 0 x0)), (a4, zI K 200 (va_up f4 0 0)), (a5, zI K 200 (va_up f5 0 0))] [7, 8] [0, 1, 2, 3, 4, 5, 6] hP hD hS hA rfl rfl (by decide) (by decide) (by decide +kernel) 0 0 rfl rfl (fun hPc hDc hF => z_runV (As := [.int 0, .int 2]) (rest := []) ⟨hx, hb, hml, hown, hg⟩ (cX9_part_3 l K H.size a1 a6 (va_up g1 5 (.int 1)) ff12 zu_eq (zu_ne (by decide) e6) (zu_of y13 zu_eq)) kV_RX11_211 hd_X9_part rfl rfl ⟨(Nat.le_of_ble_eq_true rfl), (Nat.le_of_ble_eq_true rfl)⟩ hK hS hZ hPc hDc hF 0 rfl rfl rfl hl.1 rfl (Nat.le_of_ble_eq_true rfl) dX11_tell_95 ⟨(Nat.le_of_ble_eq_true rfl), (Nat.le_of_ble_eq_true rfl)⟩) (fun r22 u20 H locs w21 hP hD hS => ?_)
  subst w21
  have hP : va_P K.1 classes [(a0, zO 9 9 g0), (a7, zI K 200 f7), (a8, zI K 200 f8), (a2, zI K 200 (va_up f2 0 0)), (a3, zI K 200 (va_up f3 0 x0)), (a4, zI K 200 (va_up f4 0 0)), (a5, zI K 200 (va_up f5 0 0)), (a1, zO 7 6 (va_up g1 5 (.int 1))), (a6, zI K 600 ff12)] H := hP
  have hD : va_D A [(a0, zO 9 9 g0), (a7, zI K 200 f7), (a8, zI K 200 f8), (a2, zI K 200 (va_up f2 0 0)), (a3, zI K 200 (va_up f3 0 x0)), (a4, zI K 200 (va_up f4 0 0)), (a5, zI K 200 (va_up f5 0 0)), (a1, zO 7 6 (va_up g1 5 (.int 1))), (a6, zI K 600 ff12)] := hD
  refine lv_istore (lv' := [(12, .int (-1)), (11, .int 2), (10, .int 0), (9, .int 1), (8, .int 0), (0, .ref a0), (1, .int 0), (2, .int x0), (3, .int 0), (4, .int 0), (5, .int (-1)), (6, .int (-1)), (7, .int (-1))]) hx hb dX11_tell_98 hl (by decide) rfl (fun ls hl => ?_)
  refine lv_iload hx hb dX11_tell_100 (lv_at hl 0 rfl) ?_
  refine lv_if_lt (tgt := 150) hx hb dX11_tell_102 (by decide) (fun _ => ?_) (fun c => absurd (by decide) c)
  refine lv_iinc (v := 3) (lv' := [(11, .int 3), (12, .int (-1)), (10, .int 0), (9, .int 1), (8, .int 0), (0, .ref a0), (1, .int 0), (2, .int x0), (3, .int 0), (4, .int 0), (5, .int (-1)), (6, .int (-1)), (7, .int (-1))]) hx hb dX11_tell_150 hl (k := 1) rfl (by decide +kernel) (by decide) rfl (fun ls hl => ?_)
  refine lv_goto (tgt := 81) hx hb dX11_tell_153 (by decide) ?_
  refine lv_iload hx hb dX11_tell_81 (lv_at hl 0 rfl) ?_
  refine lv_iconst (v := 3) hx hb dX11_tell_83 (by decide) ?_
  refine lv_icmp_ge (tgt := 156) hx hb dX11_tell_84 (by decide) (fun _ => ?_) (fun c => absurd (by decide) c)
  refine lv_aload_n hx hb dX11_tell_156 rfl (lv_at hl 5 rfl) ?_
  refine z_get (v := .ref a7) hx hb hg hown hK hP i_X11 rfl 0 rfl 1 (by decide) mt305 e7 dX11_tell_157 ?_
  refine lv_iload hx hb dX11_tell_160 (lv_at hl 4 rfl) ?_
  refine lv_iload hx hb dX11_tell_162 (lv_at hl 3 rfl) ?_
  refine lv_bipush (v := 81) hx hb dX11_tell_164 (by decide) ?_
  refine va_mmin hx hb (by rw [hml]; exact hl.1.symm) hown (hg _ mt485) (hg _ mt486) (hg _ mt15) (hg _ mt487) (Nat.le_of_ble_eq_true rfl) (Nat.le_of_ble_eq_true rfl) (Nat.le_of_ble_eq_true rfl) (Nat.le_of_ble_eq_true rfl) dX11_tell_166 ?_
  refine z_cst (v := 1) (by decide +kernel) ?_
  refine z_iast (j := 0) hx hb hK hP hD hS 1 rfl rfl (Nat.le_of_ble_eq_true rfl) (Nat.le_of_ble_eq_true rfl) dX11_tell_169 (fun ff23 H locs y24 hP hD hS => ?_)
  have hP : va_P K.1 classes [(a0, zO 9 9 g0), (a7, zI K 200 ff23), (a8, zI K 200 f8), (a2, zI K 200 (va_up f2 0 0)), (a3, zI K 200 (va_up f3 0 x0)), (a4, zI K 200 (va_up f4 0 0)), (a5, zI K 200 (va_up f5 0 0)), (a1, zO 7 6 (va_up g1 5 (.int 1))), (a6, zI K 600 ff12)] H := hP
  have hD : va_D A [(a0, zO 9 9 g0), (a7, zI K 200 ff23), (a8, zI K 200 f8), (a2, zI K 200 (va_up f2 0 0)), (a3, zI K 200 (va_up f3 0 x0)), (a4, zI K 200 (va_up f4 0 0)), (a5, zI K 200 (va_up f5 0 0)), (a1, zO 7 6 (va_up g1 5 (.int 1))), (a6, zI K 600 ff12)] := hD
  refine lv_aload_n hx hb dX11_tell_170 rfl (lv_at hl 5 rfl) ?_
  refine z_get (v := .ref a8) hx hb hg hown hK hP i_X11 rfl 0 rfl 2 (by decide) mt306 e8 dX11_tell_171 ?_
  refine lv_iload hx hb dX11_tell_174 (lv_at hl 4 rfl) ?_
  refine lv_iload hx hb dX11_tell_176 (lv_at hl 2 rfl) ?_
  refine z_iast (j := 0) hx hb hK hP hD hS 2 rfl rfl (Nat.le_of_ble_eq_true rfl) (Nat.le_of_ble_eq_true rfl) dX11_tell_178 (fun ff25 H locs y26 hP hD hS => ?_)
  have hP : va_P K.1 classes [(a0, zO 9 9 g0), (a7, zI K 200 ff23), (a8, zI K 200 ff25), (a2, zI K 200 (va_up f2 0 0)), (a3, zI K 200 (va_up f3 0 x0)), (a4, zI K 200 (va_up f4 0 0)), (a5, zI K 200 (va_up f5 0 0)), (a1, zO 7 6 (va_up g1 5 (.int 1))), (a6, zI K 600 ff12)] H := hP
  have hD : va_D A [(a0, zO 9 9 g0), (a7, zI K 200 ff23), (a8, zI K 200 ff25), (a2, zI K 200 (va_up f2 0 0)), (a3, zI K 200 (va_up f3 0 x0)), (a4, zI K 200 (va_up f4 0 0)), (a5, zI K 200 (va_up f5 0 0)), (a1, zO 7 6 (va_up g1 5 (.int 1))), (a6, zI K 600 ff12)] := hD
  refine lv_iload hx hb dX11_tell_179 (lv_at hl 4 rfl) ?_
  subst y26
  subst y24
  subst y13
  subst y8
  have hP9 : va_P K.1 classes [(a0, zO 9 9 g0), (a1, zO 7 6 (va_up g1 5 (.int 1))), (a2, zI K 200 (va_up f2 0 0)), (a3, zI K 200 (va_up f3 0 x0)), (a4, zI K 200 (va_up f4 0 0)), (a5, zI K 200 (va_up f5 0 0)), (a6, zI K 600 (va_up (va_up (va_up (va_up (va_up (va_up f6 0 (-1)) 1 (-1)) 2 (-1)) 0 (-1)) 1 (-1)) 2 (-1))), (a7, zI K 200 (va_up f7 0 1)), (a8, zI K 200 (va_up f8 0 0))] H := hP.sub [0, 7, 3, 4, 5, 6, 8, 1, 2] rfl
  have hD9 : va_D A [(a0, zO 9 9 g0), (a1, zO 7 6 (va_up g1 5 (.int 1))), (a2, zI K 200 (va_up f2 0 0)), (a3, zI K 200 (va_up f3 0 x0)), (a4, zI K 200 (va_up f4 0 0)), (a5, zI K 200 (va_up f5 0 0)), (a6, zI K 600 (va_up (va_up (va_up (va_up (va_up (va_up f6 0 (-1)) 1 (-1)) 2 (-1)) 0 (-1)) 1 (-1)) 2 (-1))), (a7, zI K 200 (va_up f7 0 1)), (a8, zI K 200 (va_up f8 0 0))] := hD.sub [0, 7, 3, 4, 5, 6, 8, 1, 2] (by decide) rfl
  exact z_iret hx hb hr (fun _ => 0) rfl hP9 hD9 hS (Nat.le_of_ble_eq_true rfl) (Nat.le_of_ble_eq_true rfl) hlocks dX11_tell_181
set_option maxHeartbeats 4000000 in
set_option maxRecDepth 100000 in
theorem cX11_num_1 (l : Launch) (K : zK) (sz : Nat) (a0 : Nat) (a1 : Nat) (a2 : Nat) (a3 : Nat) (a4 : Nat) (a5 : Nat) (a6 : Nat) (a7 : Nat) (a8 : Nat) (g0 : Nat → Value) (g1 : Nat → Value) (f2 : Nat → Int32) (f3 : Nat → Int32) (f4 : Nat → Int32) (f5 : Nat → Int32) (f6 : Nat → Int32) (f7 : Nat → Int32) (f8 : Nat → Int32) (x0 : Int32) (e0 : g0 0 = (.ref a1)) (e1 : g1 0 = (.ref a2)) (e2 : g1 5 = (.int 0)) (e3 : g1 1 = (.ref a3)) (e4 : g1 2 = (.ref a4)) (e5 : g1 3 = (.ref a5)) (e6 : g1 4 = (.ref a6)) (e7 : g0 1 = (.ref a7)) (e8 : g0 2 = (.ref a8)) : Met l yX11_num (Cond.code yX11_num cX11_num 2 (some .int) :: WG) { frames := 3, cells := 0, slots := 0, locals := 78 } (zPre K [(a0, zO 9 9 g0), (a1, zO 7 6 g1), (a2, zI K 200 f2), (a3, zI K 200 f3), (a4, zI K 200 f4), (a5, zI K 200 f5), (a6, zI K 600 f6), (a7, zI K 200 f7), (a8, zI K 200 f8)] sz [.ref a0, .int x0]) (va_Qi (fun (r : Int32) (_ : Nat → Nat) => r = 0) (zB K (va_A [(a0, zO 9 9 g0), (a1, zO 7 6 g1), (a2, zI K 200 f2), (a3, zI K 200 f3), (a4, zI K 200 f4), (a5, zI K 200 f5), (a6, zI K 600 f6), (a7, zI K 200 f7), (a8, zI K 200 f8)] sz) (fun u : Nat → Nat => [])) (va_A [(a0, zO 9 9 g0), (a1, zO 7 6 g1), (a2, zI K 200 f2), (a3, zI K 200 f3), (a4, zI K 200 f4), (a5, zI K 200 f5), (a6, zI K 600 f6), (a7, zI K 200 f7), (a8, zI K 200 f8)] sz)) 0 0 (va_A [(a0, zO 9 9 g0), (a1, zO 7 6 g1), (a2, zI K 200 f2), (a3, zI K 200 f3), (a4, zI K 200 f4), (a5, zI K 200 f5), (a6, zI K 600 f6), (a7, zI K 200 f7), (a8, zI K 200 f8)] sz) := by
  refine z_met (Qc := fun A => (va_Qi (fun (r : Int32) (_ : Nat → Nat) => r = 0) (zB K A (fun u : Nat → Nat => [])) A)) (by decide +kernel) (Nat.le_of_ble_eq_true rfl) ?_
  intro p e s m args below meth c A ls H hx hb hr hg hown hlocks hml hin hK hP hD hA hS hZ hl
  have hown : s.vm.findClass RX11 = some m.cls := hown
  have hl : lv_has ls 2 [(0, .ref a0), (1, .int x0)] := hl
  refine lv_aload_n hx hb dX11_num_0 rfl (lv_at hl 0 rfl) ?_
  refine lv_iconst (v := 0) hx hb dX11_num_1 (by decide) ?_
  refine lv_iload_n hx hb dX11_num_2 rfl (lv_at hl 1 rfl) ?_
  refine lv_iconst (v := 0) hx hb dX11_num_3 (by decide) ?_
  refine lv_iconst (v := 0) hx hb dX11_num_4 (by decide) ?_
  refine lv_iconst (v := (-1)) hx hb dX11_num_5 (by decide) ?_
  refine lv_iconst (v := (-1)) hx hb dX11_num_6 (by decide) ?_
  refine lv_iconst (v := (-1)) hx hb dX11_num_7 (by decide) ?_
  refine z_calli [(a0, zO 9 9 g0), (a1, zO 7 6 g1), (a2, zI K 200 f2), (a3, zI K 200 f3), (a4, zI K 200 f4), (a5, zI K 200 f5), (a6, zI K 600 f6), (a7, zI K 200 f7), (a8, zI K 200 f8)] [] [0, 1, 2, 3, 4, 5, 6, 7, 8] [] hP hD hS hA rfl rfl (by decide) (by decide) (by decide +kernel) 0 0 rfl rfl (fun hPc hDc hF => z_runV (As := [.int 0, .int x0, .int 0, .int 0, .int (-1), .int (-1), .int (-1)]) (rest := []) ⟨hx, hb, hml, hown, hg⟩ (cX11_tell_1 l K H.size a0 a1 a2 a3 a4 a5 a6 a7 a8 g0 g1 f2 f3 f4 f5 f6 f7 f8 x0 e0 e1 e2 e3 e4 e5 e6 e7 e8) kV_RX11_68 hd_X11_tell rfl rfl ⟨(Nat.le_of_ble_eq_true rfl), (Nat.le_of_ble_eq_true rfl)⟩ hK hS hZ hPc hDc hF 0 rfl rfl rfl hl.1 rfl (Nat.le_of_ble_eq_true rfl) dX11_num_8 ⟨(Nat.le_of_ble_eq_true rfl), (Nat.le_of_ble_eq_true rfl)⟩) (fun r3 u1 H locs w2 hP hD hS => ?_)
  subst w2
  have hP : va_P K.1 classes [(a0, zO 9 9 g0), (a1, zO 7 6 (va_up g1 5 (.int 1))), (a2, zI K 200 (va_up f2 0 0)), (a3, zI K 200 (va_up f3 0 x0)), (a4, zI K 200 (va_up f4 0 0)), (a5, zI K 200 (va_up f5 0 0)), (a6, zI K 600 (va_up (va_up (va_up (va_up (va_up (va_up f6 0 (-1)) 1 (-1)) 2 (-1)) 0 (-1)) 1 (-1)) 2 (-1))), (a7, zI K 200 (va_up f7 0 1)), (a8, zI K 200 (va_up f8 0 0))] H := hP
  have hD : va_D A [(a0, zO 9 9 g0), (a1, zO 7 6 (va_up g1 5 (.int 1))), (a2, zI K 200 (va_up f2 0 0)), (a3, zI K 200 (va_up f3 0 x0)), (a4, zI K 200 (va_up f4 0 0)), (a5, zI K 200 (va_up f5 0 0)), (a6, zI K 600 (va_up (va_up (va_up (va_up (va_up (va_up f6 0 (-1)) 1 (-1)) 2 (-1)) 0 (-1)) 1 (-1)) 2 (-1))), (a7, zI K 200 (va_up f7 0 1)), (a8, zI K 200 (va_up f8 0 0))] := hD
  obtain ⟨ff4, y5⟩ : ∃ z, z = ((va_up (va_up (va_up (va_up (va_up (va_up f6 0 (-1)) 1 (-1)) 2 (-1)) 0 (-1)) 1 (-1)) 2 (-1)) : Nat → Int32) := ⟨_, rfl⟩
  rw [← y5] at hP hD
  subst y5
  have hP9 : va_P K.1 classes [] H := hP.sub [] rfl
  have hD9 : va_D A [] := hD.sub [] (by decide) rfl
  exact z_iret hx hb hr (fun _ => 0) rfl hP9 hD9 hS (Nat.le_of_ble_eq_true rfl) (Nat.le_of_ble_eq_true rfl) hlocks dX11_num_11
set_option maxHeartbeats 4000000 in
set_option maxRecDepth 100000 in
theorem cL_num_1 (l : Launch) (hl9 : l.stackTraces = false) (K : zK) (sz : Nat) (a0 : Nat) (a1 : Nat) (a2 : Nat) (a3 : Nat) (a4 : Nat) (a5 : Nat) (a6 : Nat) (a7 : Nat) (a8 : Nat) (a9 : Nat) (g0 : Nat → Value) (g2 : Nat → Value) (f3 : Nat → Int32) (f4 : Nat → Int32) (f5 : Nat → Int32) (f6 : Nat → Int32) (f7 : Nat → Int32) (f8 : Nat → Int32) (f9 : Nat → Int32) (f1 : Nat → Int64) (x0 : Int32) (e0 : g0 0 = (.ref a2)) (e1 : g2 0 = (.ref a3)) (e2 : g2 5 = (.int 0)) (e3 : g2 1 = (.ref a4)) (e4 : g2 2 = (.ref a5)) (e5 : g2 3 = (.ref a6)) (e6 : g2 4 = (.ref a7)) (e7 : g0 1 = (.ref a8)) (e8 : g0 2 = (.ref a9)) : vx_Met l yL_num (Cond.codeWith yL_num cL_num 4 (some .int) [(0, 9, 12, 13)] :: WG) { frames := 4, cells := 0, slots := 0, locals := 99 } (zPre K [(a0, zO 9 9 g0), (a2, zO 7 6 g2), (a3, zI K 200 f3), (a4, zI K 200 f4), (a5, zI K 200 f5), (a6, zI K 200 f6), (a7, zI K 600 f7), (a8, zI K 200 f8), (a9, zI K 200 f9), (a1, zJ K 1 f1)] sz [.ref a0, .int x0, .ref a1]) (va_Qi (fun (r : Int32) (_ : Nat → Nat) => r = 0) (zB K (va_A [(a0, zO 9 9 g0), (a2, zO 7 6 g2), (a3, zI K 200 f3), (a4, zI K 200 f4), (a5, zI K 200 f5), (a6, zI K 200 f6), (a7, zI K 600 f7), (a8, zI K 200 f8), (a9, zI K 200 f9), (a1, zJ K 1 f1)] sz) (fun u : Nat → Nat => [(a1, zJ K 1 (va_up f1 0 0))])) (va_A [(a0, zO 9 9 g0), (a2, zO 7 6 g2), (a3, zI K 200 f3), (a4, zI K 200 f4), (a5, zI K 200 f5), (a6, zI K 200 f6), (a7, zI K 600 f7), (a8, zI K 200 f8), (a9, zI K 200 f9), (a1, zJ K 1 f1)] sz)) (vx_X (fun _ : Unit => False) (fun _ _ _ => True) (va_A [(a0, zO 9 9 g0), (a2, zO 7 6 g2), (a3, zI K 200 f3), (a4, zI K 200 f4), (a5, zI K 200 f5), (a6, zI K 200 f6), (a7, zI K 600 f7), (a8, zI K 200 f8), (a9, zI K 200 f9), (a1, zJ K 1 f1)] sz)) 0 0 (va_A [(a0, zO 9 9 g0), (a2, zO 7 6 g2), (a3, zI K 200 f3), (a4, zI K 200 f4), (a5, zI K 200 f5), (a6, zI K 200 f6), (a7, zI K 600 f7), (a8, zI K 200 f8), (a9, zI K 200 f9), (a1, zJ K 1 f1)] sz) := by
  refine z_hmet (Qc := fun A => (va_Qi (fun (r : Int32) (_ : Nat → Nat) => r = 0) (zB K A (fun u : Nat → Nat => [(a1, zJ K 1 (va_up f1 0 0))])) A)) (XC := fun A => vx_X (fun _ : Unit => False) (fun _ _ _ => True) A) (by decide +kernel) (Nat.le_of_ble_eq_true rfl) ?_
  intro p e s m args below meth c A ls H hx hb hr hg hown hlocks hml hTab hK hP hD hA hS hZ hl
  have hown : s.vm.findClass RL = some m.cls := hown
  have hl : lv_has ls 4 [(0, .ref a0), (1, .int x0), (2, .ref a1)] := hl
  refine lv_aload_n hx hb dL_num_0 rfl (lv_at hl 2 rfl) ?_
  refine lv_iconst (v := 0) hx hb dL_num_1 (by decide) ?_
  refine lv_aload_n hx hb dL_num_2 rfl (lv_at hl 0 rfl) ?_
  refine lv_iload_n hx hb dL_num_3 rfl (lv_at hl 1 rfl) ?_
  refine z_calli [(a0, zO 9 9 g0), (a2, zO 7 6 g2), (a3, zI K 200 f3), (a4, zI K 200 f4), (a5, zI K 200 f5), (a6, zI K 200 f6), (a7, zI K 600 f7), (a8, zI K 200 f8), (a9, zI K 200 f9)] [(a1, zJ K 1 f1)] [0, 1, 2, 3, 4, 5, 6, 7, 8] [9] hP hD hS hA rfl rfl (by decide) (by decide) (by decide +kernel) 0 0 rfl rfl (fun hPc hDc hF => z_runV (As := [.int x0]) (rest := [.int 0, .ref a1]) ⟨hx, hb, hml, hown, hg⟩ (cX11_num_1 l K H.size a0 a2 a3 a4 a5 a6 a7 a8 a9 g0 g2 f3 f4 f5 f6 f7 f8 f9 x0 e0 e1 e2 e3 e4 e5 e6 e7 e8) kV_RL_7 hd_X11_num rfl rfl ⟨(Nat.le_of_ble_eq_true rfl), (Nat.le_of_ble_eq_true rfl)⟩ hK hS hZ hPc hDc hF 0 rfl rfl rfl hl.1 rfl (Nat.le_of_ble_eq_true rfl) dL_num_4 ⟨(Nat.le_of_ble_eq_true rfl), (Nat.le_of_ble_eq_true rfl)⟩) (fun r3 u1 H locs w2 hP hD hS => ?_)
  subst w2
  have hP : va_P K.1 classes [(a1, zJ K 1 f1)] H := hP
  have hD : va_D A [(a1, zJ K 1 f1)] := hD
  refine lv_i2l hx hb dL_num_7 rfl ?_
  refine z_cstl (v := 0) (by decide +kernel) ?_
  refine z_last (j := 0) hx hb hK hP hD hS 0 rfl rfl (Nat.le_of_ble_eq_true rfl) (Nat.le_of_ble_eq_true rfl) dL_num_8 (fun ff4 H locs y5 hP hD hS => ?_)
  have hP : va_P K.1 classes [(a1, zJ K 1 ff4)] H := hP
  have hD : va_D A [(a1, zJ K 1 ff4)] := hD
  refine lv_goto (tgt := 15) hx hb dL_num_9 (by decide) ?_
  refine lv_iconst (v := 0) hx hb dL_num_15 (by decide) ?_
  subst y5
  have hP9 : va_P K.1 classes [(a1, zJ K 1 (va_up f1 0 0))] H := hP.sub [0] rfl
  have hD9 : va_D A [(a1, zJ K 1 (va_up f1 0 0))] := hD.sub [0] (by decide) rfl
  exact z_iret hx hb hr (fun _ => 0) rfl hP9 hD9 hS (Nat.le_of_ble_eq_true rfl) (Nat.le_of_ble_eq_true rfl) hlocks dL_num_16
set_option maxHeartbeats 4000000 in
set_option maxRecDepth 100000 in
theorem cX12_can_1 (l : Launch) (K : zK) (sz : Nat) (a0 : Nat) (g0 : Nat → Value) : Met l yX12_can (Cond.code yX12_can cX12_can 2 (some .boolean) :: WG) { frames := 0, cells := 0, slots := 0, locals := 0 } (zPre K [(a0, zO 10 83 g0)] sz [.ref a0, .int 0]) (va_Qi (fun (r : Int32) (_ : Nat → Nat) => r = 1) (zB K (va_A [(a0, zO 10 83 g0)] sz) (fun u : Nat → Nat => [(a0, zO 10 83 (va_up g0 81 (.int 0)))])) (va_A [(a0, zO 10 83 g0)] sz)) 0 0 (va_A [(a0, zO 10 83 g0)] sz) := by
  refine z_met (Qc := fun A => (va_Qi (fun (r : Int32) (_ : Nat → Nat) => r = 1) (zB K A (fun u : Nat → Nat => [(a0, zO 10 83 (va_up g0 81 (.int 0)))])) A)) (by decide +kernel) (Nat.le_of_ble_eq_true rfl) ?_
  intro p e s m args below meth c A ls H hx hb hr hg hown hlocks hml hin hK hP hD hA hS hZ hl
  have hown : s.vm.findClass RX12 = some m.cls := hown
  have hl : lv_has ls 2 [(0, .ref a0), (1, .int 0)] := hl
  refine lv_aload_n hx hb dX12_can_0 rfl (lv_at hl 0 rfl) ?_
  refine lv_iload_n hx hb dX12_can_1 rfl (lv_at hl 1 rfl) ?_
  refine z_put hx hb hg hown hK hP hD hS i_X12 rfl tyX12_ok nmX12 0 rfl 81 (by decide) mt1361 rfl rfl rfl dX12_can_2 (fun gg1 H locs y2 hP hD hS => ?_)
  have hP : va_P K.1 classes [(a0, zO 10 83 gg1)] H := hP
  have hD : va_D A [(a0, zO 10 83 gg1)] := hD
  refine lv_iload_n hx hb dX12_can_5 rfl (lv_at hl 1 rfl) ?_
  refine lv_if_ne (tgt := 13) hx hb dX12_can_6 (by decide) (fun c => absurd (by decide) c) (fun _ => ?_)
  refine lv_iconst (v := 1) hx hb dX12_can_9 (by decide) ?_
  refine lv_goto (tgt := 14) hx hb dX12_can_10 (by decide) ?_
  subst y2
  have hP9 : va_P K.1 classes [(a0, zO 10 83 (va_up g0 81 (.int 0)))] H := hP.sub [0] rfl
  have hD9 : va_D A [(a0, zO 10 83 (va_up g0 81 (.int 0)))] := hD.sub [0] (by decide) rfl
  exact z_zret hx hb hr rfl (fun _ => 0) rfl hP9 hD9 hS (Nat.le_of_ble_eq_true rfl) (Nat.le_of_ble_eq_true rfl) hlocks dX12_can_14
set_option maxHeartbeats 4000000 in
set_option maxRecDepth 100000 in
theorem cX12_tells_1 (l : Launch) (K : zK) (sz : Nat) (a0 : Nat) (a1 : Nat) (a2 : Nat) (a3 : Nat) (a4 : Nat) (a5 : Nat) (a6 : Nat) (a7 : Nat) (g0 : Nat → Value) (f1 : Nat → Int32) (f2 : Nat → Int32) (f3 : Nat → Int32) (f4 : Nat → Int32) (f5 : Nat → Int32) (f6 : Nat → Int32) (f7 : Nat → Int32) (x0 : Int32) (e0 : g0 1 = (.ref a1)) (e1 : g0 0 = (.int 0)) (e2 : g0 2 = (.ref a2)) (e3 : g0 3 = (.ref a3)) (e4 : g0 4 = (.ref a4)) (e5 : g0 6 = (.ref a5)) (e6 : g0 5 = (.ref a6)) (e7 : g0 7 = (.ref a7)) : Met l yX12_tells (Cond.code yX12_tells cX12_tells 11 (some .int) :: WG) { frames := 0, cells := 0, slots := 0, locals := 0 } (zPre K [(a0, zO 10 83 g0), (a1, zI K 200 f1), (a2, zI K 200 f2), (a3, zI K 200 f3), (a4, zI K 200 f4), (a5, zI K 600 f5), (a6, zI K 200 f6), (a7, zI K 200 f7)] sz [.ref a0, .int 0, .int x0, .int 0, .int (-1), .int (-1), .int (-1)]) (va_Qi (fun (r : Int32) (_ : Nat → Nat) => r = 0) (zB K (va_A [(a0, zO 10 83 g0), (a1, zI K 200 f1), (a2, zI K 200 f2), (a3, zI K 200 f3), (a4, zI K 200 f4), (a5, zI K 600 f5), (a6, zI K 200 f6), (a7, zI K 200 f7)] sz) (fun u : Nat → Nat => [(a0, zO 10 83 (va_up g0 0 (.int 1))), (a1, zI K 200 (va_up f1 0 0)), (a2, zI K 200 (va_up f2 0 x0)), (a3, zI K 200 (va_up f3 0 0)), (a4, zI K 200 (va_up f4 0 0)), (a5, zI K 600 (va_up (va_up (va_up f5 0 (-1)) 1 (-1)) 2 (-1))), (a6, zI K 200 (va_up f6 0 0)), (a7, zI K 200 (va_up f7 0 1))])) (va_A [(a0, zO 10 83 g0), (a1, zI K 200 f1), (a2, zI K 200 f2), (a3, zI K 200 f3), (a4, zI K 200 f4), (a5, zI K 600 f5), (a6, zI K 200 f6), (a7, zI K 200 f7)] sz)) 0 0 (va_A [(a0, zO 10 83 g0), (a1, zI K 200 f1), (a2, zI K 200 f2), (a3, zI K 200 f3), (a4, zI K 200 f4), (a5, zI K 600 f5), (a6, zI K 200 f6), (a7, zI K 200 f7)] sz) := by
  refine z_met (Qc := fun A => (va_Qi (fun (r : Int32) (_ : Nat → Nat) => r = 0) (zB K A (fun u : Nat → Nat => [(a0, zO 10 83 (va_up g0 0 (.int 1))), (a1, zI K 200 (va_up f1 0 0)), (a2, zI K 200 (va_up f2 0 x0)), (a3, zI K 200 (va_up f3 0 0)), (a4, zI K 200 (va_up f4 0 0)), (a5, zI K 600 (va_up (va_up (va_up f5 0 (-1)) 1 (-1)) 2 (-1))), (a6, zI K 200 (va_up f6 0 0)), (a7, zI K 200 (va_up f7 0 1))])) A)) (by decide +kernel) (Nat.le_of_ble_eq_true rfl) ?_
  intro p e s m args below meth c A ls H hx hb hr hg hown hlocks hml hin hK hP hD hA hS hZ hl
  have hown : s.vm.findClass RX12 = some m.cls := hown
  have hl : lv_has ls 11 [(0, .ref a0), (1, .int 0), (2, .int x0), (3, .int 0), (4, .int (-1)), (5, .int (-1)), (6, .int (-1))] := hl
  refine lv_aload_n hx hb dX12_tells_0 rfl (lv_at hl 0 rfl) ?_
  refine z_get (v := .ref a1) hx hb hg hown hK hP i_X12 rfl 0 rfl 1 (by decide) mt1281 e0 dX12_tells_1 ?_
  refine lv_aload_n hx hb dX12_tells_4 rfl (lv_at hl 0 rfl) ?_
  refine z_get (v := .int 0) hx hb hg hown hK hP i_X12 rfl 0 rfl 0 (by decide) mt1280 e1 dX12_tells_5 ?_
  refine lv_iload_n hx hb dX12_tells_8 rfl (lv_at hl 1 rfl) ?_
  refine z_iast (j := 0) hx hb hK hP hD hS 1 rfl rfl (Nat.le_of_ble_eq_true rfl) (Nat.le_of_ble_eq_true rfl) dX12_tells_9 (fun ff1 H locs y2 hP hD hS => ?_)
  have hP : va_P K.1 classes [(a0, zO 10 83 g0), (a1, zI K 200 ff1), (a2, zI K 200 f2), (a3, zI K 200 f3), (a4, zI K 200 f4), (a5, zI K 600 f5), (a6, zI K 200 f6), (a7, zI K 200 f7)] H := hP
  have hD : va_D A [(a0, zO 10 83 g0), (a1, zI K 200 ff1), (a2, zI K 200 f2), (a3, zI K 200 f3), (a4, zI K 200 f4), (a5, zI K 600 f5), (a6, zI K 200 f6), (a7, zI K 200 f7)] := hD
  refine lv_aload_n hx hb dX12_tells_10 rfl (lv_at hl 0 rfl) ?_
  refine z_get (v := .ref a2) hx hb hg hown hK hP i_X12 rfl 0 rfl 2 (by decide) mt1282 e2 dX12_tells_11 ?_
  refine lv_aload_n hx hb dX12_tells_14 rfl (lv_at hl 0 rfl) ?_
  refine z_get (v := .int 0) hx hb hg hown hK hP i_X12 rfl 0 rfl 0 (by decide) mt1280 e1 dX12_tells_15 ?_
  refine lv_iload_n hx hb dX12_tells_18 rfl (lv_at hl 2 rfl) ?_
  refine z_iast (j := 0) hx hb hK hP hD hS 2 rfl rfl (Nat.le_of_ble_eq_true rfl) (Nat.le_of_ble_eq_true rfl) dX12_tells_19 (fun ff3 H locs y4 hP hD hS => ?_)
  have hP : va_P K.1 classes [(a0, zO 10 83 g0), (a1, zI K 200 ff1), (a2, zI K 200 ff3), (a3, zI K 200 f3), (a4, zI K 200 f4), (a5, zI K 600 f5), (a6, zI K 200 f6), (a7, zI K 200 f7)] H := hP
  have hD : va_D A [(a0, zO 10 83 g0), (a1, zI K 200 ff1), (a2, zI K 200 ff3), (a3, zI K 200 f3), (a4, zI K 200 f4), (a5, zI K 600 f5), (a6, zI K 200 f6), (a7, zI K 200 f7)] := hD
  refine lv_aload_n hx hb dX12_tells_20 rfl (lv_at hl 0 rfl) ?_
  refine z_get (v := .ref a3) hx hb hg hown hK hP i_X12 rfl 0 rfl 3 (by decide) mt1283 e3 dX12_tells_21 ?_
  refine lv_aload_n hx hb dX12_tells_24 rfl (lv_at hl 0 rfl) ?_
  refine z_get (v := .int 0) hx hb hg hown hK hP i_X12 rfl 0 rfl 0 (by decide) mt1280 e1 dX12_tells_25 ?_
  refine lv_iload_n hx hb dX12_tells_28 rfl (lv_at hl 3 rfl) ?_
  refine z_iast (j := 0) hx hb hK hP hD hS 3 rfl rfl (Nat.le_of_ble_eq_true rfl) (Nat.le_of_ble_eq_true rfl) dX12_tells_29 (fun ff5 H locs y6 hP hD hS => ?_)
  have hP : va_P K.1 classes [(a0, zO 10 83 g0), (a1, zI K 200 ff1), (a2, zI K 200 ff3), (a3, zI K 200 ff5), (a4, zI K 200 f4), (a5, zI K 600 f5), (a6, zI K 200 f6), (a7, zI K 200 f7)] H := hP
  have hD : va_D A [(a0, zO 10 83 g0), (a1, zI K 200 ff1), (a2, zI K 200 ff3), (a3, zI K 200 ff5), (a4, zI K 200 f4), (a5, zI K 600 f5), (a6, zI K 200 f6), (a7, zI K 200 f7)] := hD
  refine lv_aload_n hx hb dX12_tells_30 rfl (lv_at hl 0 rfl) ?_
  refine z_get (v := .ref a4) hx hb hg hown hK hP i_X12 rfl 0 rfl 4 (by decide) mt1284 e4 dX12_tells_31 ?_
  refine lv_aload_n hx hb dX12_tells_34 rfl (lv_at hl 0 rfl) ?_
  refine z_get (v := .int 0) hx hb hg hown hK hP i_X12 rfl 0 rfl 0 (by decide) mt1280 e1 dX12_tells_35 ?_
  refine lv_iconst (v := 0) hx hb dX12_tells_38 (by decide) ?_
  refine z_iast (j := 0) hx hb hK hP hD hS 4 rfl rfl (Nat.le_of_ble_eq_true rfl) (Nat.le_of_ble_eq_true rfl) dX12_tells_39 (fun ff7 H locs y8 hP hD hS => ?_)
  have hP : va_P K.1 classes [(a0, zO 10 83 g0), (a1, zI K 200 ff1), (a2, zI K 200 ff3), (a3, zI K 200 ff5), (a4, zI K 200 ff7), (a5, zI K 600 f5), (a6, zI K 200 f6), (a7, zI K 200 f7)] H := hP
  have hD : va_D A [(a0, zO 10 83 g0), (a1, zI K 200 ff1), (a2, zI K 200 ff3), (a3, zI K 200 ff5), (a4, zI K 200 ff7), (a5, zI K 600 f5), (a6, zI K 200 f6), (a7, zI K 200 f7)] := hD
  refine lv_aload_n hx hb dX12_tells_40 rfl (lv_at hl 0 rfl) ?_
  refine z_get (v := .ref a5) hx hb hg hown hK hP i_X12 rfl 0 rfl 6 (by decide) mt1286 e5 dX12_tells_41 ?_
  refine lv_iconst (v := 3) hx hb dX12_tells_44 (by decide) ?_
  refine lv_aload_n hx hb dX12_tells_45 rfl (lv_at hl 0 rfl) ?_
  refine z_get (v := .int 0) hx hb hg hown hK hP i_X12 rfl 0 rfl 0 (by decide) mt1280 e1 dX12_tells_46 ?_
  refine lv_imul hx hb dX12_tells_49 ?_
  refine z_cst (v := 0) (by decide +kernel) ?_
  refine lv_iload hx hb dX12_tells_50 (lv_at hl 4 rfl) ?_
  refine z_iast (j := 0) hx hb hK hP hD hS 5 rfl rfl (Nat.le_of_ble_eq_true rfl) (Nat.le_of_ble_eq_true rfl) dX12_tells_52 (fun ff9 H locs y10 hP hD hS => ?_)
  have hP : va_P K.1 classes [(a0, zO 10 83 g0), (a1, zI K 200 ff1), (a2, zI K 200 ff3), (a3, zI K 200 ff5), (a4, zI K 200 ff7), (a5, zI K 600 ff9), (a6, zI K 200 f6), (a7, zI K 200 f7)] H := hP
  have hD : va_D A [(a0, zO 10 83 g0), (a1, zI K 200 ff1), (a2, zI K 200 ff3), (a3, zI K 200 ff5), (a4, zI K 200 ff7), (a5, zI K 600 ff9), (a6, zI K 200 f6), (a7, zI K 200 f7)] := hD
  refine lv_aload_n hx hb dX12_tells_53 rfl (lv_at hl 0 rfl) ?_
  refine z_get (v := .ref a5) hx hb hg hown hK hP i_X12 rfl 0 rfl 6 (by decide) mt1286 e5 dX12_tells_54 ?_
  refine lv_iconst (v := 3) hx hb dX12_tells_57 (by decide) ?_
  refine lv_aload_n hx hb dX12_tells_58 rfl (lv_at hl 0 rfl) ?_
  refine z_get (v := .int 0) hx hb hg hown hK hP i_X12 rfl 0 rfl 0 (by decide) mt1280 e1 dX12_tells_59 ?_
  refine lv_imul hx hb dX12_tells_62 ?_
  refine z_cst (v := 0) (by decide +kernel) ?_
  refine lv_iconst (v := 1) hx hb dX12_tells_63 (by decide) ?_
  refine lv_iadd hx hb dX12_tells_64 ?_
  refine z_cst (v := 1) (by decide +kernel) ?_
  refine lv_iload hx hb dX12_tells_65 (lv_at hl 5 rfl) ?_
  refine z_iast (j := 1) hx hb hK hP hD hS 5 rfl rfl (Nat.le_of_ble_eq_true rfl) (Nat.le_of_ble_eq_true rfl) dX12_tells_67 (fun ff11 H locs y12 hP hD hS => ?_)
  have hP : va_P K.1 classes [(a0, zO 10 83 g0), (a1, zI K 200 ff1), (a2, zI K 200 ff3), (a3, zI K 200 ff5), (a4, zI K 200 ff7), (a5, zI K 600 ff11), (a6, zI K 200 f6), (a7, zI K 200 f7)] H := hP
  have hD : va_D A [(a0, zO 10 83 g0), (a1, zI K 200 ff1), (a2, zI K 200 ff3), (a3, zI K 200 ff5), (a4, zI K 200 ff7), (a5, zI K 600 ff11), (a6, zI K 200 f6), (a7, zI K 200 f7)] := hD
  refine lv_aload_n hx hb dX12_tells_68 rfl (lv_at hl 0 rfl) ?_
  refine z_get (v := .ref a5) hx hb hg hown hK hP i_X12 rfl 0 rfl 6 (by decide) mt1286 e5 dX12_tells_69 ?_
  refine lv_iconst (v := 3) hx hb dX12_tells_72 (by decide) ?_
  refine lv_aload_n hx hb dX12_tells_73 rfl (lv_at hl 0 rfl) ?_
  refine z_get (v := .int 0) hx hb hg hown hK hP i_X12 rfl 0 rfl 0 (by decide) mt1280 e1 dX12_tells_74 ?_
  refine lv_imul hx hb dX12_tells_77 ?_
  refine z_cst (v := 0) (by decide +kernel) ?_
  refine lv_iconst (v := 2) hx hb dX12_tells_78 (by decide) ?_
  refine lv_iadd hx hb dX12_tells_79 ?_
  refine z_cst (v := 2) (by decide +kernel) ?_
  refine lv_iload hx hb dX12_tells_80 (lv_at hl 6 rfl) ?_
  refine z_iast (j := 2) hx hb hK hP hD hS 5 rfl rfl (Nat.le_of_ble_eq_true rfl) (Nat.le_of_ble_eq_true rfl) dX12_tells_82 (fun ff13 H locs y14 hP hD hS => ?_)
  have hP : va_P K.1 classes [(a0, zO 10 83 g0), (a1, zI K 200 ff1), (a2, zI K 200 ff3), (a3, zI K 200 ff5), (a4, zI K 200 ff7), (a5, zI K 600 ff13), (a6, zI K 200 f6), (a7, zI K 200 f7)] H := hP
  have hD : va_D A [(a0, zO 10 83 g0), (a1, zI K 200 ff1), (a2, zI K 200 ff3), (a3, zI K 200 ff5), (a4, zI K 200 ff7), (a5, zI K 600 ff13), (a6, zI K 200 f6), (a7, zI K 200 f7)] := hD
  refine lv_iconst (v := 1) hx hb dX12_tells_83 (by decide) ?_
  refine lv_istore (lv' := [(7, .int 1), (0, .ref a0), (1, .int 0), (2, .int x0), (3, .int 0), (4, .int (-1)), (5, .int (-1)), (6, .int (-1))]) hx hb dX12_tells_84 hl (by decide) rfl (fun ls hl => ?_)
  refine lv_iconst (v := 0) hx hb dX12_tells_86 (by decide) ?_
  refine lv_istore (lv' := [(8, .int 0), (7, .int 1), (0, .ref a0), (1, .int 0), (2, .int x0), (3, .int 0), (4, .int (-1)), (5, .int (-1)), (6, .int (-1))]) hx hb dX12_tells_87 hl (by decide) rfl (fun ls hl => ?_)
  refine lv_iconst (v := 0) hx hb dX12_tells_89 (by decide) ?_
  refine lv_istore (lv' := [(9, .int 0), (8, .int 0), (7, .int 1), (0, .ref a0), (1, .int 0), (2, .int x0), (3, .int 0), (4, .int (-1)), (5, .int (-1)), (6, .int (-1))]) hx hb dX12_tells_90 hl (by decide) rfl (fun ls hl => ?_)
  refine lv_iload hx hb dX12_tells_92 (lv_at hl 0 rfl) ?_
  refine lv_iconst (v := 3) hx hb dX12_tells_94 (by decide) ?_
  refine lv_icmp_ge (tgt := 158) hx hb dX12_tells_95 (by decide) (fun c => absurd c (by decide)) (fun _ => ?_)
  refine lv_aload_n hx hb dX12_tells_98 rfl (lv_at hl 3 rfl) ?_
  refine z_get (v := .ref a5) hx hb hg hown hK hP i_X12 rfl 0 rfl 6 (by decide) mt1286 e5 dX12_tells_99 ?_
  refine lv_iconst (v := 3) hx hb dX12_tells_102 (by decide) ?_
  refine lv_aload_n hx hb dX12_tells_103 rfl (lv_at hl 3 rfl) ?_
  refine z_get (v := .int 0) hx hb hg hown hK hP i_X12 rfl 0 rfl 0 (by decide) mt1280 e1 dX12_tells_104 ?_
  refine lv_imul hx hb dX12_tells_107 ?_
  refine z_cst (v := 0) (by decide +kernel) ?_
  refine lv_iload hx hb dX12_tells_108 (lv_at hl 0 rfl) ?_
  refine lv_iadd hx hb dX12_tells_110 ?_
  refine z_cst (v := 0) (by decide +kernel) ?_
  refine z_iald (v := (-1)) (j := 0) hx hb hK hP 5 rfl rfl (Nat.le_of_ble_eq_true rfl) (Nat.le_of_ble_eq_true rfl) (zu_of y14 (zu_ne (by decide) (zu_of y12 (zu_ne (by decide) (zu_of y10 zu_eq))))) dX12_tells_111 ?_
  refine lv_istore (lv' := [(10, .int (-1)), (9, .int 0), (8, .int 0), (7, .int 1), (0, .ref a0), (1, .int 0), (2, .int x0), (3, .int 0), (4, .int (-1)), (5, .int (-1)), (6, .int (-1))]) hx hb dX12_tells_112 hl (by decide) rfl (fun ls hl => ?_)
  refine lv_iload hx hb dX12_tells_114 (lv_at hl 2 rfl) ?_
  refine lv_iload hx hb dX12_tells_116 (lv_at hl 0 rfl) ?_
  refine lv_iconst (v := (-1)) hx hb dX12_tells_118 (by decide) ?_
  refine lv_icmp_ne (tgt := 126) hx hb dX12_tells_119 (by decide) (fun c => absurd (by decide) c) (fun _ => ?_)
  refine lv_iconst (v := 0) hx hb dX12_tells_122 (by decide) ?_
  refine lv_goto (tgt := 127) hx hb dX12_tells_123 (by decide) ?_
  refine lv_iadd hx hb dX12_tells_127 ?_
  refine z_cst (v := 0) (by decide +kernel) ?_
  refine lv_istore (lv' := [(8, .int 0), (10, .int (-1)), (9, .int 0), (7, .int 1), (0, .ref a0), (1, .int 0), (2, .int x0), (3, .int 0), (4, .int (-1)), (5, .int (-1)), (6, .int (-1))]) hx hb dX12_tells_128 hl (by decide) rfl (fun ls hl => ?_)
  refine lv_iload hx hb dX12_tells_130 (lv_at hl 3 rfl) ?_
  refine lv_iload hx hb dX12_tells_132 (lv_at hl 1 rfl) ?_
  refine lv_iconst (v := (-1)) hx hb dX12_tells_134 (by decide) ?_
  refine lv_icmp_ne (tgt := 142) hx hb dX12_tells_135 (by decide) (fun c => absurd (by decide) c) (fun _ => ?_)
  refine lv_iconst (v := 0) hx hb dX12_tells_138 (by decide) ?_
  refine lv_goto (tgt := 149) hx hb dX12_tells_139 (by decide) ?_
  refine lv_iadd hx hb dX12_tells_149 ?_
  refine z_cst (v := 1) (by decide +kernel) ?_
  refine lv_istore (lv' := [(7, .int 1), (8, .int 0), (10, .int (-1)), (9, .int 0), (0, .ref a0), (1, .int 0), (2, .int x0), (3, .int 0), (4, .int (-1)), (5, .int (-1)), (6, .int (-1))]) hx hb dX12_tells_150 hl (by decide) rfl (fun ls hl => ?_)
  refine lv_iinc (v := 1) (lv' := [(9, .int 1), (7, .int 1), (8, .int 0), (10, .int (-1)), (0, .ref a0), (1, .int 0), (2, .int x0), (3, .int 0), (4, .int (-1)), (5, .int (-1)), (6, .int (-1))]) hx hb dX12_tells_152 hl (k := 3) rfl (by decide +kernel) (by decide) rfl (fun ls hl => ?_)
  refine lv_goto (tgt := 92) hx hb dX12_tells_155 (by decide) ?_
  refine lv_iload hx hb dX12_tells_92 (lv_at hl 0 rfl) ?_
  refine lv_iconst (v := 3) hx hb dX12_tells_94 (by decide) ?_
  refine lv_icmp_ge (tgt := 158) hx hb dX12_tells_95 (by decide) (fun c => absurd c (by decide)) (fun _ => ?_)
  refine lv_aload_n hx hb dX12_tells_98 rfl (lv_at hl 4 rfl) ?_
  refine z_get (v := .ref a5) hx hb hg hown hK hP i_X12 rfl 0 rfl 6 (by decide) mt1286 e5 dX12_tells_99 ?_
  refine lv_iconst (v := 3) hx hb dX12_tells_102 (by decide) ?_
  refine lv_aload_n hx hb dX12_tells_103 rfl (lv_at hl 4 rfl) ?_
  refine z_get (v := .int 0) hx hb hg hown hK hP i_X12 rfl 0 rfl 0 (by decide) mt1280 e1 dX12_tells_104 ?_
  refine lv_imul hx hb dX12_tells_107 ?_
  refine z_cst (v := 0) (by decide +kernel) ?_
  refine lv_iload hx hb dX12_tells_108 (lv_at hl 0 rfl) ?_
  refine lv_iadd hx hb dX12_tells_110 ?_
  refine z_cst (v := 1) (by decide +kernel) ?_
  refine z_iald (v := (-1)) (j := 1) hx hb hK hP 5 rfl rfl (Nat.le_of_ble_eq_true rfl) (Nat.le_of_ble_eq_true rfl) (zu_of y14 (zu_ne (by decide) (zu_of y12 zu_eq))) dX12_tells_111 ?_
  refine lv_istore (lv' := [(10, .int (-1)), (9, .int 1), (7, .int 1), (8, .int 0), (0, .ref a0), (1, .int 0), (2, .int x0), (3, .int 0), (4, .int (-1)), (5, .int (-1)), (6, .int (-1))]) hx hb dX12_tells_112 hl (by decide) rfl (fun ls hl => ?_)
  refine lv_iload hx hb dX12_tells_114 (lv_at hl 3 rfl) ?_
  refine lv_iload hx hb dX12_tells_116 (lv_at hl 0 rfl) ?_
  refine lv_iconst (v := (-1)) hx hb dX12_tells_118 (by decide) ?_
  refine lv_icmp_ne (tgt := 126) hx hb dX12_tells_119 (by decide) (fun c => absurd (by decide) c) (fun _ => ?_)
  refine lv_iconst (v := 0) hx hb dX12_tells_122 (by decide) ?_
  refine lv_goto (tgt := 127) hx hb dX12_tells_123 (by decide) ?_
  refine lv_iadd hx hb dX12_tells_127 ?_
  refine z_cst (v := 0) (by decide +kernel) ?_
  refine lv_istore (lv' := [(8, .int 0), (10, .int (-1)), (9, .int 1), (7, .int 1), (0, .ref a0), (1, .int 0), (2, .int x0), (3, .int 0), (4, .int (-1)), (5, .int (-1)), (6, .int (-1))]) hx hb dX12_tells_128 hl (by decide) rfl (fun ls hl => ?_)
  refine lv_iload hx hb dX12_tells_130 (lv_at hl 3 rfl) ?_
  refine lv_iload hx hb dX12_tells_132 (lv_at hl 1 rfl) ?_
  refine lv_iconst (v := (-1)) hx hb dX12_tells_134 (by decide) ?_
  refine lv_icmp_ne (tgt := 142) hx hb dX12_tells_135 (by decide) (fun c => absurd (by decide) c) (fun _ => ?_)
  refine lv_iconst (v := 0) hx hb dX12_tells_138 (by decide) ?_
  refine lv_goto (tgt := 149) hx hb dX12_tells_139 (by decide) ?_
  refine lv_iadd hx hb dX12_tells_149 ?_
  refine z_cst (v := 1) (by decide +kernel) ?_
  refine lv_istore (lv' := [(7, .int 1), (8, .int 0), (10, .int (-1)), (9, .int 1), (0, .ref a0), (1, .int 0), (2, .int x0), (3, .int 0), (4, .int (-1)), (5, .int (-1)), (6, .int (-1))]) hx hb dX12_tells_150 hl (by decide) rfl (fun ls hl => ?_)
  refine lv_iinc (v := 2) (lv' := [(9, .int 2), (7, .int 1), (8, .int 0), (10, .int (-1)), (0, .ref a0), (1, .int 0), (2, .int x0), (3, .int 0), (4, .int (-1)), (5, .int (-1)), (6, .int (-1))]) hx hb dX12_tells_152 hl (k := 3) rfl (by decide +kernel) (by decide) rfl (fun ls hl => ?_)
  refine lv_goto (tgt := 92) hx hb dX12_tells_155 (by decide) ?_
  refine lv_iload hx hb dX12_tells_92 (lv_at hl 0 rfl) ?_
  refine lv_iconst (v := 3) hx hb dX12_tells_94 (by decide) ?_
  refine lv_icmp_ge (tgt := 158) hx hb dX12_tells_95 (by decide) (fun c => absurd c (by decide)) (fun _ => ?_)
  refine lv_aload_n hx hb dX12_tells_98 rfl (lv_at hl 4 rfl) ?_
  refine z_get (v := .ref a5) hx hb hg hown hK hP i_X12 rfl 0 rfl 6 (by decide) mt1286 e5 dX12_tells_99 ?_
  refine lv_iconst (v := 3) hx hb dX12_tells_102 (by decide) ?_
  refine lv_aload_n hx hb dX12_tells_103 rfl (lv_at hl 4 rfl) ?_
  refine z_get (v := .int 0) hx hb hg hown hK hP i_X12 rfl 0 rfl 0 (by decide) mt1280 e1 dX12_tells_104 ?_
  refine lv_imul hx hb dX12_tells_107 ?_
  refine z_cst (v := 0) (by decide +kernel) ?_
  refine lv_iload hx hb dX12_tells_108 (lv_at hl 0 rfl) ?_
  refine lv_iadd hx hb dX12_tells_110 ?_
  refine z_cst (v := 2) (by decide +kernel) ?_
  refine z_iald (v := (-1)) (j := 2) hx hb hK hP 5 rfl rfl (Nat.le_of_ble_eq_true rfl) (Nat.le_of_ble_eq_true rfl) (zu_of y14 zu_eq) dX12_tells_111 ?_
  refine lv_istore (lv' := [(10, .int (-1)), (9, .int 2), (7, .int 1), (8, .int 0), (0, .ref a0), (1, .int 0), (2, .int x0), (3, .int 0), (4, .int (-1)), (5, .int (-1)), (6, .int (-1))]) hx hb dX12_tells_112 hl (by decide) rfl (fun ls hl => ?_)
  refine lv_iload hx hb dX12_tells_114 (lv_at hl 3 rfl) ?_
  refine lv_iload hx hb dX12_tells_116 (lv_at hl 0 rfl) ?_
  refine lv_iconst (v := (-1)) hx hb dX12_tells_118 (by decide) ?_
  refine lv_icmp_ne (tgt := 126) hx hb dX12_tells_119 (by decide) (fun c => absurd (by decide) c) (fun _ => ?_)
  refine lv_iconst (v := 0) hx hb dX12_tells_122 (by decide) ?_
  refine lv_goto (tgt := 127) hx hb dX12_tells_123 (by decide) ?_
  refine lv_iadd hx hb dX12_tells_127 ?_
  refine z_cst (v := 0) (by decide +kernel) ?_
  refine lv_istore (lv' := [(8, .int 0), (10, .int (-1)), (9, .int 2), (7, .int 1), (0, .ref a0), (1, .int 0), (2, .int x0), (3, .int 0), (4, .int (-1)), (5, .int (-1)), (6, .int (-1))]) hx hb dX12_tells_128 hl (by decide) rfl (fun ls hl => ?_)
  refine lv_iload hx hb dX12_tells_130 (lv_at hl 3 rfl) ?_
  refine lv_iload hx hb dX12_tells_132 (lv_at hl 1 rfl) ?_
  refine lv_iconst (v := (-1)) hx hb dX12_tells_134 (by decide) ?_
  refine lv_icmp_ne (tgt := 142) hx hb dX12_tells_135 (by decide) (fun c => absurd (by decide) c) (fun _ => ?_)
  refine lv_iconst (v := 0) hx hb dX12_tells_138 (by decide) ?_
  refine lv_goto (tgt := 149) hx hb dX12_tells_139 (by decide) ?_
  refine lv_iadd hx hb dX12_tells_149 ?_
  refine z_cst (v := 1) (by decide +kernel) ?_
  refine lv_istore (lv' := [(7, .int 1), (8, .int 0), (10, .int (-1)), (9, .int 2), (0, .ref a0), (1, .int 0), (2, .int x0), (3, .int 0), (4, .int (-1)), (5, .int (-1)), (6, .int (-1))]) hx hb dX12_tells_150 hl (by decide) rfl (fun ls hl => ?_)
  refine lv_iinc (v := 3) (lv' := [(9, .int 3), (7, .int 1), (8, .int 0), (10, .int (-1)), (0, .ref a0), (1, .int 0), (2, .int x0), (3, .int 0), (4, .int (-1)), (5, .int (-1)), (6, .int (-1))]) hx hb dX12_tells_152 hl (k := 3) rfl (by decide +kernel) (by decide) rfl (fun ls hl => ?_)
  refine lv_goto (tgt := 92) hx hb dX12_tells_155 (by decide) ?_
  refine lv_iload hx hb dX12_tells_92 (lv_at hl 0 rfl) ?_
  refine lv_iconst (v := 3) hx hb dX12_tells_94 (by decide) ?_
  refine lv_icmp_ge (tgt := 158) hx hb dX12_tells_95 (by decide) (fun _ => ?_) (fun c => absurd (by decide) c)
  refine lv_aload_n hx hb dX12_tells_158 rfl (lv_at hl 4 rfl) ?_
  refine z_get (v := .ref a6) hx hb hg hown hK hP i_X12 rfl 0 rfl 5 (by decide) mt1285 e6 dX12_tells_159 ?_
  refine lv_aload_n hx hb dX12_tells_162 rfl (lv_at hl 4 rfl) ?_
  refine z_get (v := .int 0) hx hb hg hown hK hP i_X12 rfl 0 rfl 0 (by decide) mt1280 e1 dX12_tells_163 ?_
  refine lv_iload hx hb dX12_tells_166 (lv_at hl 2 rfl) ?_
  refine z_iast (j := 0) hx hb hK hP hD hS 6 rfl rfl (Nat.le_of_ble_eq_true rfl) (Nat.le_of_ble_eq_true rfl) dX12_tells_168 (fun ff15 H locs y16 hP hD hS => ?_)
  have hP : va_P K.1 classes [(a0, zO 10 83 g0), (a1, zI K 200 ff1), (a2, zI K 200 ff3), (a3, zI K 200 ff5), (a4, zI K 200 ff7), (a5, zI K 600 ff13), (a6, zI K 200 ff15), (a7, zI K 200 f7)] H := hP
  have hD : va_D A [(a0, zO 10 83 g0), (a1, zI K 200 ff1), (a2, zI K 200 ff3), (a3, zI K 200 ff5), (a4, zI K 200 ff7), (a5, zI K 600 ff13), (a6, zI K 200 ff15), (a7, zI K 200 f7)] := hD
  refine lv_aload_n hx hb dX12_tells_169 rfl (lv_at hl 4 rfl) ?_
  refine z_get (v := .ref a7) hx hb hg hown hK hP i_X12 rfl 0 rfl 7 (by decide) mt1287 e7 dX12_tells_170 ?_
  refine lv_aload_n hx hb dX12_tells_173 rfl (lv_at hl 4 rfl) ?_
  refine z_get (v := .int 0) hx hb hg hown hK hP i_X12 rfl 0 rfl 0 (by decide) mt1280 e1 dX12_tells_174 ?_
  refine lv_iload hx hb dX12_tells_177 (lv_at hl 1 rfl) ?_
  refine lv_sipush (v := 1000) hx hb dX12_tells_179 (by decide) ?_
  refine lv_icmp_le (tgt := 191) hx hb dX12_tells_182 (by decide) (fun _ => ?_) (fun c => absurd (by decide) c)
  refine lv_iload hx hb dX12_tells_191 (lv_at hl 1 rfl) ?_
  refine z_iast (j := 0) hx hb hK hP hD hS 7 rfl rfl (Nat.le_of_ble_eq_true rfl) (Nat.le_of_ble_eq_true rfl) dX12_tells_193 (fun ff17 H locs y18 hP hD hS => ?_)
  have hP : va_P K.1 classes [(a0, zO 10 83 g0), (a1, zI K 200 ff1), (a2, zI K 200 ff3), (a3, zI K 200 ff5), (a4, zI K 200 ff7), (a5, zI K 600 ff13), (a6, zI K 200 ff15), (a7, zI K 200 ff17)] H := hP
  have hD : va_D A [(a0, zO 10 83 g0), (a1, zI K 200 ff1), (a2, zI K 200 ff3), (a3, zI K 200 ff5), (a4, zI K 200 ff7), (a5, zI K 600 ff13), (a6, zI K 200 ff15), (a7, zI K 200 ff17)] := hD
  refine lv_aload_n hx hb dX12_tells_194 rfl (lv_at hl 4 rfl) ?_
  refine lv_dup hx hb dX12_tells_195 rfl ?_
  refine z_get (v := .int 0) hx hb hg hown hK hP i_X12 rfl 0 rfl 0 (by decide) mt1280 e1 dX12_tells_196 ?_
  refine lv_iconst (v := 1) hx hb dX12_tells_199 (by decide) ?_
  refine lv_iadd hx hb dX12_tells_200 ?_
  refine z_cst (v := 1) (by decide +kernel) ?_
  refine z_put hx hb hg hown hK hP hD hS i_X12 rfl tyX12_ok nmX12 0 rfl 0 (by decide) mt1280 rfl rfl rfl dX12_tells_201 (fun gg19 H locs y20 hP hD hS => ?_)
  have hP : va_P K.1 classes [(a0, zO 10 83 gg19), (a1, zI K 200 ff1), (a2, zI K 200 ff3), (a3, zI K 200 ff5), (a4, zI K 200 ff7), (a5, zI K 600 ff13), (a6, zI K 200 ff15), (a7, zI K 200 ff17)] H := hP
  have hD : va_D A [(a0, zO 10 83 gg19), (a1, zI K 200 ff1), (a2, zI K 200 ff3), (a3, zI K 200 ff5), (a4, zI K 200 ff7), (a5, zI K 600 ff13), (a6, zI K 200 ff15), (a7, zI K 200 ff17)] := hD
  refine lv_aload_n hx hb dX12_tells_204 rfl (lv_at hl 4 rfl) ?_
  refine z_get (v := .int 1) hx hb hg hown hK hP i_X12 rfl 0 rfl 0 (by decide) mt1280 (zu_of y20 zu_eq) dX12_tells_205 ?_
  refine lv_iconst (v := 1) hx hb dX12_tells_208 (by decide) ?_
  refine lv_isub hx hb dX12_tells_209 ?_
  refine z_cst (v := 0) (by decide +kernel) ?_
  subst y20
  subst y18
  subst y16
  subst y14
  subst y12
  subst y10
  subst y8
  subst y6
  subst y4
  subst y2
  have hP9 : va_P K.1 classes [(a0, zO 10 83 (va_up g0 0 (.int 1))), (a1, zI K 200 (va_up f1 0 0)), (a2, zI K 200 (va_up f2 0 x0)), (a3, zI K 200 (va_up f3 0 0)), (a4, zI K 200 (va_up f4 0 0)), (a5, zI K 600 (va_up (va_up (va_up f5 0 (-1)) 1 (-1)) 2 (-1))), (a6, zI K 200 (va_up f6 0 0)), (a7, zI K 200 (va_up f7 0 1))] H := hP.sub [0, 1, 2, 3, 4, 5, 6, 7] rfl
  have hD9 : va_D A [(a0, zO 10 83 (va_up g0 0 (.int 1))), (a1, zI K 200 (va_up f1 0 0)), (a2, zI K 200 (va_up f2 0 x0)), (a3, zI K 200 (va_up f3 0 0)), (a4, zI K 200 (va_up f4 0 0)), (a5, zI K 600 (va_up (va_up (va_up f5 0 (-1)) 1 (-1)) 2 (-1))), (a6, zI K 200 (va_up f6 0 0)), (a7, zI K 200 (va_up f7 0 1))] := hD.sub [0, 1, 2, 3, 4, 5, 6, 7] (by decide) rfl
  exact z_iret hx hb hr (fun _ => 0) rfl hP9 hD9 hS (Nat.le_of_ble_eq_true rfl) (Nat.le_of_ble_eq_true rfl) hlocks dX12_tells_210
set_option maxHeartbeats 4000000 in
set_option maxRecDepth 100000 in
theorem cX12_num_1 (l : Launch) (K : zK) (sz : Nat) (a0 : Nat) (a1 : Nat) (a2 : Nat) (a3 : Nat) (a4 : Nat) (a5 : Nat) (a6 : Nat) (a7 : Nat) (g0 : Nat → Value) (f1 : Nat → Int32) (f2 : Nat → Int32) (f3 : Nat → Int32) (f4 : Nat → Int32) (f5 : Nat → Int32) (f6 : Nat → Int32) (f7 : Nat → Int32) (x0 : Int32) (e0 : g0 0 = (.int 0)) (e1 : g0 1 = (.ref a1)) (e2 : g0 2 = (.ref a2)) (e3 : g0 3 = (.ref a3)) (e4 : g0 4 = (.ref a4)) (e5 : g0 6 = (.ref a5)) (e6 : g0 5 = (.ref a6)) (e7 : g0 7 = (.ref a7)) : Met l yX12_num (Cond.code yX12_num cX12_num 2 (some .int) :: WG) { frames := 1, cells := 0, slots := 0, locals := 30 } (zPre K [(a0, zO 10 83 g0), (a1, zI K 200 f1), (a2, zI K 200 f2), (a3, zI K 200 f3), (a4, zI K 200 f4), (a5, zI K 600 f5), (a6, zI K 200 f6), (a7, zI K 200 f7)] sz [.ref a0, .int x0]) (va_Qi (fun (r : Int32) (_ : Nat → Nat) => r = 0) (zB K (va_A [(a0, zO 10 83 g0), (a1, zI K 200 f1), (a2, zI K 200 f2), (a3, zI K 200 f3), (a4, zI K 200 f4), (a5, zI K 600 f5), (a6, zI K 200 f6), (a7, zI K 200 f7)] sz) (fun u : Nat → Nat => [(a0, zO 10 83 (va_up (va_up g0 81 (.int 0)) 0 (.int 1)))])) (va_A [(a0, zO 10 83 g0), (a1, zI K 200 f1), (a2, zI K 200 f2), (a3, zI K 200 f3), (a4, zI K 200 f4), (a5, zI K 600 f5), (a6, zI K 200 f6), (a7, zI K 200 f7)] sz)) 0 0 (va_A [(a0, zO 10 83 g0), (a1, zI K 200 f1), (a2, zI K 200 f2), (a3, zI K 200 f3), (a4, zI K 200 f4), (a5, zI K 600 f5), (a6, zI K 200 f6), (a7, zI K 200 f7)] sz) := by
  refine z_met (Qc := fun A => (va_Qi (fun (r : Int32) (_ : Nat → Nat) => r = 0) (zB K A (fun u : Nat → Nat => [(a0, zO 10 83 (va_up (va_up g0 81 (.int 0)) 0 (.int 1)))])) A)) (by decide +kernel) (Nat.le_of_ble_eq_true rfl) ?_
  intro p e s m args below meth c A ls H hx hb hr hg hown hlocks hml hin hK hP hD hA hS hZ hl
  have hown : s.vm.findClass RX12 = some m.cls := hown
  have hl : lv_has ls 2 [(0, .ref a0), (1, .int x0)] := hl
  refine lv_aload_n hx hb dX12_num_0 rfl (lv_at hl 0 rfl) ?_
  refine lv_aload_n hx hb dX12_num_1 rfl (lv_at hl 0 rfl) ?_
  refine z_get (v := .int 0) hx hb hg hown hK hP i_X12 rfl 0 rfl 0 (by decide) mt1280 e0 dX12_num_2 ?_
  refine lv_sipush (v := 200) hx hb dX12_num_5 (by decide) ?_
  refine lv_icmp_ne (tgt := 15) hx hb dX12_num_8 (by decide) (fun _ => ?_) (fun c => absurd c (by decide))
  refine lv_iconst (v := 0) hx hb dX12_num_15 (by decide) ?_
  refine z_calli [(a0, zO 10 83 g0)] [(a1, zI K 200 f1), (a2, zI K 200 f2), (a3, zI K 200 f3), (a4, zI K 200 f4), (a5, zI K 600 f5), (a6, zI K 200 f6), (a7, zI K 200 f7)] [0] [1, 2, 3, 4, 5, 6, 7] hP hD hS hA rfl rfl (by decide) (by decide) (by decide +kernel) 0 0 rfl rfl (fun hPc hDc hF => z_runV (As := [.int 0]) (rest := []) ⟨hx, hb, hml, hown, hg⟩ (cX12_can_1 l K H.size a0 g0) kV_RX12_182 hd_X12_can rfl rfl ⟨(Nat.le_of_ble_eq_true rfl), (Nat.le_of_ble_eq_true rfl)⟩ hK hS hZ hPc hDc hF 0 rfl rfl rfl hl.1 rfl (Nat.le_of_ble_eq_true rfl) dX12_num_16 ⟨(Nat.le_of_ble_eq_true rfl), (Nat.le_of_ble_eq_true rfl)⟩) (fun r3 u1 H locs w2 hP hD hS => ?_)
  subst w2
  have hP : va_P K.1 classes [(a1, zI K 200 f1), (a2, zI K 200 f2), (a3, zI K 200 f3), (a4, zI K 200 f4), (a5, zI K 600 f5), (a6, zI K 200 f6), (a7, zI K 200 f7), (a0, zO 10 83 (va_up g0 81 (.int 0)))] H := hP
  have hD : va_D A [(a1, zI K 200 f1), (a2, zI K 200 f2), (a3, zI K 200 f3), (a4, zI K 200 f4), (a5, zI K 600 f5), (a6, zI K 200 f6), (a7, zI K 200 f7), (a0, zO 10 83 (va_up g0 81 (.int 0)))] := hD
  refine lv_if_eq (tgt := 35) hx hb dX12_num_19 (by decide) (fun c => absurd c (by decide)) (fun _ => ?_)
  refine lv_aload_n hx hb dX12_num_22 rfl (lv_at hl 0 rfl) ?_
  refine lv_iconst (v := 0) hx hb dX12_num_23 (by decide) ?_
  refine lv_iload_n hx hb dX12_num_24 rfl (lv_at hl 1 rfl) ?_
  refine lv_iconst (v := 0) hx hb dX12_num_25 (by decide) ?_
  refine lv_iconst (v := (-1)) hx hb dX12_num_26 (by decide) ?_
  refine lv_iconst (v := (-1)) hx hb dX12_num_27 (by decide) ?_
  refine lv_iconst (v := (-1)) hx hb dX12_num_28 (by decide) ?_
  refine z_calli [(a0, zO 10 83 (va_up g0 81 (.int 0))), (a1, zI K 200 f1), (a2, zI K 200 f2), (a3, zI K 200 f3), (a4, zI K 200 f4), (a5, zI K 600 f5), (a6, zI K 200 f6), (a7, zI K 200 f7)] [] [7, 0, 1, 2, 3, 4, 5, 6] [] hP hD hS hA rfl rfl (by decide) (by decide) (by decide +kernel) 0 0 rfl rfl (fun hPc hDc hF => z_runV (As := [.int 0, .int x0, .int 0, .int (-1), .int (-1), .int (-1)]) (rest := []) ⟨hx, hb, hml, hown, hg⟩ (cX12_tells_1 l K H.size a0 a1 a2 a3 a4 a5 a6 a7 (va_up g0 81 (.int 0)) f1 f2 f3 f4 f5 f6 f7 x0 (zu_ne (by decide) e1) (zu_ne (by decide) e0) (zu_ne (by decide) e2) (zu_ne (by decide) e3) (zu_ne (by decide) e4) (zu_ne (by decide) e5) (zu_ne (by decide) e6) (zu_ne (by decide) e7)) kV_RX12_186 hd_X12_tells rfl rfl ⟨(Nat.le_of_ble_eq_true rfl), (Nat.le_of_ble_eq_true rfl)⟩ hK hS hZ hPc hDc hF 0 rfl rfl rfl hl.1 rfl (Nat.le_of_ble_eq_true rfl) dX12_num_29 ⟨(Nat.le_of_ble_eq_true rfl), (Nat.le_of_ble_eq_true rfl)⟩) (fun r6 u4 H locs w5 hP hD hS => ?_)
  subst w5
  have hP : va_P K.1 classes [(a0, zO 10 83 (va_up (va_up g0 81 (.int 0)) 0 (.int 1))), (a1, zI K 200 (va_up f1 0 0)), (a2, zI K 200 (va_up f2 0 x0)), (a3, zI K 200 (va_up f3 0 0)), (a4, zI K 200 (va_up f4 0 0)), (a5, zI K 600 (va_up (va_up (va_up f5 0 (-1)) 1 (-1)) 2 (-1))), (a6, zI K 200 (va_up f6 0 0)), (a7, zI K 200 (va_up f7 0 1))] H := hP
  have hD : va_D A [(a0, zO 10 83 (va_up (va_up g0 81 (.int 0)) 0 (.int 1))), (a1, zI K 200 (va_up f1 0 0)), (a2, zI K 200 (va_up f2 0 x0)), (a3, zI K 200 (va_up f3 0 0)), (a4, zI K 200 (va_up f4 0 0)), (a5, zI K 600 (va_up (va_up (va_up f5 0 (-1)) 1 (-1)) 2 (-1))), (a6, zI K 200 (va_up f6 0 0)), (a7, zI K 200 (va_up f7 0 1))] := hD
  obtain ⟨gg7, y8⟩ : ∃ z, z = ((va_up (va_up g0 81 (.int 0)) 0 (.int 1)) : Nat → Value) := ⟨_, rfl⟩
  rw [← y8] at hP hD
  obtain ⟨ff9, y10⟩ : ∃ z, z = ((va_up (va_up (va_up f5 0 (-1)) 1 (-1)) 2 (-1)) : Nat → Int32) := ⟨_, rfl⟩
  rw [← y10] at hP hD
  refine lv_goto (tgt := 36) hx hb dX12_num_32 (by decide) ?_
  subst y10
  subst y8
  have hP9 : va_P K.1 classes [(a0, zO 10 83 (va_up (va_up g0 81 (.int 0)) 0 (.int 1)))] H := hP.sub [0] rfl
  have hD9 : va_D A [(a0, zO 10 83 (va_up (va_up g0 81 (.int 0)) 0 (.int 1)))] := hD.sub [0] (by decide) rfl
  exact z_iret hx hb hr (fun _ => 0) rfl hP9 hD9 hS (Nat.le_of_ble_eq_true rfl) (Nat.le_of_ble_eq_true rfl) hlocks dX12_num_36
set_option maxHeartbeats 4000000 in
set_option maxRecDepth 100000 in
theorem cX12_thrown_1 (l : Launch) (K : zK) (sz : Nat) (a0 : Nat) (g0 : Nat → Value) (e0 : g0 81 = (.int 0)) : Met l yX12_thrown (Cond.code yX12_thrown cX12_thrown 1 (some .int) :: WG) { frames := 0, cells := 0, slots := 0, locals := 0 } (zPre K [(a0, zO 10 83 g0)] sz [.ref a0]) (va_Qi (fun (r : Int32) (_ : Nat → Nat) => r = 0) (zB K (va_A [(a0, zO 10 83 g0)] sz) (fun u : Nat → Nat => [(a0, zO 10 83 g0)])) (va_A [(a0, zO 10 83 g0)] sz)) 0 0 (va_A [(a0, zO 10 83 g0)] sz) := by
  refine z_met (Qc := fun A => (va_Qi (fun (r : Int32) (_ : Nat → Nat) => r = 0) (zB K A (fun u : Nat → Nat => [(a0, zO 10 83 g0)])) A)) (by decide +kernel) (Nat.le_of_ble_eq_true rfl) ?_
  intro p e s m args below meth c A ls H hx hb hr hg hown hlocks hml hin hK hP hD hA hS hZ hl
  have hown : s.vm.findClass RX12 = some m.cls := hown
  have hl : lv_has ls 1 [(0, .ref a0)] := hl
  refine lv_aload_n hx hb dX12_thrown_0 rfl (lv_at hl 0 rfl) ?_
  refine z_get (v := .int 0) hx hb hg hown hK hP i_X12 rfl 0 rfl 81 (by decide) mt1361 e0 dX12_thrown_1 ?_
  have hP9 : va_P K.1 classes [(a0, zO 10 83 g0)] H := hP.sub [0] rfl
  have hD9 : va_D A [(a0, zO 10 83 g0)] := hD.sub [0] (by decide) rfl
  exact z_iret hx hb hr (fun _ => 0) rfl hP9 hD9 hS (Nat.le_of_ble_eq_true rfl) (Nat.le_of_ble_eq_true rfl) hlocks dX12_thrown_4
set_option maxHeartbeats 4000000 in
set_option maxRecDepth 100000 in
theorem cX11_checkRange_1 (l : Launch) (hl9 : l.stackTraces = false) (K : zK) (sz : Nat) (a0 : Nat) (g0 : Nat → Value) (x0 : Int32) (e0 : x0 < (0 : Int32)) : vx_Met l yX11_checkRange (Cond.code yX11_checkRange cX11_checkRange 3 none :: WG) { frames := 6, cells := 1, slots := 6, locals := 82 } (zPre K [(a0, zO 9 9 g0)] sz [.ref a0, .int x0, .int 16]) (va_Qv (fun _ : Unit => False) (fun _ _ => True) (va_A [(a0, zO 9 9 g0)] sz)) (zX (va_A [(a0, zO 9 9 g0)] sz) zIA) 1 6 (va_A [(a0, zO 9 9 g0)] sz) := by
  refine z_xmet (Qc := fun A => va_Qv (fun _ : Unit => False) (fun _ _ => True) A) (XC := fun A => zX A zIA) (by decide +kernel) (Nat.le_of_ble_eq_true rfl) ?_
  intro p e s m args below meth c A ls H hx hb hr hg hown hlocks hml hno hK hP hD hA hS hZ hl
  have hown : s.vm.findClass RX11 = some m.cls := hown
  have hl : lv_has ls 3 [(0, .ref a0), (1, .int x0), (2, .int 16)] := hl
  refine lv_iload_n hx hb dX11_checkRange_0 rfl (lv_at hl 1 rfl) ?_
  refine lv_if_lt (tgt := 9) hx hb dX11_checkRange_1 (by decide) (fun _ => ?_) (fun c => absurd e0 c)
  exact z_throw (ik := 82) (is := 183) (ic := 86) hx hb hl9 hg hown (by decide +kernel) mt500 mt16 hZ.1.2.2.1 (at_zIA hg hZ) ok_zIA hZ hS hl.1 hml dX11_checkRange_9 dX11_checkRange_12 dX11_checkRange_13 dX11_checkRange_15 dX11_checkRange_18 hno hlocks (Nat.le_of_ble_eq_true rfl) (Nat.le_of_ble_eq_true rfl) (Nat.le_of_ble_eq_true rfl) (Nat.le_of_ble_eq_true rfl) (Nat.le_of_ble_eq_true rfl) (Nat.le_of_ble_eq_true rfl)
set_option maxHeartbeats 4000000 in
set_option maxRecDepth 100000 in
theorem cX11_var_1 (l : Launch) (hl9 : l.stackTraces = false) (K : zK) (sz : Nat) (a0 : Nat) (g0 : Nat → Value) (x0 : Int32) (e0 : x0 < (0 : Int32)) : vx_Met l yX11_var (Cond.code yX11_var cX11_var 2 (some .int) :: WG) { frames := 7, cells := 1, slots := 6, locals := 104 } (zPre K [(a0, zO 9 9 g0)] sz [.ref a0, .int x0]) (va_Qv (fun _ : Unit => False) (fun _ _ => True) (va_A [(a0, zO 9 9 g0)] sz)) (zX (va_A [(a0, zO 9 9 g0)] sz) zIA) 1 6 (va_A [(a0, zO 9 9 g0)] sz) := by
  refine z_xmet (Qc := fun A => va_Qv (fun _ : Unit => False) (fun _ _ => True) A) (XC := fun A => zX A zIA) (by decide +kernel) (Nat.le_of_ble_eq_true rfl) ?_
  intro p e s m args below meth c A ls H hx hb hr hg hown hlocks hml hno hK hP hD hA hS hZ hl
  have hown : s.vm.findClass RX11 = some m.cls := hown
  have hl : lv_has ls 2 [(0, .ref a0), (1, .int x0)] := hl
  refine lv_aload_n hx hb dX11_var_0 rfl (lv_at hl 0 rfl) ?_
  refine lv_iload_n hx hb dX11_var_1 rfl (lv_at hl 1 rfl) ?_
  refine lv_bipush (v := 16) hx hb dX11_var_2 (by decide) ?_
  refine z_xcall (EX := zIA) [(a0, zO 9 9 g0)] [0] hP hD hS hA rfl (by decide) 1 6 rfl rfl (fun hPc hDc hF => z_xrunV (As := [.int x0, .int 16]) (rest := []) ⟨hx, hb, hml, hown, hg⟩ (cX11_checkRange_1 l hl9 K H.size a0 g0 x0 e0) kV_RX11_72 hd_X11_checkRange rfl rfl ⟨(Nat.le_of_ble_eq_true rfl), (Nat.le_of_ble_eq_true rfl)⟩ hK hS hZ hPc hDc hF 0 rfl rfl rfl hl.1 rfl (Nat.le_of_ble_eq_true rfl) dX11_var_4 ⟨(Nat.le_of_ble_eq_true rfl), (Nat.le_of_ble_eq_true rfl)⟩) (fun ce q9 H locs hS hce hcv hcl => ?_)
  exact z_xout hno hlocks hS hce hcv hcl (Nat.le_of_ble_eq_true rfl) (Nat.le_of_ble_eq_true rfl)
set_option maxHeartbeats 4000000 in
set_option maxRecDepth 100000 in
theorem cL_var_1 (l : Launch) (hl9 : l.stackTraces = false) (K : zK) (sz : Nat) (a0 : Nat) (a1 : Nat) (g0 : Nat → Value) (x0 : Int32) (e0 : x0 < (0 : Int32)) : vx_Met l yL_var (Cond.codeWith yL_var cL_var 4 (some .int) [(0, 9, 12, 18), (0, 9, 15, 13)] :: WG) { frames := 8, cells := 1, slots := 6, locals := 125 } (zPre K [(a0, zO 9 9 g0)] sz [.ref a0, .int x0, .ref a1]) (va_Qi (fun (r : Int32) (_ : Nat → Nat) => r = 1) (zB K (va_A [(a0, zO 9 9 g0)] sz) (fun u : Nat → Nat => [])) (va_A [(a0, zO 9 9 g0)] sz)) (vx_X (fun _ : Unit => False) (fun _ _ _ => True) (va_A [(a0, zO 9 9 g0)] sz)) 1 6 (va_A [(a0, zO 9 9 g0)] sz) := by
  refine z_hmet (Qc := fun A => (va_Qi (fun (r : Int32) (_ : Nat → Nat) => r = 1) (zB K A (fun u : Nat → Nat => [])) A)) (XC := fun A => vx_X (fun _ : Unit => False) (fun _ _ _ => True) A) (by decide +kernel) (Nat.le_of_ble_eq_true rfl) ?_
  intro p e s m args below meth c A ls H hx hb hr hg hown hlocks hml hTab hK hP hD hA hS hZ hl
  have hown : s.vm.findClass RL = some m.cls := hown
  have hl : lv_has ls 4 [(0, .ref a0), (1, .int x0), (2, .ref a1)] := hl
  refine lv_aload_n hx hb dL_var_0 rfl (lv_at hl 2 rfl) ?_
  refine lv_iconst (v := 0) hx hb dL_var_1 (by decide) ?_
  refine lv_aload_n hx hb dL_var_2 rfl (lv_at hl 0 rfl) ?_
  refine lv_iload_n hx hb dL_var_3 rfl (lv_at hl 1 rfl) ?_
  refine z_xcall (EX := zIA) [(a0, zO 9 9 g0)] [0] hP hD hS hA rfl (by decide) 1 6 rfl rfl (fun hPc hDc hF => z_xrunV (As := [.int x0]) (rest := [.int 0, .ref a1]) ⟨hx, hb, hml, hown, hg⟩ (cX11_var_1 l hl9 K H.size a0 g0 x0 e0) kV_RL_15 hd_X11_var rfl rfl ⟨(Nat.le_of_ble_eq_true rfl), (Nat.le_of_ble_eq_true rfl)⟩ hK hS hZ hPc hDc hF 0 rfl rfl rfl hl.1 rfl (Nat.le_of_ble_eq_true rfl) dL_var_4 ⟨(Nat.le_of_ble_eq_true rfl), (Nat.le_of_ble_eq_true rfl)⟩) (fun ce q9 H locs hS hce hcv hcl => ?_)
  refine vx_catch (own := RL) (name := zIA) (E := zIA) hown [] ⟨0, 9, 12, 18⟩ [⟨0, 9, 15, 13⟩] (by rw [hTab]; rfl) (fun z hz => nomatch hz) (by decide) (by decide) (hg _ mt491) (va_Nw.use rfl hZ.1.1.2.1) hce hcv hcl ?_
  have hP : va_P K.1 classes [] H := z_P0
  have hD : va_D A [] := z_D0
  refine lv_astore_n (lv' := [(3, .ref q9), (0, .ref a0), (1, .int x0), (2, .ref a1)]) hx hb dL_var_12 rfl hl (by decide) rfl (fun ls hl => ?_)
  refine lv_iconst (v := 1) hx hb dL_var_13 (by decide) ?_
  have hP9 : va_P K.1 classes [] H := hP.sub [] rfl
  have hD9 : va_D A [] := hD.sub [] (by decide) rfl
  exact z_iret hx hb hr (fun _ => 0) rfl hP9 hD9 hS (Nat.le_of_ble_eq_true rfl) (Nat.le_of_ble_eq_true rfl) hlocks dL_var_14
set_option maxHeartbeats 4000000 in
set_option maxRecDepth 100000 in
theorem cX12_isIn_1 (l : Launch) (K : zK) (sz : Nat) (x0 : Int32) (e0 : x0 < (0 : Int32)) : Met l yX12_isIn (Cond.code yX12_isIn cX12_isIn 3 (some .boolean) :: WG) { frames := 0, cells := 0, slots := 0, locals := 0 } (zPre K [] sz [.int x0, .int 0, .int 15]) (va_Qi (fun (r : Int32) (_ : Nat → Nat) => r = 0) (zB K (va_A [] sz) (fun u : Nat → Nat => [])) (va_A [] sz)) 0 0 (va_A [] sz) := by
  refine z_met (Qc := fun A => (va_Qi (fun (r : Int32) (_ : Nat → Nat) => r = 0) (zB K A (fun u : Nat → Nat => [])) A)) (by decide +kernel) (Nat.le_of_ble_eq_true rfl) ?_
  intro p e s m args below meth c A ls H hx hb hr hg hown hlocks hml hin hK hP hD hA hS hZ hl
  have hown : s.vm.findClass RX12 = some m.cls := hown
  have hl : lv_has ls 3 [(0, .int x0), (1, .int 0), (2, .int 15)] := hl
  refine lv_iload_n hx hb dX12_isIn_0 rfl (lv_at hl 0 rfl) ?_
  refine lv_iload_n hx hb dX12_isIn_1 rfl (lv_at hl 1 rfl) ?_
  refine lv_icmp_lt (tgt := 14) hx hb dX12_isIn_2 (by decide) (fun _ => ?_) (fun c => absurd e0 c)
  refine lv_iconst (v := 0) hx hb dX12_isIn_14 (by decide) ?_
  have hP9 : va_P K.1 classes [] H := hP.sub [] rfl
  have hD9 : va_D A [] := hD.sub [] (by decide) rfl
  exact z_zret hx hb hr rfl (fun _ => 0) rfl hP9 hD9 hS (Nat.le_of_ble_eq_true rfl) (Nat.le_of_ble_eq_true rfl) hlocks dX12_isIn_15
set_option maxHeartbeats 4000000 in
set_option maxRecDepth 100000 in
theorem cX12_isName_1 (l : Launch) (K : zK) (sz : Nat) (x0 : Int32) (e0 : x0 < (0 : Int32)) : Met l yX12_isName (Cond.code yX12_isName cX12_isName 1 (some .boolean) :: WG) { frames := 1, cells := 0, slots := 0, locals := 22 } (zPre K [] sz [.int x0]) (va_Qi (fun (r : Int32) (_ : Nat → Nat) => r = 0) (zB K (va_A [] sz) (fun u : Nat → Nat => [])) (va_A [] sz)) 0 0 (va_A [] sz) := by
  refine z_met (Qc := fun A => (va_Qi (fun (r : Int32) (_ : Nat → Nat) => r = 0) (zB K A (fun u : Nat → Nat => [])) A)) (by decide +kernel) (Nat.le_of_ble_eq_true rfl) ?_
  intro p e s m args below meth c A ls H hx hb hr hg hown hlocks hml hin hK hP hD hA hS hZ hl
  have hown : s.vm.findClass RX12 = some m.cls := hown
  have hl : lv_has ls 1 [(0, .int x0)] := hl
  refine lv_iload_n hx hb dX12_isName_0 rfl (lv_at hl 0 rfl) ?_
  refine lv_iconst (v := 0) hx hb dX12_isName_1 (by decide) ?_
  refine lv_bipush (v := 15) hx hb dX12_isName_2 (by decide) ?_
  refine z_calli [] [] [] [] hP hD hS hA rfl rfl (by decide) (by decide) (by decide +kernel) 0 0 rfl rfl (fun hPc hDc hF => z_runS (As := [.int x0, .int 0, .int 15]) (rest := []) ⟨hx, hb, hml, hown, hg⟩ (cX12_isIn_1 l K H.size x0 e0) kS_RX12_175 hd_X12_isIn rfl rfl ⟨(Nat.le_of_ble_eq_true rfl), (Nat.le_of_ble_eq_true rfl)⟩ hK hS hZ hPc hDc hF rfl hl.1 rfl (Nat.le_of_ble_eq_true rfl) dX12_isName_4 ⟨(Nat.le_of_ble_eq_true rfl), (Nat.le_of_ble_eq_true rfl)⟩) (fun r3 u1 H locs w2 hP hD hS => ?_)
  subst w2
  have hP : va_P K.1 classes [] H := hP
  have hD : va_D A [] := hD
  have hP9 : va_P K.1 classes [] H := hP.sub [] rfl
  have hD9 : va_D A [] := hD.sub [] (by decide) rfl
  exact z_zret hx hb hr rfl (fun _ => 0) rfl hP9 hD9 hS (Nat.le_of_ble_eq_true rfl) (Nat.le_of_ble_eq_true rfl) hlocks dX12_isName_7
set_option maxHeartbeats 4000000 in
set_option maxRecDepth 100000 in
theorem cX12_can_2 (l : Launch) (K : zK) (sz : Nat) (a0 : Nat) (g0 : Nat → Value) : Met l yX12_can (Cond.code yX12_can cX12_can 2 (some .boolean) :: WG) { frames := 0, cells := 0, slots := 0, locals := 0 } (zPre K [(a0, zO 10 83 g0)] sz [.ref a0, .int 1]) (va_Qi (fun (r : Int32) (_ : Nat → Nat) => r = 0) (zB K (va_A [(a0, zO 10 83 g0)] sz) (fun u : Nat → Nat => [(a0, zO 10 83 (va_up g0 81 (.int 1)))])) (va_A [(a0, zO 10 83 g0)] sz)) 0 0 (va_A [(a0, zO 10 83 g0)] sz) := by
  refine z_met (Qc := fun A => (va_Qi (fun (r : Int32) (_ : Nat → Nat) => r = 0) (zB K A (fun u : Nat → Nat => [(a0, zO 10 83 (va_up g0 81 (.int 1)))])) A)) (by decide +kernel) (Nat.le_of_ble_eq_true rfl) ?_
  intro p e s m args below meth c A ls H hx hb hr hg hown hlocks hml hin hK hP hD hA hS hZ hl
  have hown : s.vm.findClass RX12 = some m.cls := hown
  have hl : lv_has ls 2 [(0, .ref a0), (1, .int 1)] := hl
  refine lv_aload_n hx hb dX12_can_0 rfl (lv_at hl 0 rfl) ?_
  refine lv_iload_n hx hb dX12_can_1 rfl (lv_at hl 1 rfl) ?_
  refine z_put hx hb hg hown hK hP hD hS i_X12 rfl tyX12_ok nmX12 0 rfl 81 (by decide) mt1361 rfl rfl rfl dX12_can_2 (fun gg1 H locs y2 hP hD hS => ?_)
  have hP : va_P K.1 classes [(a0, zO 10 83 gg1)] H := hP
  have hD : va_D A [(a0, zO 10 83 gg1)] := hD
  refine lv_iload_n hx hb dX12_can_5 rfl (lv_at hl 1 rfl) ?_
  refine lv_if_ne (tgt := 13) hx hb dX12_can_6 (by decide) (fun _ => ?_) (fun c => absurd c (by decide))
  refine lv_iconst (v := 0) hx hb dX12_can_13 (by decide) ?_
  subst y2
  have hP9 : va_P K.1 classes [(a0, zO 10 83 (va_up g0 81 (.int 1)))] H := hP.sub [0] rfl
  have hD9 : va_D A [(a0, zO 10 83 (va_up g0 81 (.int 1)))] := hD.sub [0] (by decide) rfl
  exact z_zret hx hb hr rfl (fun _ => 0) rfl hP9 hD9 hS (Nat.le_of_ble_eq_true rfl) (Nat.le_of_ble_eq_true rfl) hlocks dX12_can_14
set_option maxHeartbeats 4000000 in
set_option maxRecDepth 100000 in
theorem cX12_mayTellAlone_1 (l : Launch) (K : zK) (sz : Nat) (a0 : Nat) (g0 : Nat → Value) : Met l yX12_mayTellAlone (Cond.code yX12_mayTellAlone cX12_mayTellAlone 2 (some .boolean) :: WG) { frames := 1, cells := 0, slots := 0, locals := 21 } (zPre K [(a0, zO 10 83 g0)] sz [.ref a0, .int 0]) (va_Qi (fun (r : Int32) (_ : Nat → Nat) => r = 0) (zB K (va_A [(a0, zO 10 83 g0)] sz) (fun u : Nat → Nat => [(a0, zO 10 83 (va_up g0 81 (.int 1)))])) (va_A [(a0, zO 10 83 g0)] sz)) 0 0 (va_A [(a0, zO 10 83 g0)] sz) := by
  refine z_met (Qc := fun A => (va_Qi (fun (r : Int32) (_ : Nat → Nat) => r = 0) (zB K A (fun u : Nat → Nat => [(a0, zO 10 83 (va_up g0 81 (.int 1)))])) A)) (by decide +kernel) (Nat.le_of_ble_eq_true rfl) ?_
  intro p e s m args below meth c A ls H hx hb hr hg hown hlocks hml hin hK hP hD hA hS hZ hl
  have hown : s.vm.findClass RX12 = some m.cls := hown
  have hl : lv_has ls 2 [(0, .ref a0), (1, .int 0)] := hl
  refine lv_aload_n hx hb dX12_mayTellAlone_0 rfl (lv_at hl 0 rfl) ?_
  refine lv_iload_n hx hb dX12_mayTellAlone_1 rfl (lv_at hl 1 rfl) ?_
  refine lv_if_ne (tgt := 9) hx hb dX12_mayTellAlone_2 (by decide) (fun c => absurd (by decide) c) (fun _ => ?_)
  refine lv_iconst (v := 1) hx hb dX12_mayTellAlone_5 (by decide) ?_
  refine lv_goto (tgt := 24) hx hb dX12_mayTellAlone_6 (by decide) ?_
  refine z_calli [(a0, zO 10 83 g0)] [] [0] [] hP hD hS hA rfl rfl (by decide) (by decide) (by decide +kernel) 0 0 rfl rfl (fun hPc hDc hF => z_runV (As := [.int 1]) (rest := []) ⟨hx, hb, hml, hown, hg⟩ (cX12_can_2 l K H.size a0 g0) kV_RX12_182 hd_X12_can rfl rfl ⟨(Nat.le_of_ble_eq_true rfl), (Nat.le_of_ble_eq_true rfl)⟩ hK hS hZ hPc hDc hF 0 rfl rfl rfl hl.1 rfl (Nat.le_of_ble_eq_true rfl) dX12_mayTellAlone_24 ⟨(Nat.le_of_ble_eq_true rfl), (Nat.le_of_ble_eq_true rfl)⟩) (fun r3 u1 H locs w2 hP hD hS => ?_)
  subst w2
  have hP : va_P K.1 classes [(a0, zO 10 83 (va_up g0 81 (.int 1)))] H := hP
  have hD : va_D A [(a0, zO 10 83 (va_up g0 81 (.int 1)))] := hD
  have hP9 : va_P K.1 classes [(a0, zO 10 83 (va_up g0 81 (.int 1)))] H := hP.sub [0] rfl
  have hD9 : va_D A [(a0, zO 10 83 (va_up g0 81 (.int 1)))] := hD.sub [0] (by decide) rfl
  exact z_zret hx hb hr rfl (fun _ => 0) rfl hP9 hD9 hS (Nat.le_of_ble_eq_true rfl) (Nat.le_of_ble_eq_true rfl) hlocks dX12_mayTellAlone_27
set_option maxHeartbeats 4000000 in
set_option maxRecDepth 100000 in
theorem cX12_var_1 (l : Launch) (K : zK) (sz : Nat) (a0 : Nat) (g0 : Nat → Value) (x0 : Int32) (e0 : x0 < (0 : Int32)) : Met l yX12_var (Cond.code yX12_var cX12_var 2 (some .int) :: WG) { frames := 2, cells := 0, slots := 0, locals := 42 } (zPre K [(a0, zO 10 83 g0)] sz [.ref a0, .int x0]) (va_Qi (fun (r : Int32) (_ : Nat → Nat) => r = 0) (zB K (va_A [(a0, zO 10 83 g0)] sz) (fun u : Nat → Nat => [(a0, zO 10 83 (va_up g0 81 (.int 1)))])) (va_A [(a0, zO 10 83 g0)] sz)) 0 0 (va_A [(a0, zO 10 83 g0)] sz) := by
  refine z_met (Qc := fun A => (va_Qi (fun (r : Int32) (_ : Nat → Nat) => r = 0) (zB K A (fun u : Nat → Nat => [(a0, zO 10 83 (va_up g0 81 (.int 1)))])) A)) (by decide +kernel) (Nat.le_of_ble_eq_true rfl) ?_
  intro p e s m args below meth c A ls H hx hb hr hg hown hlocks hml hin hK hP hD hA hS hZ hl
  have hown : s.vm.findClass RX12 = some m.cls := hown
  have hl : lv_has ls 2 [(0, .ref a0), (1, .int x0)] := hl
  refine lv_aload_n hx hb dX12_var_0 rfl (lv_at hl 0 rfl) ?_
  refine lv_iload_n hx hb dX12_var_1 rfl (lv_at hl 1 rfl) ?_
  refine z_calli [] [(a0, zO 10 83 g0)] [] [0] hP hD hS hA rfl rfl (by decide) (by decide) (by decide +kernel) 0 0 rfl rfl (fun hPc hDc hF => z_runS (As := [.int x0]) (rest := [.ref a0]) ⟨hx, hb, hml, hown, hg⟩ (cX12_isName_1 l K H.size x0 e0) kS_RX12_190 hd_X12_isName rfl rfl ⟨(Nat.le_of_ble_eq_true rfl), (Nat.le_of_ble_eq_true rfl)⟩ hK hS hZ hPc hDc hF rfl hl.1 rfl (Nat.le_of_ble_eq_true rfl) dX12_var_2 ⟨(Nat.le_of_ble_eq_true rfl), (Nat.le_of_ble_eq_true rfl)⟩) (fun r3 u1 H locs w2 hP hD hS => ?_)
  subst w2
  have hP : va_P K.1 classes [(a0, zO 10 83 g0)] H := hP
  have hD : va_D A [(a0, zO 10 83 g0)] := hD
  refine z_calli [(a0, zO 10 83 g0)] [] [0] [] hP hD hS hA rfl rfl (by decide) (by decide) (by decide +kernel) 0 0 rfl rfl (fun hPc hDc hF => z_runV (As := [.int 0]) (rest := []) ⟨hx, hb, hml, hown, hg⟩ (cX12_mayTellAlone_1 l K H.size a0 g0) kV_RX12_193 hd_X12_mayTellAlone rfl rfl ⟨(Nat.le_of_ble_eq_true rfl), (Nat.le_of_ble_eq_true rfl)⟩ hK hS hZ hPc hDc hF 0 rfl rfl rfl hl.1 rfl (Nat.le_of_ble_eq_true rfl) dX12_var_5 ⟨(Nat.le_of_ble_eq_true rfl), (Nat.le_of_ble_eq_true rfl)⟩) (fun r6 u4 H locs w5 hP hD hS => ?_)
  subst w5
  have hP : va_P K.1 classes [(a0, zO 10 83 (va_up g0 81 (.int 1)))] H := hP
  have hD : va_D A [(a0, zO 10 83 (va_up g0 81 (.int 1)))] := hD
  refine lv_if_eq (tgt := 24) hx hb dX12_var_8 (by decide) (fun _ => ?_) (fun c => absurd (by decide) c)
  refine lv_iconst (v := 0) hx hb dX12_var_24 (by decide) ?_
  have hP9 : va_P K.1 classes [(a0, zO 10 83 (va_up g0 81 (.int 1)))] H := hP.sub [0] rfl
  have hD9 : va_D A [(a0, zO 10 83 (va_up g0 81 (.int 1)))] := hD.sub [0] (by decide) rfl
  exact z_iret hx hb hr (fun _ => 0) rfl hP9 hD9 hS (Nat.le_of_ble_eq_true rfl) (Nat.le_of_ble_eq_true rfl) hlocks dX12_var_25
set_option maxHeartbeats 4000000 in
set_option maxRecDepth 100000 in
theorem cX12_thrown_2 (l : Launch) (K : zK) (sz : Nat) (a0 : Nat) (g0 : Nat → Value) (e0 : g0 81 = (.int 1)) : Met l yX12_thrown (Cond.code yX12_thrown cX12_thrown 1 (some .int) :: WG) { frames := 0, cells := 0, slots := 0, locals := 0 } (zPre K [(a0, zO 10 83 g0)] sz [.ref a0]) (va_Qi (fun (r : Int32) (_ : Nat → Nat) => r = 1) (zB K (va_A [(a0, zO 10 83 g0)] sz) (fun u : Nat → Nat => [(a0, zO 10 83 g0)])) (va_A [(a0, zO 10 83 g0)] sz)) 0 0 (va_A [(a0, zO 10 83 g0)] sz) := by
  refine z_met (Qc := fun A => (va_Qi (fun (r : Int32) (_ : Nat → Nat) => r = 1) (zB K A (fun u : Nat → Nat => [(a0, zO 10 83 g0)])) A)) (by decide +kernel) (Nat.le_of_ble_eq_true rfl) ?_
  intro p e s m args below meth c A ls H hx hb hr hg hown hlocks hml hin hK hP hD hA hS hZ hl
  have hown : s.vm.findClass RX12 = some m.cls := hown
  have hl : lv_has ls 1 [(0, .ref a0)] := hl
  refine lv_aload_n hx hb dX12_thrown_0 rfl (lv_at hl 0 rfl) ?_
  refine z_get (v := .int 1) hx hb hg hown hK hP i_X12 rfl 0 rfl 81 (by decide) mt1361 e0 dX12_thrown_1 ?_
  have hP9 : va_P K.1 classes [(a0, zO 10 83 g0)] H := hP.sub [0] rfl
  have hD9 : va_D A [(a0, zO 10 83 g0)] := hD.sub [0] (by decide) rfl
  exact z_iret hx hb hr (fun _ => 0) rfl hP9 hD9 hS (Nat.le_of_ble_eq_true rfl) (Nat.le_of_ble_eq_true rfl) hlocks dX12_thrown_4
set_option maxHeartbeats 4000000 in
set_option maxRecDepth 100000 in
theorem cX11_checkRange_2 (l : Launch) (K : zK) (sz : Nat) (a0 : Nat) (g0 : Nat → Value) (j0 : Nat) (hj0 : j0 < 16) : Met l yX11_checkRange (Cond.code yX11_checkRange cX11_checkRange 3 none :: WG) { frames := 0, cells := 0, slots := 0, locals := 0 } (zPre K [(a0, zO 9 9 g0)] sz [.ref a0, .int (nI j0), .int 16]) (va_Qv (fun _ : Nat → Nat => True) (zB K (va_A [(a0, zO 9 9 g0)] sz) (fun u : Nat → Nat => [(a0, zO 9 9 g0)])) (va_A [(a0, zO 9 9 g0)] sz)) 0 0 (va_A [(a0, zO 9 9 g0)] sz) := by
  refine z_met (Qc := fun A => (va_Qv (fun _ : Nat → Nat => True) (zB K A (fun u : Nat → Nat => [(a0, zO 9 9 g0)])) A)) (by decide +kernel) (Nat.le_of_ble_eq_true rfl) ?_
  intro p e s m args below meth c A ls H hx hb hr hg hown hlocks hml hin hK hP hD hA hS hZ hl
  have hown : s.vm.findClass RX11 = some m.cls := hown
  have hl : lv_has ls 3 [(0, .ref a0), (1, .int (nI j0)), (2, .int 16)] := hl
  refine lv_iload_n hx hb dX11_checkRange_0 rfl (lv_at hl 1 rfl) ?_
  refine lv_if_lt (tgt := 9) hx hb dX11_checkRange_1 (by decide) (fun c => absurd c ((by decide : ∀ j, j < 16 → ¬ ((nI j) < (0 : Int32))) j0 hj0)) (fun _ => ?_)
  refine lv_iload_n hx hb dX11_checkRange_4 rfl (lv_at hl 1 rfl) ?_
  refine lv_iload_n hx hb dX11_checkRange_5 rfl (lv_at hl 2 rfl) ?_
  refine lv_icmp_lt (tgt := 19) hx hb dX11_checkRange_6 (by decide) (fun _ => ?_) (fun c => absurd ((by decide : ∀ j, j < 16 → ((nI j) < (16 : Int32))) j0 hj0) c)
  have hP9 : va_P K.1 classes [(a0, zO 9 9 g0)] H := hP.sub [0] rfl
  have hD9 : va_D A [(a0, zO 9 9 g0)] := hD.sub [0] (by decide) rfl
  exact z_vret hx hb hr (fun _ => 0) trivial hP9 hD9 hS (Nat.le_of_ble_eq_true rfl) (Nat.le_of_ble_eq_true rfl) hlocks dX11_checkRange_19
set_option maxHeartbeats 4000000 in
set_option maxRecDepth 100000 in
theorem cX9_set_2 (l : Launch) (K : zK) (sz : Nat) (a0 : Nat) (a1 : Nat) (a2 : Nat) (a3 : Nat) (a4 : Nat) (a5 : Nat) (g0 : Nat → Value) (f1 : Nat → Int32) (f2 : Nat → Int32) (f3 : Nat → Int32) (f4 : Nat → Int32) (f5 : Nat → Int32) (j0 : Nat) (hj0 : j0 < 16) (e0 : g0 5 = (.int 1)) (e1 : g0 0 = (.ref a1)) (e2 : g0 1 = (.ref a2)) (e3 : g0 2 = (.ref a3)) (e4 : g0 3 = (.ref a4)) (e5 : g0 4 = (.ref a5)) : Met l yX9_set (Cond.code yX9_set cX9_set 6 none :: WG) { frames := 1, cells := 0, slots := 0, locals := 21 } (zPre K [(a0, zO 7 6 g0), (a1, zI K 200 f1), (a2, zI K 200 f2), (a3, zI K 200 f3), (a4, zI K 200 f4), (a5, zI K 600 f5)] sz [.ref a0, .int 0, .int 1, .int 0, .int (nI j0), .int 0]) (va_Qv (fun _ : Nat → Nat => True) (zB K (va_A [(a0, zO 7 6 g0), (a1, zI K 200 f1), (a2, zI K 200 f2), (a3, zI K 200 f3), (a4, zI K 200 f4), (a5, zI K 600 f5)] sz) (fun u : Nat → Nat => [(a0, zO 7 6 g0), (a1, zI K 200 (va_up f1 0 1)), (a2, zI K 200 (va_up f2 0 0)), (a3, zI K 200 (va_up f3 0 (nI j0))), (a4, zI K 200 (va_up f4 0 0)), (a5, zI K 600 (va_up (va_up (va_up f5 0 (-1)) 1 (-1)) 2 (-1)))])) (va_A [(a0, zO 7 6 g0), (a1, zI K 200 f1), (a2, zI K 200 f2), (a3, zI K 200 f3), (a4, zI K 200 f4), (a5, zI K 600 f5)] sz)) 0 0 (va_A [(a0, zO 7 6 g0), (a1, zI K 200 f1), (a2, zI K 200 f2), (a3, zI K 200 f3), (a4, zI K 200 f4), (a5, zI K 600 f5)] sz) := by
  refine z_met (Qc := fun A => (va_Qv (fun _ : Nat → Nat => True) (zB K A (fun u : Nat → Nat => [(a0, zO 7 6 g0), (a1, zI K 200 (va_up f1 0 1)), (a2, zI K 200 (va_up f2 0 0)), (a3, zI K 200 (va_up f3 0 (nI j0))), (a4, zI K 200 (va_up f4 0 0)), (a5, zI K 600 (va_up (va_up (va_up f5 0 (-1)) 1 (-1)) 2 (-1)))])) A)) (by decide +kernel) (Nat.le_of_ble_eq_true rfl) ?_
  intro p e s m args below meth c A ls H hx hb hr hg hown hlocks hml hin hK hP hD hA hS hZ hl
  have hown : s.vm.findClass RX9 = some m.cls := hown
  have hl : lv_has ls 6 [(0, .ref a0), (1, .int 0), (2, .int 1), (3, .int 0), (4, .int (nI j0)), (5, .int 0)] := hl
  refine lv_aload_n hx hb dX9_set_0 rfl (lv_at hl 0 rfl) ?_
  refine lv_iload_n hx hb dX9_set_1 rfl (lv_at hl 1 rfl) ?_
  refine z_calli [(a0, zO 7 6 g0)] [(a1, zI K 200 f1), (a2, zI K 200 f2), (a3, zI K 200 f3), (a4, zI K 200 f4), (a5, zI K 600 f5)] [0] [1, 2, 3, 4, 5] hP hD hS hA rfl rfl (by decide) (by decide) (by decide +kernel) 0 0 rfl rfl (fun hPc hDc hF => z_runV (As := [.int 0]) (rest := []) ⟨hx, hb, hml, hown, hg⟩ (cX9_has_1 l K H.size a0 g0 e0) kV_RX9_31 hd_X9_has rfl rfl ⟨(Nat.le_of_ble_eq_true rfl), (Nat.le_of_ble_eq_true rfl)⟩ hK hS hZ hPc hDc hF 0 rfl rfl rfl hl.1 rfl (Nat.le_of_ble_eq_true rfl) dX9_set_2 ⟨(Nat.le_of_ble_eq_true rfl), (Nat.le_of_ble_eq_true rfl)⟩) (fun r3 u1 H locs w2 hP hD hS => ?_)
  subst w2
  have hP : va_P K.1 classes [(a1, zI K 200 f1), (a2, zI K 200 f2), (a3, zI K 200 f3), (a4, zI K 200 f4), (a5, zI K 600 f5), (a0, zO 7 6 g0)] H := hP
  have hD : va_D A [(a1, zI K 200 f1), (a2, zI K 200 f2), (a3, zI K 200 f3), (a4, zI K 200 f4), (a5, zI K 600 f5), (a0, zO 7 6 g0)] := hD
  refine lv_if_eq (tgt := 69) hx hb dX9_set_5 (by decide) (fun c => absurd c (by decide)) (fun _ => ?_)
  refine lv_aload_n hx hb dX9_set_8 rfl (lv_at hl 0 rfl) ?_
  refine z_get (v := .ref a1) hx hb hg hown hK hP i_X9 rfl 5 rfl 0 (by decide) mt37 e1 dX9_set_9 ?_
  refine lv_iload_n hx hb dX9_set_12 rfl (lv_at hl 1 rfl) ?_
  refine lv_iload_n hx hb dX9_set_13 rfl (lv_at hl 2 rfl) ?_
  refine z_iast (j := 0) hx hb hK hP hD hS 0 rfl rfl (Nat.le_of_ble_eq_true rfl) (Nat.le_of_ble_eq_true rfl) dX9_set_14 (fun ff4 H locs y5 hP hD hS => ?_)
  have hP : va_P K.1 classes [(a1, zI K 200 ff4), (a2, zI K 200 f2), (a3, zI K 200 f3), (a4, zI K 200 f4), (a5, zI K 600 f5), (a0, zO 7 6 g0)] H := hP
  have hD : va_D A [(a1, zI K 200 ff4), (a2, zI K 200 f2), (a3, zI K 200 f3), (a4, zI K 200 f4), (a5, zI K 600 f5), (a0, zO 7 6 g0)] := hD
  refine lv_aload_n hx hb dX9_set_15 rfl (lv_at hl 0 rfl) ?_
  refine z_get (v := .ref a2) hx hb hg hown hK hP i_X9 rfl 5 rfl 1 (by decide) mt38 e2 dX9_set_16 ?_
  refine lv_iload_n hx hb dX9_set_19 rfl (lv_at hl 1 rfl) ?_
  refine lv_iload_n hx hb dX9_set_20 rfl (lv_at hl 3 rfl) ?_
  refine z_iast (j := 0) hx hb hK hP hD hS 1 rfl rfl (Nat.le_of_ble_eq_true rfl) (Nat.le_of_ble_eq_true rfl) dX9_set_21 (fun ff6 H locs y7 hP hD hS => ?_)
  have hP : va_P K.1 classes [(a1, zI K 200 ff4), (a2, zI K 200 ff6), (a3, zI K 200 f3), (a4, zI K 200 f4), (a5, zI K 600 f5), (a0, zO 7 6 g0)] H := hP
  have hD : va_D A [(a1, zI K 200 ff4), (a2, zI K 200 ff6), (a3, zI K 200 f3), (a4, zI K 200 f4), (a5, zI K 600 f5), (a0, zO 7 6 g0)] := hD
  refine lv_aload_n hx hb dX9_set_22 rfl (lv_at hl 0 rfl) ?_
  refine z_get (v := .ref a3) hx hb hg hown hK hP i_X9 rfl 5 rfl 2 (by decide) mt39 e3 dX9_set_23 ?_
  refine lv_iload_n hx hb dX9_set_26 rfl (lv_at hl 1 rfl) ?_
  refine lv_iload hx hb dX9_set_27 (lv_at hl 4 rfl) ?_
  refine z_iast (j := 0) hx hb hK hP hD hS 2 rfl rfl (Nat.le_of_ble_eq_true rfl) (Nat.le_of_ble_eq_true rfl) dX9_set_29 (fun ff8 H locs y9 hP hD hS => ?_)
  have hP : va_P K.1 classes [(a1, zI K 200 ff4), (a2, zI K 200 ff6), (a3, zI K 200 ff8), (a4, zI K 200 f4), (a5, zI K 600 f5), (a0, zO 7 6 g0)] H := hP
  have hD : va_D A [(a1, zI K 200 ff4), (a2, zI K 200 ff6), (a3, zI K 200 ff8), (a4, zI K 200 f4), (a5, zI K 600 f5), (a0, zO 7 6 g0)] := hD
  refine lv_aload_n hx hb dX9_set_30 rfl (lv_at hl 0 rfl) ?_
  refine z_get (v := .ref a4) hx hb hg hown hK hP i_X9 rfl 5 rfl 3 (by decide) mt40 e4 dX9_set_31 ?_
  refine lv_iload_n hx hb dX9_set_34 rfl (lv_at hl 1 rfl) ?_
  refine lv_iload hx hb dX9_set_35 (lv_at hl 5 rfl) ?_
  refine z_iast (j := 0) hx hb hK hP hD hS 3 rfl rfl (Nat.le_of_ble_eq_true rfl) (Nat.le_of_ble_eq_true rfl) dX9_set_37 (fun ff10 H locs y11 hP hD hS => ?_)
  have hP : va_P K.1 classes [(a1, zI K 200 ff4), (a2, zI K 200 ff6), (a3, zI K 200 ff8), (a4, zI K 200 ff10), (a5, zI K 600 f5), (a0, zO 7 6 g0)] H := hP
  have hD : va_D A [(a1, zI K 200 ff4), (a2, zI K 200 ff6), (a3, zI K 200 ff8), (a4, zI K 200 ff10), (a5, zI K 600 f5), (a0, zO 7 6 g0)] := hD
  refine lv_aload_n hx hb dX9_set_38 rfl (lv_at hl 0 rfl) ?_
  refine z_get (v := .ref a5) hx hb hg hown hK hP i_X9 rfl 5 rfl 4 (by decide) mt41 e5 dX9_set_39 ?_
  refine lv_iconst (v := 3) hx hb dX9_set_42 (by decide) ?_
  refine lv_iload_n hx hb dX9_set_43 rfl (lv_at hl 1 rfl) ?_
  refine lv_imul hx hb dX9_set_44 ?_
  refine z_cst (v := 0) (by decide +kernel) ?_
  refine lv_iconst (v := (-1)) hx hb dX9_set_45 (by decide) ?_
  refine z_iast (j := 0) hx hb hK hP hD hS 4 rfl rfl (Nat.le_of_ble_eq_true rfl) (Nat.le_of_ble_eq_true rfl) dX9_set_46 (fun ff12 H locs y13 hP hD hS => ?_)
  have hP : va_P K.1 classes [(a1, zI K 200 ff4), (a2, zI K 200 ff6), (a3, zI K 200 ff8), (a4, zI K 200 ff10), (a5, zI K 600 ff12), (a0, zO 7 6 g0)] H := hP
  have hD : va_D A [(a1, zI K 200 ff4), (a2, zI K 200 ff6), (a3, zI K 200 ff8), (a4, zI K 200 ff10), (a5, zI K 600 ff12), (a0, zO 7 6 g0)] := hD
  refine lv_aload_n hx hb dX9_set_47 rfl (lv_at hl 0 rfl) ?_
  refine z_get (v := .ref a5) hx hb hg hown hK hP i_X9 rfl 5 rfl 4 (by decide) mt41 e5 dX9_set_48 ?_
  refine lv_iconst (v := 3) hx hb dX9_set_51 (by decide) ?_
  refine lv_iload_n hx hb dX9_set_52 rfl (lv_at hl 1 rfl) ?_
  refine lv_imul hx hb dX9_set_53 ?_
  refine z_cst (v := 0) (by decide +kernel) ?_
  refine lv_iconst (v := 1) hx hb dX9_set_54 (by decide) ?_
  refine lv_iadd hx hb dX9_set_55 ?_
  refine z_cst (v := 1) (by decide +kernel) ?_
  refine lv_iconst (v := (-1)) hx hb dX9_set_56 (by decide) ?_
  refine z_iast (j := 1) hx hb hK hP hD hS 4 rfl rfl (Nat.le_of_ble_eq_true rfl) (Nat.le_of_ble_eq_true rfl) dX9_set_57 (fun ff14 H locs y15 hP hD hS => ?_)
  have hP : va_P K.1 classes [(a1, zI K 200 ff4), (a2, zI K 200 ff6), (a3, zI K 200 ff8), (a4, zI K 200 ff10), (a5, zI K 600 ff14), (a0, zO 7 6 g0)] H := hP
  have hD : va_D A [(a1, zI K 200 ff4), (a2, zI K 200 ff6), (a3, zI K 200 ff8), (a4, zI K 200 ff10), (a5, zI K 600 ff14), (a0, zO 7 6 g0)] := hD
  refine lv_aload_n hx hb dX9_set_58 rfl (lv_at hl 0 rfl) ?_
  refine z_get (v := .ref a5) hx hb hg hown hK hP i_X9 rfl 5 rfl 4 (by decide) mt41 e5 dX9_set_59 ?_
  refine lv_iconst (v := 3) hx hb dX9_set_62 (by decide) ?_
  refine lv_iload_n hx hb dX9_set_63 rfl (lv_at hl 1 rfl) ?_
  refine lv_imul hx hb dX9_set_64 ?_
  refine z_cst (v := 0) (by decide +kernel) ?_
  refine lv_iconst (v := 2) hx hb dX9_set_65 (by decide) ?_
  refine lv_iadd hx hb dX9_set_66 ?_
  refine z_cst (v := 2) (by decide +kernel) ?_
  refine lv_iconst (v := (-1)) hx hb dX9_set_67 (by decide) ?_
  refine z_iast (j := 2) hx hb hK hP hD hS 4 rfl rfl (Nat.le_of_ble_eq_true rfl) (Nat.le_of_ble_eq_true rfl) dX9_set_68 (fun ff16 H locs y17 hP hD hS => ?_)
  have hP : va_P K.1 classes [(a1, zI K 200 ff4), (a2, zI K 200 ff6), (a3, zI K 200 ff8), (a4, zI K 200 ff10), (a5, zI K 600 ff16), (a0, zO 7 6 g0)] H := hP
  have hD : va_D A [(a1, zI K 200 ff4), (a2, zI K 200 ff6), (a3, zI K 200 ff8), (a4, zI K 200 ff10), (a5, zI K 600 ff16), (a0, zO 7 6 g0)] := hD
  subst y17
  subst y15
  subst y13
  subst y11
  subst y9
  subst y7
  subst y5
  have hP9 : va_P K.1 classes [(a0, zO 7 6 g0), (a1, zI K 200 (va_up f1 0 1)), (a2, zI K 200 (va_up f2 0 0)), (a3, zI K 200 (va_up f3 0 (nI j0))), (a4, zI K 200 (va_up f4 0 0)), (a5, zI K 600 (va_up (va_up (va_up f5 0 (-1)) 1 (-1)) 2 (-1)))] H := hP.sub [5, 0, 1, 2, 3, 4] rfl
  have hD9 : va_D A [(a0, zO 7 6 g0), (a1, zI K 200 (va_up f1 0 1)), (a2, zI K 200 (va_up f2 0 0)), (a3, zI K 200 (va_up f3 0 (nI j0))), (a4, zI K 200 (va_up f4 0 0)), (a5, zI K 600 (va_up (va_up (va_up f5 0 (-1)) 1 (-1)) 2 (-1)))] := hD.sub [5, 0, 1, 2, 3, 4] (by decide) rfl
  exact z_vret hx hb hr (fun _ => 0) trivial hP9 hD9 hS (Nat.le_of_ble_eq_true rfl) (Nat.le_of_ble_eq_true rfl) hlocks dX9_set_69
set_option maxHeartbeats 4000000 in
set_option maxRecDepth 100000 in
theorem cX11_tell_2 (l : Launch) (K : zK) (sz : Nat) (a0 : Nat) (a1 : Nat) (a2 : Nat) (a3 : Nat) (a4 : Nat) (a5 : Nat) (a6 : Nat) (a7 : Nat) (a8 : Nat) (g0 : Nat → Value) (g1 : Nat → Value) (f2 : Nat → Int32) (f3 : Nat → Int32) (f4 : Nat → Int32) (f5 : Nat → Int32) (f6 : Nat → Int32) (f7 : Nat → Int32) (f8 : Nat → Int32) (j0 : Nat) (hj0 : j0 < 16) (e0 : g0 0 = (.ref a1)) (e1 : g1 0 = (.ref a2)) (e2 : g1 5 = (.int 0)) (e3 : g1 1 = (.ref a3)) (e4 : g1 2 = (.ref a4)) (e5 : g1 3 = (.ref a5)) (e6 : g1 4 = (.ref a6)) (e7 : g0 1 = (.ref a7)) (e8 : g0 2 = (.ref a8)) : Met l yX11_tell (Cond.code yX11_tell cX11_tell 13 (some .int) :: WG) { frames := 2, cells := 0, slots := 0, locals := 46 } (zPre K [(a0, zO 9 9 g0), (a1, zO 7 6 g1), (a2, zI K 200 f2), (a3, zI K 200 f3), (a4, zI K 200 f4), (a5, zI K 200 f5), (a6, zI K 600 f6), (a7, zI K 200 f7), (a8, zI K 200 f8)] sz [.ref a0, .int 1, .int 0, .int (nI j0), .int 0, .int (-1), .int (-1), .int (-1)]) (va_Qi (fun (r : Int32) (_ : Nat → Nat) => r = 0) (zB K (va_A [(a0, zO 9 9 g0), (a1, zO 7 6 g1), (a2, zI K 200 f2), (a3, zI K 200 f3), (a4, zI K 200 f4), (a5, zI K 200 f5), (a6, zI K 600 f6), (a7, zI K 200 f7), (a8, zI K 200 f8)] sz) (fun u : Nat → Nat => [(a0, zO 9 9 g0), (a1, zO 7 6 (va_up g1 5 (.int 1))), (a2, zI K 200 (va_up f2 0 1)), (a3, zI K 200 (va_up f3 0 0)), (a4, zI K 200 (va_up f4 0 (nI j0))), (a5, zI K 200 (va_up f5 0 0)), (a6, zI K 600 (va_up (va_up (va_up (va_up (va_up (va_up f6 0 (-1)) 1 (-1)) 2 (-1)) 0 (-1)) 1 (-1)) 2 (-1))), (a7, zI K 200 (va_up f7 0 1)), (a8, zI K 200 (va_up f8 0 ((1 : Int32) <<< ((nI j0) &&& 31))))])) (va_A [(a0, zO 9 9 g0), (a1, zO 7 6 g1), (a2, zI K 200 f2), (a3, zI K 200 f3), (a4, zI K 200 f4), (a5, zI K 200 f5), (a6, zI K 600 f6), (a7, zI K 200 f7), (a8, zI K 200 f8)] sz)) 0 0 (va_A [(a0, zO 9 9 g0), (a1, zO 7 6 g1), (a2, zI K 200 f2), (a3, zI K 200 f3), (a4, zI K 200 f4), (a5, zI K 200 f5), (a6, zI K 600 f6), (a7, zI K 200 f7), (a8, zI K 200 f8)] sz) := by
  refine z_met (Qc := fun A => (va_Qi (fun (r : Int32) (_ : Nat → Nat) => r = 0) (zB K A (fun u : Nat → Nat => [(a0, zO 9 9 g0), (a1, zO 7 6 (va_up g1 5 (.int 1))), (a2, zI K 200 (va_up f2 0 1)), (a3, zI K 200 (va_up f3 0 0)), (a4, zI K 200 (va_up f4 0 (nI j0))), (a5, zI K 200 (va_up f5 0 0)), (a6, zI K 600 (va_up (va_up (va_up (va_up (va_up (va_up f6 0 (-1)) 1 (-1)) 2 (-1)) 0 (-1)) 1 (-1)) 2 (-1))), (a7, zI K 200 (va_up f7 0 1)), (a8, zI K 200 (va_up f8 0 ((1 : Int32) <<< ((nI j0) &&& 31))))])) A)) (by decide +kernel) (Nat.le_of_ble_eq_true rfl) ?_
  intro p e s m args below meth c A ls H hx hb hr hg hown hlocks hml hin hK hP hD hA hS hZ hl
  have hown : s.vm.findClass RX11 = some m.cls := hown
  have hl : lv_has ls 13 [(0, .ref a0), (1, .int 1), (2, .int 0), (3, .int (nI j0)), (4, .int 0), (5, .int (-1)), (6, .int (-1)), (7, .int (-1))] := hl
  refine lv_aload_n hx hb dX11_tell_0 rfl (lv_at hl 0 rfl) ?_
  refine z_get (v := .ref a1) hx hb hg hown hK hP i_X11 rfl 0 rfl 0 (by decide) mt304 e0 dX11_tell_1 ?_
  refine lv_iconst (v := 1) hx hb dX11_tell_4 (by decide) ?_
  refine z_calli [(a1, zO 7 6 g1), (a2, zI K 200 f2)] [(a0, zO 9 9 g0), (a3, zI K 200 f3), (a4, zI K 200 f4), (a5, zI K 200 f5), (a6, zI K 600 f6), (a7, zI K 200 f7), (a8, zI K 200 f8)] [1, 2] [0, 3, 4, 5, 6, 7, 8] hP hD hS hA rfl rfl (by decide) (by decide) (by decide +kernel) 0 0 rfl rfl (fun hPc hDc hF => z_runV (As := [.int 1]) (rest := []) ⟨hx, hb, hml, hown, hg⟩ (cX9_reserve_2 l K H.size a1 a2 g1 f2 e1 e2) kV_RX11_198 hd_X9_reserve rfl rfl ⟨(Nat.le_of_ble_eq_true rfl), (Nat.le_of_ble_eq_true rfl)⟩ hK hS hZ hPc hDc hF 0 rfl rfl rfl hl.1 rfl (Nat.le_of_ble_eq_true rfl) dX11_tell_5 ⟨(Nat.le_of_ble_eq_true rfl), (Nat.le_of_ble_eq_true rfl)⟩) (fun r3 u1 H locs w2 hP hD hS => ?_)
  subst w2
  have hP : va_P K.1 classes [(a0, zO 9 9 g0), (a3, zI K 200 f3), (a4, zI K 200 f4), (a5, zI K 200 f5), (a6, zI K 600 f6), (a7, zI K 200 f7), (a8, zI K 200 f8), (a1, zO 7 6 (va_up g1 5 (.int 1))), (a2, zI K 200 f2)] H := hP
  have hD : va_D A [(a0, zO 9 9 g0), (a3, zI K 200 f3), (a4, zI K 200 f4), (a5, zI K 200 f5), (a6, zI K 600 f6), (a7, zI K 200 f7), (a8, zI K 200 f8), (a1, zO 7 6 (va_up g1 5 (.int 1))), (a2, zI K 200 f2)] := hD
  refine lv_istore (lv' := [(8, .int 0), (0, .ref a0), (1, .int 1), (2, .int 0), (3, .int (nI j0)), (4, .int 0), (5, .int (-1)), (6, .int (-1)), (7, .int (-1))]) hx hb dX11_tell_8 hl (by decide) rfl (fun ls hl => ?_)
  refine lv_iload hx hb dX11_tell_10 (lv_at hl 0 rfl) ?_
  refine lv_iconst (v := (-1)) hx hb dX11_tell_12 (by decide) ?_
  refine lv_icmp_ne (tgt := 26) hx hb dX11_tell_13 (by decide) (fun _ => ?_) (fun c => absurd c (by decide))
  refine lv_aload_n hx hb dX11_tell_26 rfl (lv_at hl 1 rfl) ?_
  refine z_get (v := .ref a1) hx hb hg hown hK hP i_X11 rfl 0 rfl 0 (by decide) mt304 e0 dX11_tell_27 ?_
  refine lv_iload hx hb dX11_tell_30 (lv_at hl 0 rfl) ?_
  refine lv_iload_n hx hb dX11_tell_32 rfl (lv_at hl 2 rfl) ?_
  refine lv_iload_n hx hb dX11_tell_33 rfl (lv_at hl 3 rfl) ?_
  refine lv_iload_n hx hb dX11_tell_34 rfl (lv_at hl 4 rfl) ?_
  refine lv_iload hx hb dX11_tell_35 (lv_at hl 5 rfl) ?_
  refine z_callv [(a1, zO 7 6 (va_up g1 5 (.int 1))), (a2, zI K 200 f2), (a3, zI K 200 f3), (a4, zI K 200 f4), (a5, zI K 200 f5), (a6, zI K 600 f6)] [(a0, zO 9 9 g0), (a7, zI K 200 f7), (a8, zI K 200 f8)] [7, 8, 1, 2, 3, 4] [0, 5, 6] hP hD hS hA rfl rfl (by decide) (by decide) (by decide +kernel) 0 0 rfl rfl (fun hPc hDc hF => z_runV (As := [.int 0, .int 1, .int 0, .int (nI j0), .int 0]) (rest := []) ⟨hx, hb, hml, hown, hg⟩ (cX9_set_2 l K H.size a1 a2 a3 a4 a5 a6 (va_up g1 5 (.int 1)) f2 f3 f4 f5 f6 j0 hj0 zu_eq (zu_ne (by decide) e1) (zu_ne (by decide) e3) (zu_ne (by decide) e4) (zu_ne (by decide) e5) (zu_ne (by decide) e6)) kV_RX11_203 hd_X9_set rfl rfl ⟨(Nat.le_of_ble_eq_true rfl), (Nat.le_of_ble_eq_true rfl)⟩ hK hS hZ hPc hDc hF 0 rfl rfl rfl hl.1 rfl (Nat.le_of_ble_eq_true rfl) dX11_tell_37 ⟨(Nat.le_of_ble_eq_true rfl), (Nat.le_of_ble_eq_true rfl)⟩) (fun u4 H locs w5 hP hD hS => ?_)
  have hP : va_P K.1 classes [(a0, zO 9 9 g0), (a7, zI K 200 f7), (a8, zI K 200 f8), (a1, zO 7 6 (va_up g1 5 (.int 1))), (a2, zI K 200 (va_up f2 0 1)), (a3, zI K 200 (va_up f3 0 0)), (a4, zI K 200 (va_up f4 0 (nI j0))), (a5, zI K 200 (va_up f5 0 0)), (a6, zI K 600 (va_up (va_up (va_up f6 0 (-1)) 1 (-1)) 2 (-1)))] H := hP
  have hD : va_D A [(a0, zO 9 9 g0), (a7, zI K 200 f7), (a8, zI K 200 f8), (a1, zO 7 6 (va_up g1 5 (.int 1))), (a2, zI K 200 (va_up f2 0 1)), (a3, zI K 200 (va_up f3 0 0)), (a4, zI K 200 (va_up f4 0 (nI j0))), (a5, zI K 200 (va_up f5 0 0)), (a6, zI K 600 (va_up (va_up (va_up f6 0 (-1)) 1 (-1)) 2 (-1)))] := hD
  obtain ⟨ff7, y8⟩ : ∃ z, z = ((va_up (va_up (va_up f6 0 (-1)) 1 (-1)) 2 (-1)) : Nat → Int32) := ⟨_, rfl⟩
  rw [← y8] at hP hD
  refine lv_aload_n hx hb dX11_tell_40 rfl (lv_at hl 1 rfl) ?_
  refine z_get (v := .ref a1) hx hb hg hown hK hP i_X11 rfl 0 rfl 0 (by decide) mt304 e0 dX11_tell_41 ?_
  refine lv_iload hx hb dX11_tell_44 (lv_at hl 0 rfl) ?_
  refine lv_iload hx hb dX11_tell_46 (lv_at hl 6 rfl) ?_
  refine lv_iload hx hb dX11_tell_48 (lv_at hl 7 rfl) ?_
  refine lv_iload hx hb dX11_tell_50 (lv_at hl 8 rfl) ?_
  refine z_callv [(a1, zO 7 6 (va_up g1 5 (.int 1))), (a6, zI K 600 ff7)] [(a0, zO 9 9 g0), (a7, zI K 200 f7), (a8, zI K 200 f8), (a2, zI K 200 (va_up f2 0 1)), (a3, zI K 200 (va_up f3 0 0)), (a4, zI K 200 (va_up f4 0 (nI j0))), (a5, zI K 200 (va_up f5 0 0))] [3, 8] [0, 1, 2, 4, 5, 6, 7] hP hD hS hA rfl rfl (by decide) (by decide) (by decide +kernel) 0 0 rfl rfl (fun hPc hDc hF => z_runV (As := [.int 0, .int (-1), .int (-1), .int (-1)]) (rest := []) ⟨hx, hb, hml, hown, hg⟩ (cX9_join_1 l K H.size a1 a6 (va_up g1 5 (.int 1)) ff7 zu_eq (zu_ne (by decide) e6)) kV_RX11_207 hd_X9_join rfl rfl ⟨(Nat.le_of_ble_eq_true rfl), (Nat.le_of_ble_eq_true rfl)⟩ hK hS hZ hPc hDc hF 0 rfl rfl rfl hl.1 rfl (Nat.le_of_ble_eq_true rfl) dX11_tell_52 ⟨(Nat.le_of_ble_eq_true rfl), (Nat.le_of_ble_eq_true rfl)⟩) (fun u9 H locs w10 hP hD hS => ?_)
  have hP : va_P K.1 classes [(a0, zO 9 9 g0), (a7, zI K 200 f7), (a8, zI K 200 f8), (a2, zI K 200 (va_up f2 0 1)), (a3, zI K 200 (va_up f3 0 0)), (a4, zI K 200 (va_up f4 0 (nI j0))), (a5, zI K 200 (va_up f5 0 0)), (a1, zO 7 6 (va_up g1 5 (.int 1))), (a6, zI K 600 (va_up (va_up (va_up ff7 0 (-1)) 1 (-1)) 2 (-1)))] H := hP
  have hD : va_D A [(a0, zO 9 9 g0), (a7, zI K 200 f7), (a8, zI K 200 f8), (a2, zI K 200 (va_up f2 0 1)), (a3, zI K 200 (va_up f3 0 0)), (a4, zI K 200 (va_up f4 0 (nI j0))), (a5, zI K 200 (va_up f5 0 0)), (a1, zO 7 6 (va_up g1 5 (.int 1))), (a6, zI K 600 (va_up (va_up (va_up ff7 0 (-1)) 1 (-1)) 2 (-1)))] := hD
  obtain ⟨ff12, y13⟩ : ∃ z, z = ((va_up (va_up (va_up ff7 0 (-1)) 1 (-1)) 2 (-1)) : Nat → Int32) := ⟨_, rfl⟩
  rw [← y13] at hP hD
  refine lv_iconst (v := 1) hx hb dX11_tell_55 (by decide) ?_
  refine lv_istore (lv' := [(9, .int 1), (8, .int 0), (0, .ref a0), (1, .int 1), (2, .int 0), (3, .int (nI j0)), (4, .int 0), (5, .int (-1)), (6, .int (-1)), (7, .int (-1))]) hx hb dX11_tell_56 hl (by decide) rfl (fun ls hl => ?_)
  refine lv_iload_n hx hb dX11_tell_58 rfl (lv_at hl 3 rfl) ?_
  refine lv_iconst (v := 1) hx hb dX11_tell_59 (by decide) ?_
  refine lv_icmp_eq (tgt := 69) hx hb dX11_tell_60 (by decide) (fun _ => ?_) (fun c => absurd (by decide) c)
  refine lv_iconst (v := 1) hx hb dX11_tell_69 (by decide) ?_
  refine lv_iload_n hx hb dX11_tell_70 rfl (lv_at hl 5 rfl) ?_
  refine lv_ishl hx hb dX11_tell_71 ?_
  refine lv_goto (tgt := 76) hx hb dX11_tell_72 (by decide) ?_
  refine lv_istore (lv' := [(10, .int ((1 : Int32) <<< ((nI j0) &&& 31))), (9, .int 1), (8, .int 0), (0, .ref a0), (1, .int 1), (2, .int 0), (3, .int (nI j0)), (4, .int 0), (5, .int (-1)), (6, .int (-1)), (7, .int (-1))]) hx hb dX11_tell_76 hl (by decide) rfl (fun ls hl => ?_)
  refine lv_iconst (v := 0) hx hb dX11_tell_78 (by decide) ?_
  refine lv_istore (lv' := [(11, .int 0), (10, .int ((1 : Int32) <<< ((nI j0) &&& 31))), (9, .int 1), (8, .int 0), (0, .ref a0), (1, .int 1), (2, .int 0), (3, .int (nI j0)), (4, .int 0), (5, .int (-1)), (6, .int (-1)), (7, .int (-1))]) hx hb dX11_tell_79 hl (by decide) rfl (fun ls hl => ?_)
  refine lv_iload hx hb dX11_tell_81 (lv_at hl 0 rfl) ?_
  refine lv_iconst (v := 3) hx hb dX11_tell_83 (by decide) ?_
  refine lv_icmp_ge (tgt := 156) hx hb dX11_tell_84 (by decide) (fun c => absurd c (by decide)) (fun _ => ?_)
  refine lv_aload_n hx hb dX11_tell_87 rfl (lv_at hl 4 rfl) ?_
  refine z_get (v := .ref a1) hx hb hg hown hK hP i_X11 rfl 0 rfl 0 (by decide) mt304 e0 dX11_tell_88 ?_
  refine lv_iload hx hb dX11_tell_91 (lv_at hl 3 rfl) ?_
  refine lv_iload hx hb dX11_tell_93 (lv_at hl 0 rfl) ?_
  refine z_calli [(a1, zO 7 6 (va_up g1 5 (.int 1))), (a6, zI K 600 ff12)] [(a0, zO 9 9 g0), (a7, zI K 200 f7), (a8, zI K 200 f8), (a2, zI K 200 (va_up f2 0 1)), (a3, zI K 200 (va_up f3 0 0)), (a4, zI K 200 (va_up f4 0 (nI j0))), (a5, zI K 200 (va_up f5 0 0))] [7, 8] [0, 1, 2, 3, 4, 5, 6] hP hD hS hA rfl rfl (by decide) (by decide) (by decide +kernel) 0 0 rfl rfl (fun hPc hDc hF => z_runV (As := [.int 0, .int 0]) (rest := []) ⟨hx, hb, hml, hown, hg⟩ (cX9_part_1 l K H.size a1 a6 (va_up g1 5 (.int 1)) ff12 zu_eq (zu_ne (by decide) e6) (zu_of y13 (zu_ne (by decide) (zu_ne (by decide) zu_eq)))) kV_RX11_211 hd_X9_part rfl rfl ⟨(Nat.le_of_ble_eq_true rfl), (Nat.le_of_ble_eq_true rfl)⟩ hK hS hZ hPc hDc hF 0 rfl rfl rfl hl.1 rfl (Nat.le_of_ble_eq_true rfl) dX11_tell_95 ⟨(Nat.le_of_ble_eq_true rfl), (Nat.le_of_ble_eq_true rfl)⟩) (fun r16 u14 H locs w15 hP hD hS => ?_)
  subst w15
  have hP : va_P K.1 classes [(a0, zO 9 9 g0), (a7, zI K 200 f7), (a8, zI K 200 f8), (a2, zI K 200 (va_up f2 0 1)), (a3, zI K 200 (va_up f3 0 0)), (a4, zI K 200 (va_up f4 0 (nI j0))), (a5, zI K 200 (va_up f5 0 0)), (a1, zO 7 6 (va_up g1 5 (.int 1))), (a6, zI K 600 ff12)] H := hP
  have hD : va_D A [(a0, zO 9 9 g0), (a7, zI K 200 f7), (a8, zI K 200 f8), (a2, zI K 200 (va_up f2 0 1)), (a3, zI K 200 (va_up f3 0 0)), (a4, zI K 200 (va_up f4 0 (nI j0))), (a5, zI K 200 (va_up f5 0 0)), (a1, zO 7 6 (va_up g1 5 (.int 1))), (a6, zI K 600 ff12)] := hD
  refine lv_istore (lv' := [(12, .int (-1)), (11, .int 0), (10, .int ((1 : Int32) <<< ((nI j0) &&& 31))), (9, .int 1), (8, .int 0), (0, .ref a0), (1, .int 1), (2, .int 0), (3, .int (nI j0)), (4, .int 0), (5, .int (-1)), (6, .int (-1)), (7, .int (-1))]) hx hb dX11_tell_98 hl (by decide) rfl (fun ls hl => ?_)
  refine lv_iload hx hb dX11_tell_100 (lv_at hl 0 rfl) ?_
  refine lv_if_lt (tgt := 150) hx hb dX11_tell_102 (by decide) (fun _ => ?_) (fun c => absurd (by decide) c)
  refine lv_iinc (v := 1) (lv' := [(11, .int 1), (12, .int (-1)), (10, .int ((1 : Int32) <<< ((nI j0) &&& 31))), (9, .int 1), (8, .int 0), (0, .ref a0), (1, .int 1), (2, .int 0), (3, .int (nI j0)), (4, .int 0), (5, .int (-1)), (6, .int (-1)), (7, .int (-1))]) hx hb dX11_tell_150 hl (k := 1) rfl (by decide +kernel) (by decide) rfl (fun ls hl => ?_)
  refine lv_goto (tgt := 81) hx hb dX11_tell_153 (by decide) ?_
  refine lv_iload hx hb dX11_tell_81 (lv_at hl 0 rfl) ?_
  refine lv_iconst (v := 3) hx hb dX11_tell_83 (by decide) ?_
  refine lv_icmp_ge (tgt := 156) hx hb dX11_tell_84 (by decide) (fun c => absurd c (by decide)) (fun _ => ?_)
  refine lv_aload_n hx hb dX11_tell_87 rfl (lv_at hl 5 rfl) ?_
  refine z_get (v := .ref a1) hx hb hg hown hK hP i_X11 rfl 0 rfl 0 (by decide) mt304 e0 dX11_tell_88 ?_
  refine lv_iload hx hb dX11_tell_91 (lv_at hl 4 rfl) ?_
  refine lv_iload hx hb dX11_tell_93 (lv_at hl 0 rfl) ?_
  refine z_calli [(a1, zO 7 6 (va_up g1 5 (.int 1))), (a6, zI K 600 ff12)] [(a0, zO 9 9 g0), (a7, zI K 200 f7), (a8, zI K 200 f8), (a2, zI K 200 (va_up f2 0 1)), (a3, zI K 200 (va_up f3 0 0)), (a4, zI K 200 (va_up f4 0 (nI j0))), (a5, zI K 200 (va_up f5 0 0))] [7, 8] [0, 1, 2, 3, 4, 5, 6] hP hD hS hA rfl rfl (by decide) (by decide) (by decide +kernel) 0 0 rfl rfl (fun hPc hDc hF => z_runV (As := [.int 0, .int 1]) (rest := []) ⟨hx, hb, hml, hown, hg⟩ (cX9_part_2 l K H.size a1 a6 (va_up g1 5 (.int 1)) ff12 zu_eq (zu_ne (by decide) e6) (zu_of y13 (zu_ne (by decide) zu_eq))) kV_RX11_211 hd_X9_part rfl rfl ⟨(Nat.le_of_ble_eq_true rfl), (Nat.le_of_ble_eq_true rfl)⟩ hK hS hZ hPc hDc hF 0 rfl rfl rfl hl.1 rfl (Nat.le_of_ble_eq_true rfl) dX11_tell_95 ⟨(Nat.le_of_ble_eq_true rfl), (Nat.le_of_ble_eq_true rfl)⟩) (fun r19 u17 H locs w18 hP hD hS => ?_)
  subst w18
  have hP : va_P K.1 classes [(a0, zO 9 9 g0), (a7, zI K 200 f7), (a8, zI K 200 f8), (a2, zI K 200 (va_up f2 0 1)), (a3, zI K 200 (va_up f3 0 0)), (a4, zI K 200 (va_up f4 0 (nI j0))), (a5, zI K 200 (va_up f5 0 0)), (a1, zO 7 6 (va_up g1 5 (.int 1))), (a6, zI K 600 ff12)] H := hP
  have hD : va_D A [(a0, zO 9 9 g0), (a7, zI K 200 f7), (a8, zI K 200 f8), (a2, zI K 200 (va_up f2 0 1)), (a3, zI K 200 (va_up f3 0 0)), (a4, zI K 200 (va_up f4 0 (nI j0))), (a5, zI K 200 (va_up f5 0 0)), (a1, zO 7 6 (va_up g1 5 (.int 1))), (a6, zI K 600 ff12)] := hD
  refine lv_istore (lv' := [(12, .int (-1)), (11, .int 1), (10, .int ((1 : Int32) <<< ((nI j0) &&& 31))), (9, .int 1), (8, .int 0), (0, .ref a0), (1, .int 1), (2, .int 0), (3, .int (nI j0)), (4, .int 0), (5, .int (-1)), (6, .int (-1)), (7, .int (-1))]) hx hb dX11_tell_98 hl (by decide) rfl (fun ls hl => ?_)
  refine lv_iload hx hb dX11_tell_100 (lv_at hl 0 rfl) ?_
  refine lv_if_lt (tgt := 150) hx hb dX11_tell_102 (by decide) (fun _ => ?_) (fun c => absurd (by decide) c)
  refine lv_iinc (v := 2) (lv' := [(11, .int 2), (12, .int (-1)), (10, .int ((1 : Int32) <<< ((nI j0) &&& 31))), (9, .int 1), (8, .int 0), (0, .ref a0), (1, .int 1), (2, .int 0), (3, .int (nI j0)), (4, .int 0), (5, .int (-1)), (6, .int (-1)), (7, .int (-1))]) hx hb dX11_tell_150 hl (k := 1) rfl (by decide +kernel) (by decide) rfl (fun ls hl => ?_)
  refine lv_goto (tgt := 81) hx hb dX11_tell_153 (by decide) ?_
  refine lv_iload hx hb dX11_tell_81 (lv_at hl 0 rfl) ?_
  refine lv_iconst (v := 3) hx hb dX11_tell_83 (by decide) ?_
  refine lv_icmp_ge (tgt := 156) hx hb dX11_tell_84 (by decide) (fun c => absurd c (by decide)) (fun _ => ?_)
  refine lv_aload_n hx hb dX11_tell_87 rfl (lv_at hl 5 rfl) ?_
  refine z_get (v := .ref a1) hx hb hg hown hK hP i_X11 rfl 0 rfl 0 (by decide) mt304 e0 dX11_tell_88 ?_
  refine lv_iload hx hb dX11_tell_91 (lv_at hl 4 rfl) ?_
  refine lv_iload hx hb dX11_tell_93 (lv_at hl 0 rfl) ?_
  refine z_calli [(a1, zO 7 6 (va_up g1 5 (.int 1))), (a6, zI K 600 ff12)] [(a0, zO 9 9 g0), (a7, zI K 200 f7), (a8, zI K 200 f8), (a2, zI K 200 (va_up f2 0 1)), (a3, zI K 200 (va_up f3 0 0)), (a4, zI K 200 (va_up f4 0 (nI j0))), (a5, zI K 200 (va_up f5 0 0))] [7, 8] [0, 1, 2, 3, 4, 5, 6] hP hD hS hA rfl rfl (by decide) (by decide) (by decide +kernel) 0 0 rfl rfl (fun hPc hDc hF => z_runV (As := [.int 0, .int 2]) (rest := []) ⟨hx, hb, hml, hown, hg⟩ (cX9_part_3 l K H.size a1 a6 (va_up g1 5 (.int 1)) ff12 zu_eq (zu_ne (by decide) e6) (zu_of y13 zu_eq)) kV_RX11_211 hd_X9_part rfl rfl ⟨(Nat.le_of_ble_eq_true rfl), (Nat.le_of_ble_eq_true rfl)⟩ hK hS hZ hPc hDc hF 0 rfl rfl rfl hl.1 rfl (Nat.le_of_ble_eq_true rfl) dX11_tell_95 ⟨(Nat.le_of_ble_eq_true rfl), (Nat.le_of_ble_eq_true rfl)⟩) (fun r22 u20 H locs w21 hP hD hS => ?_)
  subst w21
  have hP : va_P K.1 classes [(a0, zO 9 9 g0), (a7, zI K 200 f7), (a8, zI K 200 f8), (a2, zI K 200 (va_up f2 0 1)), (a3, zI K 200 (va_up f3 0 0)), (a4, zI K 200 (va_up f4 0 (nI j0))), (a5, zI K 200 (va_up f5 0 0)), (a1, zO 7 6 (va_up g1 5 (.int 1))), (a6, zI K 600 ff12)] H := hP
  have hD : va_D A [(a0, zO 9 9 g0), (a7, zI K 200 f7), (a8, zI K 200 f8), (a2, zI K 200 (va_up f2 0 1)), (a3, zI K 200 (va_up f3 0 0)), (a4, zI K 200 (va_up f4 0 (nI j0))), (a5, zI K 200 (va_up f5 0 0)), (a1, zO 7 6 (va_up g1 5 (.int 1))), (a6, zI K 600 ff12)] := hD
  refine lv_istore (lv' := [(12, .int (-1)), (11, .int 2), (10, .int ((1 : Int32) <<< ((nI j0) &&& 31))), (9, .int 1), (8, .int 0), (0, .ref a0), (1, .int 1), (2, .int 0), (3, .int (nI j0)), (4, .int 0), (5, .int (-1)), (6, .int (-1)), (7, .int (-1))]) hx hb dX11_tell_98 hl (by decide) rfl (fun ls hl => ?_)
  refine lv_iload hx hb dX11_tell_100 (lv_at hl 0 rfl) ?_
  refine lv_if_lt (tgt := 150) hx hb dX11_tell_102 (by decide) (fun _ => ?_) (fun c => absurd (by decide) c)
  refine lv_iinc (v := 3) (lv' := [(11, .int 3), (12, .int (-1)), (10, .int ((1 : Int32) <<< ((nI j0) &&& 31))), (9, .int 1), (8, .int 0), (0, .ref a0), (1, .int 1), (2, .int 0), (3, .int (nI j0)), (4, .int 0), (5, .int (-1)), (6, .int (-1)), (7, .int (-1))]) hx hb dX11_tell_150 hl (k := 1) rfl (by decide +kernel) (by decide) rfl (fun ls hl => ?_)
  refine lv_goto (tgt := 81) hx hb dX11_tell_153 (by decide) ?_
  refine lv_iload hx hb dX11_tell_81 (lv_at hl 0 rfl) ?_
  refine lv_iconst (v := 3) hx hb dX11_tell_83 (by decide) ?_
  refine lv_icmp_ge (tgt := 156) hx hb dX11_tell_84 (by decide) (fun _ => ?_) (fun c => absurd (by decide) c)
  refine lv_aload_n hx hb dX11_tell_156 rfl (lv_at hl 5 rfl) ?_
  refine z_get (v := .ref a7) hx hb hg hown hK hP i_X11 rfl 0 rfl 1 (by decide) mt305 e7 dX11_tell_157 ?_
  refine lv_iload hx hb dX11_tell_160 (lv_at hl 4 rfl) ?_
  refine lv_iload hx hb dX11_tell_162 (lv_at hl 3 rfl) ?_
  refine lv_bipush (v := 81) hx hb dX11_tell_164 (by decide) ?_
  refine va_mmin hx hb (by rw [hml]; exact hl.1.symm) hown (hg _ mt485) (hg _ mt486) (hg _ mt15) (hg _ mt487) (Nat.le_of_ble_eq_true rfl) (Nat.le_of_ble_eq_true rfl) (Nat.le_of_ble_eq_true rfl) (Nat.le_of_ble_eq_true rfl) dX11_tell_166 ?_
  refine z_cst (v := 1) (by decide +kernel) ?_
  refine z_iast (j := 0) hx hb hK hP hD hS 1 rfl rfl (Nat.le_of_ble_eq_true rfl) (Nat.le_of_ble_eq_true rfl) dX11_tell_169 (fun ff23 H locs y24 hP hD hS => ?_)
  have hP : va_P K.1 classes [(a0, zO 9 9 g0), (a7, zI K 200 ff23), (a8, zI K 200 f8), (a2, zI K 200 (va_up f2 0 1)), (a3, zI K 200 (va_up f3 0 0)), (a4, zI K 200 (va_up f4 0 (nI j0))), (a5, zI K 200 (va_up f5 0 0)), (a1, zO 7 6 (va_up g1 5 (.int 1))), (a6, zI K 600 ff12)] H := hP
  have hD : va_D A [(a0, zO 9 9 g0), (a7, zI K 200 ff23), (a8, zI K 200 f8), (a2, zI K 200 (va_up f2 0 1)), (a3, zI K 200 (va_up f3 0 0)), (a4, zI K 200 (va_up f4 0 (nI j0))), (a5, zI K 200 (va_up f5 0 0)), (a1, zO 7 6 (va_up g1 5 (.int 1))), (a6, zI K 600 ff12)] := hD
  refine lv_aload_n hx hb dX11_tell_170 rfl (lv_at hl 5 rfl) ?_
  refine z_get (v := .ref a8) hx hb hg hown hK hP i_X11 rfl 0 rfl 2 (by decide) mt306 e8 dX11_tell_171 ?_
  refine lv_iload hx hb dX11_tell_174 (lv_at hl 4 rfl) ?_
  refine lv_iload hx hb dX11_tell_176 (lv_at hl 2 rfl) ?_
  refine z_iast (j := 0) hx hb hK hP hD hS 2 rfl rfl (Nat.le_of_ble_eq_true rfl) (Nat.le_of_ble_eq_true rfl) dX11_tell_178 (fun ff25 H locs y26 hP hD hS => ?_)
  have hP : va_P K.1 classes [(a0, zO 9 9 g0), (a7, zI K 200 ff23), (a8, zI K 200 ff25), (a2, zI K 200 (va_up f2 0 1)), (a3, zI K 200 (va_up f3 0 0)), (a4, zI K 200 (va_up f4 0 (nI j0))), (a5, zI K 200 (va_up f5 0 0)), (a1, zO 7 6 (va_up g1 5 (.int 1))), (a6, zI K 600 ff12)] H := hP
  have hD : va_D A [(a0, zO 9 9 g0), (a7, zI K 200 ff23), (a8, zI K 200 ff25), (a2, zI K 200 (va_up f2 0 1)), (a3, zI K 200 (va_up f3 0 0)), (a4, zI K 200 (va_up f4 0 (nI j0))), (a5, zI K 200 (va_up f5 0 0)), (a1, zO 7 6 (va_up g1 5 (.int 1))), (a6, zI K 600 ff12)] := hD
  refine lv_iload hx hb dX11_tell_179 (lv_at hl 4 rfl) ?_
  subst y26
  subst y24
  subst y13
  subst y8
  have hP9 : va_P K.1 classes [(a0, zO 9 9 g0), (a1, zO 7 6 (va_up g1 5 (.int 1))), (a2, zI K 200 (va_up f2 0 1)), (a3, zI K 200 (va_up f3 0 0)), (a4, zI K 200 (va_up f4 0 (nI j0))), (a5, zI K 200 (va_up f5 0 0)), (a6, zI K 600 (va_up (va_up (va_up (va_up (va_up (va_up f6 0 (-1)) 1 (-1)) 2 (-1)) 0 (-1)) 1 (-1)) 2 (-1))), (a7, zI K 200 (va_up f7 0 1)), (a8, zI K 200 (va_up f8 0 ((1 : Int32) <<< ((nI j0) &&& 31))))] H := hP.sub [0, 7, 3, 4, 5, 6, 8, 1, 2] rfl
  have hD9 : va_D A [(a0, zO 9 9 g0), (a1, zO 7 6 (va_up g1 5 (.int 1))), (a2, zI K 200 (va_up f2 0 1)), (a3, zI K 200 (va_up f3 0 0)), (a4, zI K 200 (va_up f4 0 (nI j0))), (a5, zI K 200 (va_up f5 0 0)), (a6, zI K 600 (va_up (va_up (va_up (va_up (va_up (va_up f6 0 (-1)) 1 (-1)) 2 (-1)) 0 (-1)) 1 (-1)) 2 (-1))), (a7, zI K 200 (va_up f7 0 1)), (a8, zI K 200 (va_up f8 0 ((1 : Int32) <<< ((nI j0) &&& 31))))] := hD.sub [0, 7, 3, 4, 5, 6, 8, 1, 2] (by decide) rfl
  exact z_iret hx hb hr (fun _ => 0) rfl hP9 hD9 hS (Nat.le_of_ble_eq_true rfl) (Nat.le_of_ble_eq_true rfl) hlocks dX11_tell_181
set_option maxHeartbeats 4000000 in
set_option maxRecDepth 100000 in
theorem cX11_var_2 (l : Launch) (K : zK) (sz : Nat) (a0 : Nat) (a1 : Nat) (a2 : Nat) (a3 : Nat) (a4 : Nat) (a5 : Nat) (a6 : Nat) (a7 : Nat) (a8 : Nat) (g0 : Nat → Value) (g1 : Nat → Value) (f2 : Nat → Int32) (f3 : Nat → Int32) (f4 : Nat → Int32) (f5 : Nat → Int32) (f6 : Nat → Int32) (f7 : Nat → Int32) (f8 : Nat → Int32) (j0 : Nat) (hj0 : j0 < 16) (e0 : g0 0 = (.ref a1)) (e1 : g1 0 = (.ref a2)) (e2 : g1 5 = (.int 0)) (e3 : g1 1 = (.ref a3)) (e4 : g1 2 = (.ref a4)) (e5 : g1 3 = (.ref a5)) (e6 : g1 4 = (.ref a6)) (e7 : g0 1 = (.ref a7)) (e8 : g0 2 = (.ref a8)) : Met l yX11_var (Cond.code yX11_var cX11_var 2 (some .int) :: WG) { frames := 3, cells := 0, slots := 0, locals := 78 } (zPre K [(a0, zO 9 9 g0), (a1, zO 7 6 g1), (a2, zI K 200 f2), (a3, zI K 200 f3), (a4, zI K 200 f4), (a5, zI K 200 f5), (a6, zI K 600 f6), (a7, zI K 200 f7), (a8, zI K 200 f8)] sz [.ref a0, .int (nI j0)]) (va_Qi (fun (r : Int32) (_ : Nat → Nat) => r = 0) (zB K (va_A [(a0, zO 9 9 g0), (a1, zO 7 6 g1), (a2, zI K 200 f2), (a3, zI K 200 f3), (a4, zI K 200 f4), (a5, zI K 200 f5), (a6, zI K 600 f6), (a7, zI K 200 f7), (a8, zI K 200 f8)] sz) (fun u : Nat → Nat => [])) (va_A [(a0, zO 9 9 g0), (a1, zO 7 6 g1), (a2, zI K 200 f2), (a3, zI K 200 f3), (a4, zI K 200 f4), (a5, zI K 200 f5), (a6, zI K 600 f6), (a7, zI K 200 f7), (a8, zI K 200 f8)] sz)) 0 0 (va_A [(a0, zO 9 9 g0), (a1, zO 7 6 g1), (a2, zI K 200 f2), (a3, zI K 200 f3), (a4, zI K 200 f4), (a5, zI K 200 f5), (a6, zI K 600 f6), (a7, zI K 200 f7), (a8, zI K 200 f8)] sz) := by
  refine z_met (Qc := fun A => (va_Qi (fun (r : Int32) (_ : Nat → Nat) => r = 0) (zB K A (fun u : Nat → Nat => [])) A)) (by decide +kernel) (Nat.le_of_ble_eq_true rfl) ?_
  intro p e s m args below meth c A ls H hx hb hr hg hown hlocks hml hin hK hP hD hA hS hZ hl
  have hown : s.vm.findClass RX11 = some m.cls := hown
  have hl : lv_has ls 2 [(0, .ref a0), (1, .int (nI j0))] := hl
  refine lv_aload_n hx hb dX11_var_0 rfl (lv_at hl 0 rfl) ?_
  refine lv_iload_n hx hb dX11_var_1 rfl (lv_at hl 1 rfl) ?_
  refine lv_bipush (v := 16) hx hb dX11_var_2 (by decide) ?_
  refine z_callv [(a0, zO 9 9 g0)] [(a1, zO 7 6 g1), (a2, zI K 200 f2), (a3, zI K 200 f3), (a4, zI K 200 f4), (a5, zI K 200 f5), (a6, zI K 600 f6), (a7, zI K 200 f7), (a8, zI K 200 f8)] [0] [1, 2, 3, 4, 5, 6, 7, 8] hP hD hS hA rfl rfl (by decide) (by decide) (by decide +kernel) 0 0 rfl rfl (fun hPc hDc hF => z_runV (As := [.int (nI j0), .int 16]) (rest := []) ⟨hx, hb, hml, hown, hg⟩ (cX11_checkRange_2 l K H.size a0 g0 j0 hj0) kV_RX11_72 hd_X11_checkRange rfl rfl ⟨(Nat.le_of_ble_eq_true rfl), (Nat.le_of_ble_eq_true rfl)⟩ hK hS hZ hPc hDc hF 0 rfl rfl rfl hl.1 rfl (Nat.le_of_ble_eq_true rfl) dX11_var_4 ⟨(Nat.le_of_ble_eq_true rfl), (Nat.le_of_ble_eq_true rfl)⟩) (fun u1 H locs w2 hP hD hS => ?_)
  have hP : va_P K.1 classes [(a1, zO 7 6 g1), (a2, zI K 200 f2), (a3, zI K 200 f3), (a4, zI K 200 f4), (a5, zI K 200 f5), (a6, zI K 600 f6), (a7, zI K 200 f7), (a8, zI K 200 f8), (a0, zO 9 9 g0)] H := hP
  have hD : va_D A [(a1, zO 7 6 g1), (a2, zI K 200 f2), (a3, zI K 200 f3), (a4, zI K 200 f4), (a5, zI K 200 f5), (a6, zI K 600 f6), (a7, zI K 200 f7), (a8, zI K 200 f8), (a0, zO 9 9 g0)] := hD
  refine lv_aload_n hx hb dX11_var_7 rfl (lv_at hl 0 rfl) ?_
  refine lv_iconst (v := 1) hx hb dX11_var_8 (by decide) ?_
  refine lv_iconst (v := 0) hx hb dX11_var_9 (by decide) ?_
  refine lv_iload_n hx hb dX11_var_10 rfl (lv_at hl 1 rfl) ?_
  refine lv_iconst (v := 0) hx hb dX11_var_11 (by decide) ?_
  refine lv_iconst (v := (-1)) hx hb dX11_var_12 (by decide) ?_
  refine lv_iconst (v := (-1)) hx hb dX11_var_13 (by decide) ?_
  refine lv_iconst (v := (-1)) hx hb dX11_var_14 (by decide) ?_
  refine z_calli [(a0, zO 9 9 g0), (a1, zO 7 6 g1), (a2, zI K 200 f2), (a3, zI K 200 f3), (a4, zI K 200 f4), (a5, zI K 200 f5), (a6, zI K 600 f6), (a7, zI K 200 f7), (a8, zI K 200 f8)] [] [8, 0, 1, 2, 3, 4, 5, 6, 7] [] hP hD hS hA rfl rfl (by decide) (by decide) (by decide +kernel) 0 0 rfl rfl (fun hPc hDc hF => z_runV (As := [.int 1, .int 0, .int (nI j0), .int 0, .int (-1), .int (-1), .int (-1)]) (rest := []) ⟨hx, hb, hml, hown, hg⟩ (cX11_tell_2 l K H.size a0 a1 a2 a3 a4 a5 a6 a7 a8 g0 g1 f2 f3 f4 f5 f6 f7 f8 j0 hj0 e0 e1 e2 e3 e4 e5 e6 e7 e8) kV_RX11_68 hd_X11_tell rfl rfl ⟨(Nat.le_of_ble_eq_true rfl), (Nat.le_of_ble_eq_true rfl)⟩ hK hS hZ hPc hDc hF 0 rfl rfl rfl hl.1 rfl (Nat.le_of_ble_eq_true rfl) dX11_var_15 ⟨(Nat.le_of_ble_eq_true rfl), (Nat.le_of_ble_eq_true rfl)⟩) (fun r6 u4 H locs w5 hP hD hS => ?_)
  subst w5
  have hP : va_P K.1 classes [(a0, zO 9 9 g0), (a1, zO 7 6 (va_up g1 5 (.int 1))), (a2, zI K 200 (va_up f2 0 1)), (a3, zI K 200 (va_up f3 0 0)), (a4, zI K 200 (va_up f4 0 (nI j0))), (a5, zI K 200 (va_up f5 0 0)), (a6, zI K 600 (va_up (va_up (va_up (va_up (va_up (va_up f6 0 (-1)) 1 (-1)) 2 (-1)) 0 (-1)) 1 (-1)) 2 (-1))), (a7, zI K 200 (va_up f7 0 1)), (a8, zI K 200 (va_up f8 0 ((1 : Int32) <<< ((nI j0) &&& 31))))] H := hP
  have hD : va_D A [(a0, zO 9 9 g0), (a1, zO 7 6 (va_up g1 5 (.int 1))), (a2, zI K 200 (va_up f2 0 1)), (a3, zI K 200 (va_up f3 0 0)), (a4, zI K 200 (va_up f4 0 (nI j0))), (a5, zI K 200 (va_up f5 0 0)), (a6, zI K 600 (va_up (va_up (va_up (va_up (va_up (va_up f6 0 (-1)) 1 (-1)) 2 (-1)) 0 (-1)) 1 (-1)) 2 (-1))), (a7, zI K 200 (va_up f7 0 1)), (a8, zI K 200 (va_up f8 0 ((1 : Int32) <<< ((nI j0) &&& 31))))] := hD
  obtain ⟨ff7, y8⟩ : ∃ z, z = ((va_up (va_up (va_up (va_up (va_up (va_up f6 0 (-1)) 1 (-1)) 2 (-1)) 0 (-1)) 1 (-1)) 2 (-1)) : Nat → Int32) := ⟨_, rfl⟩
  rw [← y8] at hP hD
  subst y8
  have hP9 : va_P K.1 classes [] H := hP.sub [] rfl
  have hD9 : va_D A [] := hD.sub [] (by decide) rfl
  exact z_iret hx hb hr (fun _ => 0) rfl hP9 hD9 hS (Nat.le_of_ble_eq_true rfl) (Nat.le_of_ble_eq_true rfl) hlocks dX11_var_18
set_option maxHeartbeats 4000000 in
set_option maxRecDepth 100000 in
theorem cL_var_2 (l : Launch) (hl9 : l.stackTraces = false) (K : zK) (sz : Nat) (a0 : Nat) (a1 : Nat) (a2 : Nat) (a3 : Nat) (a4 : Nat) (a5 : Nat) (a6 : Nat) (a7 : Nat) (a8 : Nat) (a9 : Nat) (g0 : Nat → Value) (g2 : Nat → Value) (f3 : Nat → Int32) (f4 : Nat → Int32) (f5 : Nat → Int32) (f6 : Nat → Int32) (f7 : Nat → Int32) (f8 : Nat → Int32) (f9 : Nat → Int32) (f1 : Nat → Int64) (j0 : Nat) (hj0 : j0 < 16) (e0 : g0 0 = (.ref a2)) (e1 : g2 0 = (.ref a3)) (e2 : g2 5 = (.int 0)) (e3 : g2 1 = (.ref a4)) (e4 : g2 2 = (.ref a5)) (e5 : g2 3 = (.ref a6)) (e6 : g2 4 = (.ref a7)) (e7 : g0 1 = (.ref a8)) (e8 : g0 2 = (.ref a9)) : vx_Met l yL_var (Cond.codeWith yL_var cL_var 4 (some .int) [(0, 9, 12, 18), (0, 9, 15, 13)] :: WG) { frames := 4, cells := 0, slots := 0, locals := 99 } (zPre K [(a0, zO 9 9 g0), (a2, zO 7 6 g2), (a3, zI K 200 f3), (a4, zI K 200 f4), (a5, zI K 200 f5), (a6, zI K 200 f6), (a7, zI K 600 f7), (a8, zI K 200 f8), (a9, zI K 200 f9), (a1, zJ K 1 f1)] sz [.ref a0, .int (nI j0), .ref a1]) (va_Qi (fun (r : Int32) (_ : Nat → Nat) => r = 0) (zB K (va_A [(a0, zO 9 9 g0), (a2, zO 7 6 g2), (a3, zI K 200 f3), (a4, zI K 200 f4), (a5, zI K 200 f5), (a6, zI K 200 f6), (a7, zI K 600 f7), (a8, zI K 200 f8), (a9, zI K 200 f9), (a1, zJ K 1 f1)] sz) (fun u : Nat → Nat => [(a1, zJ K 1 (va_up f1 0 0))])) (va_A [(a0, zO 9 9 g0), (a2, zO 7 6 g2), (a3, zI K 200 f3), (a4, zI K 200 f4), (a5, zI K 200 f5), (a6, zI K 200 f6), (a7, zI K 600 f7), (a8, zI K 200 f8), (a9, zI K 200 f9), (a1, zJ K 1 f1)] sz)) (vx_X (fun _ : Unit => False) (fun _ _ _ => True) (va_A [(a0, zO 9 9 g0), (a2, zO 7 6 g2), (a3, zI K 200 f3), (a4, zI K 200 f4), (a5, zI K 200 f5), (a6, zI K 200 f6), (a7, zI K 600 f7), (a8, zI K 200 f8), (a9, zI K 200 f9), (a1, zJ K 1 f1)] sz)) 0 0 (va_A [(a0, zO 9 9 g0), (a2, zO 7 6 g2), (a3, zI K 200 f3), (a4, zI K 200 f4), (a5, zI K 200 f5), (a6, zI K 200 f6), (a7, zI K 600 f7), (a8, zI K 200 f8), (a9, zI K 200 f9), (a1, zJ K 1 f1)] sz) := by
  refine z_hmet (Qc := fun A => (va_Qi (fun (r : Int32) (_ : Nat → Nat) => r = 0) (zB K A (fun u : Nat → Nat => [(a1, zJ K 1 (va_up f1 0 0))])) A)) (XC := fun A => vx_X (fun _ : Unit => False) (fun _ _ _ => True) A) (by decide +kernel) (Nat.le_of_ble_eq_true rfl) ?_
  intro p e s m args below meth c A ls H hx hb hr hg hown hlocks hml hTab hK hP hD hA hS hZ hl
  have hown : s.vm.findClass RL = some m.cls := hown
  have hl : lv_has ls 4 [(0, .ref a0), (1, .int (nI j0)), (2, .ref a1)] := hl
  refine lv_aload_n hx hb dL_var_0 rfl (lv_at hl 2 rfl) ?_
  refine lv_iconst (v := 0) hx hb dL_var_1 (by decide) ?_
  refine lv_aload_n hx hb dL_var_2 rfl (lv_at hl 0 rfl) ?_
  refine lv_iload_n hx hb dL_var_3 rfl (lv_at hl 1 rfl) ?_
  refine z_calli [(a0, zO 9 9 g0), (a2, zO 7 6 g2), (a3, zI K 200 f3), (a4, zI K 200 f4), (a5, zI K 200 f5), (a6, zI K 200 f6), (a7, zI K 600 f7), (a8, zI K 200 f8), (a9, zI K 200 f9)] [(a1, zJ K 1 f1)] [0, 1, 2, 3, 4, 5, 6, 7, 8] [9] hP hD hS hA rfl rfl (by decide) (by decide) (by decide +kernel) 0 0 rfl rfl (fun hPc hDc hF => z_runV (As := [.int (nI j0)]) (rest := [.int 0, .ref a1]) ⟨hx, hb, hml, hown, hg⟩ (cX11_var_2 l K H.size a0 a2 a3 a4 a5 a6 a7 a8 a9 g0 g2 f3 f4 f5 f6 f7 f8 f9 j0 hj0 e0 e1 e2 e3 e4 e5 e6 e7 e8) kV_RL_15 hd_X11_var rfl rfl ⟨(Nat.le_of_ble_eq_true rfl), (Nat.le_of_ble_eq_true rfl)⟩ hK hS hZ hPc hDc hF 0 rfl rfl rfl hl.1 rfl (Nat.le_of_ble_eq_true rfl) dL_var_4 ⟨(Nat.le_of_ble_eq_true rfl), (Nat.le_of_ble_eq_true rfl)⟩) (fun r3 u1 H locs w2 hP hD hS => ?_)
  subst w2
  have hP : va_P K.1 classes [(a1, zJ K 1 f1)] H := hP
  have hD : va_D A [(a1, zJ K 1 f1)] := hD
  refine lv_i2l hx hb dL_var_7 rfl ?_
  refine z_cstl (v := 0) (by decide +kernel) ?_
  refine z_last (j := 0) hx hb hK hP hD hS 0 rfl rfl (Nat.le_of_ble_eq_true rfl) (Nat.le_of_ble_eq_true rfl) dL_var_8 (fun ff4 H locs y5 hP hD hS => ?_)
  have hP : va_P K.1 classes [(a1, zJ K 1 ff4)] H := hP
  have hD : va_D A [(a1, zJ K 1 ff4)] := hD
  refine lv_goto (tgt := 18) hx hb dL_var_9 (by decide) ?_
  refine lv_iconst (v := 0) hx hb dL_var_18 (by decide) ?_
  subst y5
  have hP9 : va_P K.1 classes [(a1, zJ K 1 (va_up f1 0 0))] H := hP.sub [0] rfl
  have hD9 : va_D A [(a1, zJ K 1 (va_up f1 0 0))] := hD.sub [0] (by decide) rfl
  exact z_iret hx hb hr (fun _ => 0) rfl hP9 hD9 hS (Nat.le_of_ble_eq_true rfl) (Nat.le_of_ble_eq_true rfl) hlocks dL_var_19
set_option maxHeartbeats 4000000 in
set_option maxRecDepth 100000 in
theorem cX12_isIn_2 (l : Launch) (K : zK) (sz : Nat) (j0 : Nat) (hj0 : j0 < 16) : Met l yX12_isIn (Cond.code yX12_isIn cX12_isIn 3 (some .boolean) :: WG) { frames := 0, cells := 0, slots := 0, locals := 0 } (zPre K [] sz [.int (nI j0), .int 0, .int 15]) (va_Qi (fun (r : Int32) (_ : Nat → Nat) => r = 1) (zB K (va_A [] sz) (fun u : Nat → Nat => [])) (va_A [] sz)) 0 0 (va_A [] sz) := by
  refine z_met (Qc := fun A => (va_Qi (fun (r : Int32) (_ : Nat → Nat) => r = 1) (zB K A (fun u : Nat → Nat => [])) A)) (by decide +kernel) (Nat.le_of_ble_eq_true rfl) ?_
  intro p e s m args below meth c A ls H hx hb hr hg hown hlocks hml hin hK hP hD hA hS hZ hl
  have hown : s.vm.findClass RX12 = some m.cls := hown
  have hl : lv_has ls 3 [(0, .int (nI j0)), (1, .int 0), (2, .int 15)] := hl
  refine lv_iload_n hx hb dX12_isIn_0 rfl (lv_at hl 0 rfl) ?_
  refine lv_iload_n hx hb dX12_isIn_1 rfl (lv_at hl 1 rfl) ?_
  refine lv_icmp_lt (tgt := 14) hx hb dX12_isIn_2 (by decide) (fun c => absurd c ((by decide : ∀ j, j < 16 → ¬ ((nI j) < (0 : Int32))) j0 hj0)) (fun _ => ?_)
  refine lv_iload_n hx hb dX12_isIn_5 rfl (lv_at hl 0 rfl) ?_
  refine lv_iload_n hx hb dX12_isIn_6 rfl (lv_at hl 2 rfl) ?_
  refine lv_icmp_gt (tgt := 14) hx hb dX12_isIn_7 (by decide) (fun c => absurd c ((by decide : ∀ j, j < 16 → ¬ ((15 : Int32) < (nI j))) j0 hj0)) (fun _ => ?_)
  refine lv_iconst (v := 1) hx hb dX12_isIn_10 (by decide) ?_
  refine lv_goto (tgt := 15) hx hb dX12_isIn_11 (by decide) ?_
  have hP9 : va_P K.1 classes [] H := hP.sub [] rfl
  have hD9 : va_D A [] := hD.sub [] (by decide) rfl
  exact z_zret hx hb hr rfl (fun _ => 0) rfl hP9 hD9 hS (Nat.le_of_ble_eq_true rfl) (Nat.le_of_ble_eq_true rfl) hlocks dX12_isIn_15
set_option maxHeartbeats 4000000 in
set_option maxRecDepth 100000 in
theorem cX12_isName_2 (l : Launch) (K : zK) (sz : Nat) (j0 : Nat) (hj0 : j0 < 16) : Met l yX12_isName (Cond.code yX12_isName cX12_isName 1 (some .boolean) :: WG) { frames := 1, cells := 0, slots := 0, locals := 22 } (zPre K [] sz [.int (nI j0)]) (va_Qi (fun (r : Int32) (_ : Nat → Nat) => r = 1) (zB K (va_A [] sz) (fun u : Nat → Nat => [])) (va_A [] sz)) 0 0 (va_A [] sz) := by
  refine z_met (Qc := fun A => (va_Qi (fun (r : Int32) (_ : Nat → Nat) => r = 1) (zB K A (fun u : Nat → Nat => [])) A)) (by decide +kernel) (Nat.le_of_ble_eq_true rfl) ?_
  intro p e s m args below meth c A ls H hx hb hr hg hown hlocks hml hin hK hP hD hA hS hZ hl
  have hown : s.vm.findClass RX12 = some m.cls := hown
  have hl : lv_has ls 1 [(0, .int (nI j0))] := hl
  refine lv_iload_n hx hb dX12_isName_0 rfl (lv_at hl 0 rfl) ?_
  refine lv_iconst (v := 0) hx hb dX12_isName_1 (by decide) ?_
  refine lv_bipush (v := 15) hx hb dX12_isName_2 (by decide) ?_
  refine z_calli [] [] [] [] hP hD hS hA rfl rfl (by decide) (by decide) (by decide +kernel) 0 0 rfl rfl (fun hPc hDc hF => z_runS (As := [.int (nI j0), .int 0, .int 15]) (rest := []) ⟨hx, hb, hml, hown, hg⟩ (cX12_isIn_2 l K H.size j0 hj0) kS_RX12_175 hd_X12_isIn rfl rfl ⟨(Nat.le_of_ble_eq_true rfl), (Nat.le_of_ble_eq_true rfl)⟩ hK hS hZ hPc hDc hF rfl hl.1 rfl (Nat.le_of_ble_eq_true rfl) dX12_isName_4 ⟨(Nat.le_of_ble_eq_true rfl), (Nat.le_of_ble_eq_true rfl)⟩) (fun r3 u1 H locs w2 hP hD hS => ?_)
  subst w2
  have hP : va_P K.1 classes [] H := hP
  have hD : va_D A [] := hD
  have hP9 : va_P K.1 classes [] H := hP.sub [] rfl
  have hD9 : va_D A [] := hD.sub [] (by decide) rfl
  exact z_zret hx hb hr rfl (fun _ => 0) rfl hP9 hD9 hS (Nat.le_of_ble_eq_true rfl) (Nat.le_of_ble_eq_true rfl) hlocks dX12_isName_7
set_option maxHeartbeats 4000000 in
set_option maxRecDepth 100000 in
theorem cX12_mayTellAlone_2 (l : Launch) (K : zK) (sz : Nat) (a0 : Nat) (g0 : Nat → Value) (e0 : g0 0 = (.int 0)) : Met l yX12_mayTellAlone (Cond.code yX12_mayTellAlone cX12_mayTellAlone 2 (some .boolean) :: WG) { frames := 1, cells := 0, slots := 0, locals := 21 } (zPre K [(a0, zO 10 83 g0)] sz [.ref a0, .int 1]) (va_Qi (fun (r : Int32) (_ : Nat → Nat) => r = 1) (zB K (va_A [(a0, zO 10 83 g0)] sz) (fun u : Nat → Nat => [(a0, zO 10 83 (va_up g0 81 (.int 0)))])) (va_A [(a0, zO 10 83 g0)] sz)) 0 0 (va_A [(a0, zO 10 83 g0)] sz) := by
  refine z_met (Qc := fun A => (va_Qi (fun (r : Int32) (_ : Nat → Nat) => r = 1) (zB K A (fun u : Nat → Nat => [(a0, zO 10 83 (va_up g0 81 (.int 0)))])) A)) (by decide +kernel) (Nat.le_of_ble_eq_true rfl) ?_
  intro p e s m args below meth c A ls H hx hb hr hg hown hlocks hml hin hK hP hD hA hS hZ hl
  have hown : s.vm.findClass RX12 = some m.cls := hown
  have hl : lv_has ls 2 [(0, .ref a0), (1, .int 1)] := hl
  refine lv_aload_n hx hb dX12_mayTellAlone_0 rfl (lv_at hl 0 rfl) ?_
  refine lv_iload_n hx hb dX12_mayTellAlone_1 rfl (lv_at hl 1 rfl) ?_
  refine lv_if_ne (tgt := 9) hx hb dX12_mayTellAlone_2 (by decide) (fun _ => ?_) (fun c => absurd c (by decide))
  refine lv_aload_n hx hb dX12_mayTellAlone_9 rfl (lv_at hl 0 rfl) ?_
  refine z_get (v := .int 0) hx hb hg hown hK hP i_X12 rfl 0 rfl 0 (by decide) mt1280 e0 dX12_mayTellAlone_10 ?_
  refine lv_sipush (v := 200) hx hb dX12_mayTellAlone_13 (by decide) ?_
  refine lv_icmp_ne (tgt := 23) hx hb dX12_mayTellAlone_16 (by decide) (fun _ => ?_) (fun c => absurd c (by decide))
  refine lv_iconst (v := 0) hx hb dX12_mayTellAlone_23 (by decide) ?_
  refine z_calli [(a0, zO 10 83 g0)] [] [0] [] hP hD hS hA rfl rfl (by decide) (by decide) (by decide +kernel) 0 0 rfl rfl (fun hPc hDc hF => z_runV (As := [.int 0]) (rest := []) ⟨hx, hb, hml, hown, hg⟩ (cX12_can_1 l K H.size a0 g0) kV_RX12_182 hd_X12_can rfl rfl ⟨(Nat.le_of_ble_eq_true rfl), (Nat.le_of_ble_eq_true rfl)⟩ hK hS hZ hPc hDc hF 0 rfl rfl rfl hl.1 rfl (Nat.le_of_ble_eq_true rfl) dX12_mayTellAlone_24 ⟨(Nat.le_of_ble_eq_true rfl), (Nat.le_of_ble_eq_true rfl)⟩) (fun r3 u1 H locs w2 hP hD hS => ?_)
  subst w2
  have hP : va_P K.1 classes [(a0, zO 10 83 (va_up g0 81 (.int 0)))] H := hP
  have hD : va_D A [(a0, zO 10 83 (va_up g0 81 (.int 0)))] := hD
  have hP9 : va_P K.1 classes [(a0, zO 10 83 (va_up g0 81 (.int 0)))] H := hP.sub [0] rfl
  have hD9 : va_D A [(a0, zO 10 83 (va_up g0 81 (.int 0)))] := hD.sub [0] (by decide) rfl
  exact z_zret hx hb hr rfl (fun _ => 0) rfl hP9 hD9 hS (Nat.le_of_ble_eq_true rfl) (Nat.le_of_ble_eq_true rfl) hlocks dX12_mayTellAlone_27
set_option maxHeartbeats 4000000 in
set_option maxRecDepth 100000 in
theorem cX12_tells_2 (l : Launch) (K : zK) (sz : Nat) (a0 : Nat) (a1 : Nat) (a2 : Nat) (a3 : Nat) (a4 : Nat) (a5 : Nat) (a6 : Nat) (a7 : Nat) (g0 : Nat → Value) (f1 : Nat → Int32) (f2 : Nat → Int32) (f3 : Nat → Int32) (f4 : Nat → Int32) (f5 : Nat → Int32) (f6 : Nat → Int32) (f7 : Nat → Int32) (j0 : Nat) (hj0 : j0 < 16) (e0 : g0 1 = (.ref a1)) (e1 : g0 0 = (.int 0)) (e2 : g0 2 = (.ref a2)) (e3 : g0 3 = (.ref a3)) (e4 : g0 4 = (.ref a4)) (e5 : g0 6 = (.ref a5)) (e6 : g0 5 = (.ref a6)) (e7 : g0 7 = (.ref a7)) : Met l yX12_tells (Cond.code yX12_tells cX12_tells 11 (some .int) :: WG) { frames := 0, cells := 0, slots := 0, locals := 0 } (zPre K [(a0, zO 10 83 g0), (a1, zI K 200 f1), (a2, zI K 200 f2), (a3, zI K 200 f3), (a4, zI K 200 f4), (a5, zI K 600 f5), (a6, zI K 200 f6), (a7, zI K 200 f7)] sz [.ref a0, .int 1, .int 0, .int (nI j0), .int (-1), .int (-1), .int (-1)]) (va_Qi (fun (r : Int32) (_ : Nat → Nat) => r = 0) (zB K (va_A [(a0, zO 10 83 g0), (a1, zI K 200 f1), (a2, zI K 200 f2), (a3, zI K 200 f3), (a4, zI K 200 f4), (a5, zI K 600 f5), (a6, zI K 200 f6), (a7, zI K 200 f7)] sz) (fun u : Nat → Nat => [(a0, zO 10 83 (va_up g0 0 (.int 1))), (a1, zI K 200 (va_up f1 0 1)), (a2, zI K 200 (va_up f2 0 0)), (a3, zI K 200 (va_up f3 0 (nI j0))), (a4, zI K 200 (va_up f4 0 0)), (a5, zI K 600 (va_up (va_up (va_up f5 0 (-1)) 1 (-1)) 2 (-1))), (a6, zI K 200 (va_up f6 0 0)), (a7, zI K 200 (va_up f7 0 1))])) (va_A [(a0, zO 10 83 g0), (a1, zI K 200 f1), (a2, zI K 200 f2), (a3, zI K 200 f3), (a4, zI K 200 f4), (a5, zI K 600 f5), (a6, zI K 200 f6), (a7, zI K 200 f7)] sz)) 0 0 (va_A [(a0, zO 10 83 g0), (a1, zI K 200 f1), (a2, zI K 200 f2), (a3, zI K 200 f3), (a4, zI K 200 f4), (a5, zI K 600 f5), (a6, zI K 200 f6), (a7, zI K 200 f7)] sz) := by
  refine z_met (Qc := fun A => (va_Qi (fun (r : Int32) (_ : Nat → Nat) => r = 0) (zB K A (fun u : Nat → Nat => [(a0, zO 10 83 (va_up g0 0 (.int 1))), (a1, zI K 200 (va_up f1 0 1)), (a2, zI K 200 (va_up f2 0 0)), (a3, zI K 200 (va_up f3 0 (nI j0))), (a4, zI K 200 (va_up f4 0 0)), (a5, zI K 600 (va_up (va_up (va_up f5 0 (-1)) 1 (-1)) 2 (-1))), (a6, zI K 200 (va_up f6 0 0)), (a7, zI K 200 (va_up f7 0 1))])) A)) (by decide +kernel) (Nat.le_of_ble_eq_true rfl) ?_
  intro p e s m args below meth c A ls H hx hb hr hg hown hlocks hml hin hK hP hD hA hS hZ hl
  have hown : s.vm.findClass RX12 = some m.cls := hown
  have hl : lv_has ls 11 [(0, .ref a0), (1, .int 1), (2, .int 0), (3, .int (nI j0)), (4, .int (-1)), (5, .int (-1)), (6, .int (-1))] := hl
  refine lv_aload_n hx hb dX12_tells_0 rfl (lv_at hl 0 rfl) ?_
  refine z_get (v := .ref a1) hx hb hg hown hK hP i_X12 rfl 0 rfl 1 (by decide) mt1281 e0 dX12_tells_1 ?_
  refine lv_aload_n hx hb dX12_tells_4 rfl (lv_at hl 0 rfl) ?_
  refine z_get (v := .int 0) hx hb hg hown hK hP i_X12 rfl 0 rfl 0 (by decide) mt1280 e1 dX12_tells_5 ?_
  refine lv_iload_n hx hb dX12_tells_8 rfl (lv_at hl 1 rfl) ?_
  refine z_iast (j := 0) hx hb hK hP hD hS 1 rfl rfl (Nat.le_of_ble_eq_true rfl) (Nat.le_of_ble_eq_true rfl) dX12_tells_9 (fun ff1 H locs y2 hP hD hS => ?_)
  have hP : va_P K.1 classes [(a0, zO 10 83 g0), (a1, zI K 200 ff1), (a2, zI K 200 f2), (a3, zI K 200 f3), (a4, zI K 200 f4), (a5, zI K 600 f5), (a6, zI K 200 f6), (a7, zI K 200 f7)] H := hP
  have hD : va_D A [(a0, zO 10 83 g0), (a1, zI K 200 ff1), (a2, zI K 200 f2), (a3, zI K 200 f3), (a4, zI K 200 f4), (a5, zI K 600 f5), (a6, zI K 200 f6), (a7, zI K 200 f7)] := hD
  refine lv_aload_n hx hb dX12_tells_10 rfl (lv_at hl 0 rfl) ?_
  refine z_get (v := .ref a2) hx hb hg hown hK hP i_X12 rfl 0 rfl 2 (by decide) mt1282 e2 dX12_tells_11 ?_
  refine lv_aload_n hx hb dX12_tells_14 rfl (lv_at hl 0 rfl) ?_
  refine z_get (v := .int 0) hx hb hg hown hK hP i_X12 rfl 0 rfl 0 (by decide) mt1280 e1 dX12_tells_15 ?_
  refine lv_iload_n hx hb dX12_tells_18 rfl (lv_at hl 2 rfl) ?_
  refine z_iast (j := 0) hx hb hK hP hD hS 2 rfl rfl (Nat.le_of_ble_eq_true rfl) (Nat.le_of_ble_eq_true rfl) dX12_tells_19 (fun ff3 H locs y4 hP hD hS => ?_)
  have hP : va_P K.1 classes [(a0, zO 10 83 g0), (a1, zI K 200 ff1), (a2, zI K 200 ff3), (a3, zI K 200 f3), (a4, zI K 200 f4), (a5, zI K 600 f5), (a6, zI K 200 f6), (a7, zI K 200 f7)] H := hP
  have hD : va_D A [(a0, zO 10 83 g0), (a1, zI K 200 ff1), (a2, zI K 200 ff3), (a3, zI K 200 f3), (a4, zI K 200 f4), (a5, zI K 600 f5), (a6, zI K 200 f6), (a7, zI K 200 f7)] := hD
  refine lv_aload_n hx hb dX12_tells_20 rfl (lv_at hl 0 rfl) ?_
  refine z_get (v := .ref a3) hx hb hg hown hK hP i_X12 rfl 0 rfl 3 (by decide) mt1283 e3 dX12_tells_21 ?_
  refine lv_aload_n hx hb dX12_tells_24 rfl (lv_at hl 0 rfl) ?_
  refine z_get (v := .int 0) hx hb hg hown hK hP i_X12 rfl 0 rfl 0 (by decide) mt1280 e1 dX12_tells_25 ?_
  refine lv_iload_n hx hb dX12_tells_28 rfl (lv_at hl 3 rfl) ?_
  refine z_iast (j := 0) hx hb hK hP hD hS 3 rfl rfl (Nat.le_of_ble_eq_true rfl) (Nat.le_of_ble_eq_true rfl) dX12_tells_29 (fun ff5 H locs y6 hP hD hS => ?_)
  have hP : va_P K.1 classes [(a0, zO 10 83 g0), (a1, zI K 200 ff1), (a2, zI K 200 ff3), (a3, zI K 200 ff5), (a4, zI K 200 f4), (a5, zI K 600 f5), (a6, zI K 200 f6), (a7, zI K 200 f7)] H := hP
  have hD : va_D A [(a0, zO 10 83 g0), (a1, zI K 200 ff1), (a2, zI K 200 ff3), (a3, zI K 200 ff5), (a4, zI K 200 f4), (a5, zI K 600 f5), (a6, zI K 200 f6), (a7, zI K 200 f7)] := hD
  refine lv_aload_n hx hb dX12_tells_30 rfl (lv_at hl 0 rfl) ?_
  refine z_get (v := .ref a4) hx hb hg hown hK hP i_X12 rfl 0 rfl 4 (by decide) mt1284 e4 dX12_tells_31 ?_
  refine lv_aload_n hx hb dX12_tells_34 rfl (lv_at hl 0 rfl) ?_
  refine z_get (v := .int 0) hx hb hg hown hK hP i_X12 rfl 0 rfl 0 (by decide) mt1280 e1 dX12_tells_35 ?_
  refine lv_iconst (v := 0) hx hb dX12_tells_38 (by decide) ?_
  refine z_iast (j := 0) hx hb hK hP hD hS 4 rfl rfl (Nat.le_of_ble_eq_true rfl) (Nat.le_of_ble_eq_true rfl) dX12_tells_39 (fun ff7 H locs y8 hP hD hS => ?_)
  have hP : va_P K.1 classes [(a0, zO 10 83 g0), (a1, zI K 200 ff1), (a2, zI K 200 ff3), (a3, zI K 200 ff5), (a4, zI K 200 ff7), (a5, zI K 600 f5), (a6, zI K 200 f6), (a7, zI K 200 f7)] H := hP
  have hD : va_D A [(a0, zO 10 83 g0), (a1, zI K 200 ff1), (a2, zI K 200 ff3), (a3, zI K 200 ff5), (a4, zI K 200 ff7), (a5, zI K 600 f5), (a6, zI K 200 f6), (a7, zI K 200 f7)] := hD
  refine lv_aload_n hx hb dX12_tells_40 rfl (lv_at hl 0 rfl) ?_
  refine z_get (v := .ref a5) hx hb hg hown hK hP i_X12 rfl 0 rfl 6 (by decide) mt1286 e5 dX12_tells_41 ?_
  refine lv_iconst (v := 3) hx hb dX12_tells_44 (by decide) ?_
  refine lv_aload_n hx hb dX12_tells_45 rfl (lv_at hl 0 rfl) ?_
  refine z_get (v := .int 0) hx hb hg hown hK hP i_X12 rfl 0 rfl 0 (by decide) mt1280 e1 dX12_tells_46 ?_
  refine lv_imul hx hb dX12_tells_49 ?_
  refine z_cst (v := 0) (by decide +kernel) ?_
  refine lv_iload hx hb dX12_tells_50 (lv_at hl 4 rfl) ?_
  refine z_iast (j := 0) hx hb hK hP hD hS 5 rfl rfl (Nat.le_of_ble_eq_true rfl) (Nat.le_of_ble_eq_true rfl) dX12_tells_52 (fun ff9 H locs y10 hP hD hS => ?_)
  have hP : va_P K.1 classes [(a0, zO 10 83 g0), (a1, zI K 200 ff1), (a2, zI K 200 ff3), (a3, zI K 200 ff5), (a4, zI K 200 ff7), (a5, zI K 600 ff9), (a6, zI K 200 f6), (a7, zI K 200 f7)] H := hP
  have hD : va_D A [(a0, zO 10 83 g0), (a1, zI K 200 ff1), (a2, zI K 200 ff3), (a3, zI K 200 ff5), (a4, zI K 200 ff7), (a5, zI K 600 ff9), (a6, zI K 200 f6), (a7, zI K 200 f7)] := hD
  refine lv_aload_n hx hb dX12_tells_53 rfl (lv_at hl 0 rfl) ?_
  refine z_get (v := .ref a5) hx hb hg hown hK hP i_X12 rfl 0 rfl 6 (by decide) mt1286 e5 dX12_tells_54 ?_
  refine lv_iconst (v := 3) hx hb dX12_tells_57 (by decide) ?_
  refine lv_aload_n hx hb dX12_tells_58 rfl (lv_at hl 0 rfl) ?_
  refine z_get (v := .int 0) hx hb hg hown hK hP i_X12 rfl 0 rfl 0 (by decide) mt1280 e1 dX12_tells_59 ?_
  refine lv_imul hx hb dX12_tells_62 ?_
  refine z_cst (v := 0) (by decide +kernel) ?_
  refine lv_iconst (v := 1) hx hb dX12_tells_63 (by decide) ?_
  refine lv_iadd hx hb dX12_tells_64 ?_
  refine z_cst (v := 1) (by decide +kernel) ?_
  refine lv_iload hx hb dX12_tells_65 (lv_at hl 5 rfl) ?_
  refine z_iast (j := 1) hx hb hK hP hD hS 5 rfl rfl (Nat.le_of_ble_eq_true rfl) (Nat.le_of_ble_eq_true rfl) dX12_tells_67 (fun ff11 H locs y12 hP hD hS => ?_)
  have hP : va_P K.1 classes [(a0, zO 10 83 g0), (a1, zI K 200 ff1), (a2, zI K 200 ff3), (a3, zI K 200 ff5), (a4, zI K 200 ff7), (a5, zI K 600 ff11), (a6, zI K 200 f6), (a7, zI K 200 f7)] H := hP
  have hD : va_D A [(a0, zO 10 83 g0), (a1, zI K 200 ff1), (a2, zI K 200 ff3), (a3, zI K 200 ff5), (a4, zI K 200 ff7), (a5, zI K 600 ff11), (a6, zI K 200 f6), (a7, zI K 200 f7)] := hD
  refine lv_aload_n hx hb dX12_tells_68 rfl (lv_at hl 0 rfl) ?_
  refine z_get (v := .ref a5) hx hb hg hown hK hP i_X12 rfl 0 rfl 6 (by decide) mt1286 e5 dX12_tells_69 ?_
  refine lv_iconst (v := 3) hx hb dX12_tells_72 (by decide) ?_
  refine lv_aload_n hx hb dX12_tells_73 rfl (lv_at hl 0 rfl) ?_
  refine z_get (v := .int 0) hx hb hg hown hK hP i_X12 rfl 0 rfl 0 (by decide) mt1280 e1 dX12_tells_74 ?_
  refine lv_imul hx hb dX12_tells_77 ?_
  refine z_cst (v := 0) (by decide +kernel) ?_
  refine lv_iconst (v := 2) hx hb dX12_tells_78 (by decide) ?_
  refine lv_iadd hx hb dX12_tells_79 ?_
  refine z_cst (v := 2) (by decide +kernel) ?_
  refine lv_iload hx hb dX12_tells_80 (lv_at hl 6 rfl) ?_
  refine z_iast (j := 2) hx hb hK hP hD hS 5 rfl rfl (Nat.le_of_ble_eq_true rfl) (Nat.le_of_ble_eq_true rfl) dX12_tells_82 (fun ff13 H locs y14 hP hD hS => ?_)
  have hP : va_P K.1 classes [(a0, zO 10 83 g0), (a1, zI K 200 ff1), (a2, zI K 200 ff3), (a3, zI K 200 ff5), (a4, zI K 200 ff7), (a5, zI K 600 ff13), (a6, zI K 200 f6), (a7, zI K 200 f7)] H := hP
  have hD : va_D A [(a0, zO 10 83 g0), (a1, zI K 200 ff1), (a2, zI K 200 ff3), (a3, zI K 200 ff5), (a4, zI K 200 ff7), (a5, zI K 600 ff13), (a6, zI K 200 f6), (a7, zI K 200 f7)] := hD
  refine lv_iconst (v := 1) hx hb dX12_tells_83 (by decide) ?_
  refine lv_istore (lv' := [(7, .int 1), (0, .ref a0), (1, .int 1), (2, .int 0), (3, .int (nI j0)), (4, .int (-1)), (5, .int (-1)), (6, .int (-1))]) hx hb dX12_tells_84 hl (by decide) rfl (fun ls hl => ?_)
  refine lv_iconst (v := 0) hx hb dX12_tells_86 (by decide) ?_
  refine lv_istore (lv' := [(8, .int 0), (7, .int 1), (0, .ref a0), (1, .int 1), (2, .int 0), (3, .int (nI j0)), (4, .int (-1)), (5, .int (-1)), (6, .int (-1))]) hx hb dX12_tells_87 hl (by decide) rfl (fun ls hl => ?_)
  refine lv_iconst (v := 0) hx hb dX12_tells_89 (by decide) ?_
  refine lv_istore (lv' := [(9, .int 0), (8, .int 0), (7, .int 1), (0, .ref a0), (1, .int 1), (2, .int 0), (3, .int (nI j0)), (4, .int (-1)), (5, .int (-1)), (6, .int (-1))]) hx hb dX12_tells_90 hl (by decide) rfl (fun ls hl => ?_)
  refine lv_iload hx hb dX12_tells_92 (lv_at hl 0 rfl) ?_
  refine lv_iconst (v := 3) hx hb dX12_tells_94 (by decide) ?_
  refine lv_icmp_ge (tgt := 158) hx hb dX12_tells_95 (by decide) (fun c => absurd c (by decide)) (fun _ => ?_)
  refine lv_aload_n hx hb dX12_tells_98 rfl (lv_at hl 3 rfl) ?_
  refine z_get (v := .ref a5) hx hb hg hown hK hP i_X12 rfl 0 rfl 6 (by decide) mt1286 e5 dX12_tells_99 ?_
  refine lv_iconst (v := 3) hx hb dX12_tells_102 (by decide) ?_
  refine lv_aload_n hx hb dX12_tells_103 rfl (lv_at hl 3 rfl) ?_
  refine z_get (v := .int 0) hx hb hg hown hK hP i_X12 rfl 0 rfl 0 (by decide) mt1280 e1 dX12_tells_104 ?_
  refine lv_imul hx hb dX12_tells_107 ?_
  refine z_cst (v := 0) (by decide +kernel) ?_
  refine lv_iload hx hb dX12_tells_108 (lv_at hl 0 rfl) ?_
  refine lv_iadd hx hb dX12_tells_110 ?_
  refine z_cst (v := 0) (by decide +kernel) ?_
  refine z_iald (v := (-1)) (j := 0) hx hb hK hP 5 rfl rfl (Nat.le_of_ble_eq_true rfl) (Nat.le_of_ble_eq_true rfl) (zu_of y14 (zu_ne (by decide) (zu_of y12 (zu_ne (by decide) (zu_of y10 zu_eq))))) dX12_tells_111 ?_
  refine lv_istore (lv' := [(10, .int (-1)), (9, .int 0), (8, .int 0), (7, .int 1), (0, .ref a0), (1, .int 1), (2, .int 0), (3, .int (nI j0)), (4, .int (-1)), (5, .int (-1)), (6, .int (-1))]) hx hb dX12_tells_112 hl (by decide) rfl (fun ls hl => ?_)
  refine lv_iload hx hb dX12_tells_114 (lv_at hl 2 rfl) ?_
  refine lv_iload hx hb dX12_tells_116 (lv_at hl 0 rfl) ?_
  refine lv_iconst (v := (-1)) hx hb dX12_tells_118 (by decide) ?_
  refine lv_icmp_ne (tgt := 126) hx hb dX12_tells_119 (by decide) (fun c => absurd (by decide) c) (fun _ => ?_)
  refine lv_iconst (v := 0) hx hb dX12_tells_122 (by decide) ?_
  refine lv_goto (tgt := 127) hx hb dX12_tells_123 (by decide) ?_
  refine lv_iadd hx hb dX12_tells_127 ?_
  refine z_cst (v := 0) (by decide +kernel) ?_
  refine lv_istore (lv' := [(8, .int 0), (10, .int (-1)), (9, .int 0), (7, .int 1), (0, .ref a0), (1, .int 1), (2, .int 0), (3, .int (nI j0)), (4, .int (-1)), (5, .int (-1)), (6, .int (-1))]) hx hb dX12_tells_128 hl (by decide) rfl (fun ls hl => ?_)
  refine lv_iload hx hb dX12_tells_130 (lv_at hl 3 rfl) ?_
  refine lv_iload hx hb dX12_tells_132 (lv_at hl 1 rfl) ?_
  refine lv_iconst (v := (-1)) hx hb dX12_tells_134 (by decide) ?_
  refine lv_icmp_ne (tgt := 142) hx hb dX12_tells_135 (by decide) (fun c => absurd (by decide) c) (fun _ => ?_)
  refine lv_iconst (v := 0) hx hb dX12_tells_138 (by decide) ?_
  refine lv_goto (tgt := 149) hx hb dX12_tells_139 (by decide) ?_
  refine lv_iadd hx hb dX12_tells_149 ?_
  refine z_cst (v := 1) (by decide +kernel) ?_
  refine lv_istore (lv' := [(7, .int 1), (8, .int 0), (10, .int (-1)), (9, .int 0), (0, .ref a0), (1, .int 1), (2, .int 0), (3, .int (nI j0)), (4, .int (-1)), (5, .int (-1)), (6, .int (-1))]) hx hb dX12_tells_150 hl (by decide) rfl (fun ls hl => ?_)
  refine lv_iinc (v := 1) (lv' := [(9, .int 1), (7, .int 1), (8, .int 0), (10, .int (-1)), (0, .ref a0), (1, .int 1), (2, .int 0), (3, .int (nI j0)), (4, .int (-1)), (5, .int (-1)), (6, .int (-1))]) hx hb dX12_tells_152 hl (k := 3) rfl (by decide +kernel) (by decide) rfl (fun ls hl => ?_)
  refine lv_goto (tgt := 92) hx hb dX12_tells_155 (by decide) ?_
  refine lv_iload hx hb dX12_tells_92 (lv_at hl 0 rfl) ?_
  refine lv_iconst (v := 3) hx hb dX12_tells_94 (by decide) ?_
  refine lv_icmp_ge (tgt := 158) hx hb dX12_tells_95 (by decide) (fun c => absurd c (by decide)) (fun _ => ?_)
  refine lv_aload_n hx hb dX12_tells_98 rfl (lv_at hl 4 rfl) ?_
  refine z_get (v := .ref a5) hx hb hg hown hK hP i_X12 rfl 0 rfl 6 (by decide) mt1286 e5 dX12_tells_99 ?_
  refine lv_iconst (v := 3) hx hb dX12_tells_102 (by decide) ?_
  refine lv_aload_n hx hb dX12_tells_103 rfl (lv_at hl 4 rfl) ?_
  refine z_get (v := .int 0) hx hb hg hown hK hP i_X12 rfl 0 rfl 0 (by decide) mt1280 e1 dX12_tells_104 ?_
  refine lv_imul hx hb dX12_tells_107 ?_
  refine z_cst (v := 0) (by decide +kernel) ?_
  refine lv_iload hx hb dX12_tells_108 (lv_at hl 0 rfl) ?_
  refine lv_iadd hx hb dX12_tells_110 ?_
  refine z_cst (v := 1) (by decide +kernel) ?_
  refine z_iald (v := (-1)) (j := 1) hx hb hK hP 5 rfl rfl (Nat.le_of_ble_eq_true rfl) (Nat.le_of_ble_eq_true rfl) (zu_of y14 (zu_ne (by decide) (zu_of y12 zu_eq))) dX12_tells_111 ?_
  refine lv_istore (lv' := [(10, .int (-1)), (9, .int 1), (7, .int 1), (8, .int 0), (0, .ref a0), (1, .int 1), (2, .int 0), (3, .int (nI j0)), (4, .int (-1)), (5, .int (-1)), (6, .int (-1))]) hx hb dX12_tells_112 hl (by decide) rfl (fun ls hl => ?_)
  refine lv_iload hx hb dX12_tells_114 (lv_at hl 3 rfl) ?_
  refine lv_iload hx hb dX12_tells_116 (lv_at hl 0 rfl) ?_
  refine lv_iconst (v := (-1)) hx hb dX12_tells_118 (by decide) ?_
  refine lv_icmp_ne (tgt := 126) hx hb dX12_tells_119 (by decide) (fun c => absurd (by decide) c) (fun _ => ?_)
  refine lv_iconst (v := 0) hx hb dX12_tells_122 (by decide) ?_
  refine lv_goto (tgt := 127) hx hb dX12_tells_123 (by decide) ?_
  refine lv_iadd hx hb dX12_tells_127 ?_
  refine z_cst (v := 0) (by decide +kernel) ?_
  refine lv_istore (lv' := [(8, .int 0), (10, .int (-1)), (9, .int 1), (7, .int 1), (0, .ref a0), (1, .int 1), (2, .int 0), (3, .int (nI j0)), (4, .int (-1)), (5, .int (-1)), (6, .int (-1))]) hx hb dX12_tells_128 hl (by decide) rfl (fun ls hl => ?_)
  refine lv_iload hx hb dX12_tells_130 (lv_at hl 3 rfl) ?_
  refine lv_iload hx hb dX12_tells_132 (lv_at hl 1 rfl) ?_
  refine lv_iconst (v := (-1)) hx hb dX12_tells_134 (by decide) ?_
  refine lv_icmp_ne (tgt := 142) hx hb dX12_tells_135 (by decide) (fun c => absurd (by decide) c) (fun _ => ?_)
  refine lv_iconst (v := 0) hx hb dX12_tells_138 (by decide) ?_
  refine lv_goto (tgt := 149) hx hb dX12_tells_139 (by decide) ?_
  refine lv_iadd hx hb dX12_tells_149 ?_
  refine z_cst (v := 1) (by decide +kernel) ?_
  refine lv_istore (lv' := [(7, .int 1), (8, .int 0), (10, .int (-1)), (9, .int 1), (0, .ref a0), (1, .int 1), (2, .int 0), (3, .int (nI j0)), (4, .int (-1)), (5, .int (-1)), (6, .int (-1))]) hx hb dX12_tells_150 hl (by decide) rfl (fun ls hl => ?_)
  refine lv_iinc (v := 2) (lv' := [(9, .int 2), (7, .int 1), (8, .int 0), (10, .int (-1)), (0, .ref a0), (1, .int 1), (2, .int 0), (3, .int (nI j0)), (4, .int (-1)), (5, .int (-1)), (6, .int (-1))]) hx hb dX12_tells_152 hl (k := 3) rfl (by decide +kernel) (by decide) rfl (fun ls hl => ?_)
  refine lv_goto (tgt := 92) hx hb dX12_tells_155 (by decide) ?_
  refine lv_iload hx hb dX12_tells_92 (lv_at hl 0 rfl) ?_
  refine lv_iconst (v := 3) hx hb dX12_tells_94 (by decide) ?_
  refine lv_icmp_ge (tgt := 158) hx hb dX12_tells_95 (by decide) (fun c => absurd c (by decide)) (fun _ => ?_)
  refine lv_aload_n hx hb dX12_tells_98 rfl (lv_at hl 4 rfl) ?_
  refine z_get (v := .ref a5) hx hb hg hown hK hP i_X12 rfl 0 rfl 6 (by decide) mt1286 e5 dX12_tells_99 ?_
  refine lv_iconst (v := 3) hx hb dX12_tells_102 (by decide) ?_
  refine lv_aload_n hx hb dX12_tells_103 rfl (lv_at hl 4 rfl) ?_
  refine z_get (v := .int 0) hx hb hg hown hK hP i_X12 rfl 0 rfl 0 (by decide) mt1280 e1 dX12_tells_104 ?_
  refine lv_imul hx hb dX12_tells_107 ?_
  refine z_cst (v := 0) (by decide +kernel) ?_
  refine lv_iload hx hb dX12_tells_108 (lv_at hl 0 rfl) ?_
  refine lv_iadd hx hb dX12_tells_110 ?_
  refine z_cst (v := 2) (by decide +kernel) ?_
  refine z_iald (v := (-1)) (j := 2) hx hb hK hP 5 rfl rfl (Nat.le_of_ble_eq_true rfl) (Nat.le_of_ble_eq_true rfl) (zu_of y14 zu_eq) dX12_tells_111 ?_
  refine lv_istore (lv' := [(10, .int (-1)), (9, .int 2), (7, .int 1), (8, .int 0), (0, .ref a0), (1, .int 1), (2, .int 0), (3, .int (nI j0)), (4, .int (-1)), (5, .int (-1)), (6, .int (-1))]) hx hb dX12_tells_112 hl (by decide) rfl (fun ls hl => ?_)
  refine lv_iload hx hb dX12_tells_114 (lv_at hl 3 rfl) ?_
  refine lv_iload hx hb dX12_tells_116 (lv_at hl 0 rfl) ?_
  refine lv_iconst (v := (-1)) hx hb dX12_tells_118 (by decide) ?_
  refine lv_icmp_ne (tgt := 126) hx hb dX12_tells_119 (by decide) (fun c => absurd (by decide) c) (fun _ => ?_)
  refine lv_iconst (v := 0) hx hb dX12_tells_122 (by decide) ?_
  refine lv_goto (tgt := 127) hx hb dX12_tells_123 (by decide) ?_
  refine lv_iadd hx hb dX12_tells_127 ?_
  refine z_cst (v := 0) (by decide +kernel) ?_
  refine lv_istore (lv' := [(8, .int 0), (10, .int (-1)), (9, .int 2), (7, .int 1), (0, .ref a0), (1, .int 1), (2, .int 0), (3, .int (nI j0)), (4, .int (-1)), (5, .int (-1)), (6, .int (-1))]) hx hb dX12_tells_128 hl (by decide) rfl (fun ls hl => ?_)
  refine lv_iload hx hb dX12_tells_130 (lv_at hl 3 rfl) ?_
  refine lv_iload hx hb dX12_tells_132 (lv_at hl 1 rfl) ?_
  refine lv_iconst (v := (-1)) hx hb dX12_tells_134 (by decide) ?_
  refine lv_icmp_ne (tgt := 142) hx hb dX12_tells_135 (by decide) (fun c => absurd (by decide) c) (fun _ => ?_)
  refine lv_iconst (v := 0) hx hb dX12_tells_138 (by decide) ?_
  refine lv_goto (tgt := 149) hx hb dX12_tells_139 (by decide) ?_
  refine lv_iadd hx hb dX12_tells_149 ?_
  refine z_cst (v := 1) (by decide +kernel) ?_
  refine lv_istore (lv' := [(7, .int 1), (8, .int 0), (10, .int (-1)), (9, .int 2), (0, .ref a0), (1, .int 1), (2, .int 0), (3, .int (nI j0)), (4, .int (-1)), (5, .int (-1)), (6, .int (-1))]) hx hb dX12_tells_150 hl (by decide) rfl (fun ls hl => ?_)
  refine lv_iinc (v := 3) (lv' := [(9, .int 3), (7, .int 1), (8, .int 0), (10, .int (-1)), (0, .ref a0), (1, .int 1), (2, .int 0), (3, .int (nI j0)), (4, .int (-1)), (5, .int (-1)), (6, .int (-1))]) hx hb dX12_tells_152 hl (k := 3) rfl (by decide +kernel) (by decide) rfl (fun ls hl => ?_)
  refine lv_goto (tgt := 92) hx hb dX12_tells_155 (by decide) ?_
  refine lv_iload hx hb dX12_tells_92 (lv_at hl 0 rfl) ?_
  refine lv_iconst (v := 3) hx hb dX12_tells_94 (by decide) ?_
  refine lv_icmp_ge (tgt := 158) hx hb dX12_tells_95 (by decide) (fun _ => ?_) (fun c => absurd (by decide) c)
  refine lv_aload_n hx hb dX12_tells_158 rfl (lv_at hl 4 rfl) ?_
  refine z_get (v := .ref a6) hx hb hg hown hK hP i_X12 rfl 0 rfl 5 (by decide) mt1285 e6 dX12_tells_159 ?_
  refine lv_aload_n hx hb dX12_tells_162 rfl (lv_at hl 4 rfl) ?_
  refine z_get (v := .int 0) hx hb hg hown hK hP i_X12 rfl 0 rfl 0 (by decide) mt1280 e1 dX12_tells_163 ?_
  refine lv_iload hx hb dX12_tells_166 (lv_at hl 2 rfl) ?_
  refine z_iast (j := 0) hx hb hK hP hD hS 6 rfl rfl (Nat.le_of_ble_eq_true rfl) (Nat.le_of_ble_eq_true rfl) dX12_tells_168 (fun ff15 H locs y16 hP hD hS => ?_)
  have hP : va_P K.1 classes [(a0, zO 10 83 g0), (a1, zI K 200 ff1), (a2, zI K 200 ff3), (a3, zI K 200 ff5), (a4, zI K 200 ff7), (a5, zI K 600 ff13), (a6, zI K 200 ff15), (a7, zI K 200 f7)] H := hP
  have hD : va_D A [(a0, zO 10 83 g0), (a1, zI K 200 ff1), (a2, zI K 200 ff3), (a3, zI K 200 ff5), (a4, zI K 200 ff7), (a5, zI K 600 ff13), (a6, zI K 200 ff15), (a7, zI K 200 f7)] := hD
  refine lv_aload_n hx hb dX12_tells_169 rfl (lv_at hl 4 rfl) ?_
  refine z_get (v := .ref a7) hx hb hg hown hK hP i_X12 rfl 0 rfl 7 (by decide) mt1287 e7 dX12_tells_170 ?_
  refine lv_aload_n hx hb dX12_tells_173 rfl (lv_at hl 4 rfl) ?_
  refine z_get (v := .int 0) hx hb hg hown hK hP i_X12 rfl 0 rfl 0 (by decide) mt1280 e1 dX12_tells_174 ?_
  refine lv_iload hx hb dX12_tells_177 (lv_at hl 1 rfl) ?_
  refine lv_sipush (v := 1000) hx hb dX12_tells_179 (by decide) ?_
  refine lv_icmp_le (tgt := 191) hx hb dX12_tells_182 (by decide) (fun _ => ?_) (fun c => absurd (by decide) c)
  refine lv_iload hx hb dX12_tells_191 (lv_at hl 1 rfl) ?_
  refine z_iast (j := 0) hx hb hK hP hD hS 7 rfl rfl (Nat.le_of_ble_eq_true rfl) (Nat.le_of_ble_eq_true rfl) dX12_tells_193 (fun ff17 H locs y18 hP hD hS => ?_)
  have hP : va_P K.1 classes [(a0, zO 10 83 g0), (a1, zI K 200 ff1), (a2, zI K 200 ff3), (a3, zI K 200 ff5), (a4, zI K 200 ff7), (a5, zI K 600 ff13), (a6, zI K 200 ff15), (a7, zI K 200 ff17)] H := hP
  have hD : va_D A [(a0, zO 10 83 g0), (a1, zI K 200 ff1), (a2, zI K 200 ff3), (a3, zI K 200 ff5), (a4, zI K 200 ff7), (a5, zI K 600 ff13), (a6, zI K 200 ff15), (a7, zI K 200 ff17)] := hD
  refine lv_aload_n hx hb dX12_tells_194 rfl (lv_at hl 4 rfl) ?_
  refine lv_dup hx hb dX12_tells_195 rfl ?_
  refine z_get (v := .int 0) hx hb hg hown hK hP i_X12 rfl 0 rfl 0 (by decide) mt1280 e1 dX12_tells_196 ?_
  refine lv_iconst (v := 1) hx hb dX12_tells_199 (by decide) ?_
  refine lv_iadd hx hb dX12_tells_200 ?_
  refine z_cst (v := 1) (by decide +kernel) ?_
  refine z_put hx hb hg hown hK hP hD hS i_X12 rfl tyX12_ok nmX12 0 rfl 0 (by decide) mt1280 rfl rfl rfl dX12_tells_201 (fun gg19 H locs y20 hP hD hS => ?_)
  have hP : va_P K.1 classes [(a0, zO 10 83 gg19), (a1, zI K 200 ff1), (a2, zI K 200 ff3), (a3, zI K 200 ff5), (a4, zI K 200 ff7), (a5, zI K 600 ff13), (a6, zI K 200 ff15), (a7, zI K 200 ff17)] H := hP
  have hD : va_D A [(a0, zO 10 83 gg19), (a1, zI K 200 ff1), (a2, zI K 200 ff3), (a3, zI K 200 ff5), (a4, zI K 200 ff7), (a5, zI K 600 ff13), (a6, zI K 200 ff15), (a7, zI K 200 ff17)] := hD
  refine lv_aload_n hx hb dX12_tells_204 rfl (lv_at hl 4 rfl) ?_
  refine z_get (v := .int 1) hx hb hg hown hK hP i_X12 rfl 0 rfl 0 (by decide) mt1280 (zu_of y20 zu_eq) dX12_tells_205 ?_
  refine lv_iconst (v := 1) hx hb dX12_tells_208 (by decide) ?_
  refine lv_isub hx hb dX12_tells_209 ?_
  refine z_cst (v := 0) (by decide +kernel) ?_
  subst y20
  subst y18
  subst y16
  subst y14
  subst y12
  subst y10
  subst y8
  subst y6
  subst y4
  subst y2
  have hP9 : va_P K.1 classes [(a0, zO 10 83 (va_up g0 0 (.int 1))), (a1, zI K 200 (va_up f1 0 1)), (a2, zI K 200 (va_up f2 0 0)), (a3, zI K 200 (va_up f3 0 (nI j0))), (a4, zI K 200 (va_up f4 0 0)), (a5, zI K 600 (va_up (va_up (va_up f5 0 (-1)) 1 (-1)) 2 (-1))), (a6, zI K 200 (va_up f6 0 0)), (a7, zI K 200 (va_up f7 0 1))] H := hP.sub [0, 1, 2, 3, 4, 5, 6, 7] rfl
  have hD9 : va_D A [(a0, zO 10 83 (va_up g0 0 (.int 1))), (a1, zI K 200 (va_up f1 0 1)), (a2, zI K 200 (va_up f2 0 0)), (a3, zI K 200 (va_up f3 0 (nI j0))), (a4, zI K 200 (va_up f4 0 0)), (a5, zI K 600 (va_up (va_up (va_up f5 0 (-1)) 1 (-1)) 2 (-1))), (a6, zI K 200 (va_up f6 0 0)), (a7, zI K 200 (va_up f7 0 1))] := hD.sub [0, 1, 2, 3, 4, 5, 6, 7] (by decide) rfl
  exact z_iret hx hb hr (fun _ => 0) rfl hP9 hD9 hS (Nat.le_of_ble_eq_true rfl) (Nat.le_of_ble_eq_true rfl) hlocks dX12_tells_210
set_option maxHeartbeats 4000000 in
set_option maxRecDepth 100000 in
theorem cX12_var_2 (l : Launch) (K : zK) (sz : Nat) (a0 : Nat) (a1 : Nat) (a2 : Nat) (a3 : Nat) (a4 : Nat) (a5 : Nat) (a6 : Nat) (a7 : Nat) (g0 : Nat → Value) (f1 : Nat → Int32) (f2 : Nat → Int32) (f3 : Nat → Int32) (f4 : Nat → Int32) (f5 : Nat → Int32) (f6 : Nat → Int32) (f7 : Nat → Int32) (j0 : Nat) (hj0 : j0 < 16) (e0 : g0 0 = (.int 0)) (e1 : g0 1 = (.ref a1)) (e2 : g0 2 = (.ref a2)) (e3 : g0 3 = (.ref a3)) (e4 : g0 4 = (.ref a4)) (e5 : g0 6 = (.ref a5)) (e6 : g0 5 = (.ref a6)) (e7 : g0 7 = (.ref a7)) : Met l yX12_var (Cond.code yX12_var cX12_var 2 (some .int) :: WG) { frames := 2, cells := 0, slots := 0, locals := 42 } (zPre K [(a0, zO 10 83 g0), (a1, zI K 200 f1), (a2, zI K 200 f2), (a3, zI K 200 f3), (a4, zI K 200 f4), (a5, zI K 600 f5), (a6, zI K 200 f6), (a7, zI K 200 f7)] sz [.ref a0, .int (nI j0)]) (va_Qi (fun (r : Int32) (_ : Nat → Nat) => r = 0) (zB K (va_A [(a0, zO 10 83 g0), (a1, zI K 200 f1), (a2, zI K 200 f2), (a3, zI K 200 f3), (a4, zI K 200 f4), (a5, zI K 600 f5), (a6, zI K 200 f6), (a7, zI K 200 f7)] sz) (fun u : Nat → Nat => [(a0, zO 10 83 (va_up (va_up g0 81 (.int 0)) 0 (.int 1)))])) (va_A [(a0, zO 10 83 g0), (a1, zI K 200 f1), (a2, zI K 200 f2), (a3, zI K 200 f3), (a4, zI K 200 f4), (a5, zI K 600 f5), (a6, zI K 200 f6), (a7, zI K 200 f7)] sz)) 0 0 (va_A [(a0, zO 10 83 g0), (a1, zI K 200 f1), (a2, zI K 200 f2), (a3, zI K 200 f3), (a4, zI K 200 f4), (a5, zI K 600 f5), (a6, zI K 200 f6), (a7, zI K 200 f7)] sz) := by
  refine z_met (Qc := fun A => (va_Qi (fun (r : Int32) (_ : Nat → Nat) => r = 0) (zB K A (fun u : Nat → Nat => [(a0, zO 10 83 (va_up (va_up g0 81 (.int 0)) 0 (.int 1)))])) A)) (by decide +kernel) (Nat.le_of_ble_eq_true rfl) ?_
  intro p e s m args below meth c A ls H hx hb hr hg hown hlocks hml hin hK hP hD hA hS hZ hl
  have hown : s.vm.findClass RX12 = some m.cls := hown
  have hl : lv_has ls 2 [(0, .ref a0), (1, .int (nI j0))] := hl
  refine lv_aload_n hx hb dX12_var_0 rfl (lv_at hl 0 rfl) ?_
  refine lv_iload_n hx hb dX12_var_1 rfl (lv_at hl 1 rfl) ?_
  refine z_calli [] [(a0, zO 10 83 g0), (a1, zI K 200 f1), (a2, zI K 200 f2), (a3, zI K 200 f3), (a4, zI K 200 f4), (a5, zI K 600 f5), (a6, zI K 200 f6), (a7, zI K 200 f7)] [] [0, 1, 2, 3, 4, 5, 6, 7] hP hD hS hA rfl rfl (by decide) (by decide) (by decide +kernel) 0 0 rfl rfl (fun hPc hDc hF => z_runS (As := [.int (nI j0)]) (rest := [.ref a0]) ⟨hx, hb, hml, hown, hg⟩ (cX12_isName_2 l K H.size j0 hj0) kS_RX12_190 hd_X12_isName rfl rfl ⟨(Nat.le_of_ble_eq_true rfl), (Nat.le_of_ble_eq_true rfl)⟩ hK hS hZ hPc hDc hF rfl hl.1 rfl (Nat.le_of_ble_eq_true rfl) dX12_var_2 ⟨(Nat.le_of_ble_eq_true rfl), (Nat.le_of_ble_eq_true rfl)⟩) (fun r3 u1 H locs w2 hP hD hS => ?_)
  subst w2
  have hP : va_P K.1 classes [(a0, zO 10 83 g0), (a1, zI K 200 f1), (a2, zI K 200 f2), (a3, zI K 200 f3), (a4, zI K 200 f4), (a5, zI K 600 f5), (a6, zI K 200 f6), (a7, zI K 200 f7)] H := hP
  have hD : va_D A [(a0, zO 10 83 g0), (a1, zI K 200 f1), (a2, zI K 200 f2), (a3, zI K 200 f3), (a4, zI K 200 f4), (a5, zI K 600 f5), (a6, zI K 200 f6), (a7, zI K 200 f7)] := hD
  refine z_calli [(a0, zO 10 83 g0)] [(a1, zI K 200 f1), (a2, zI K 200 f2), (a3, zI K 200 f3), (a4, zI K 200 f4), (a5, zI K 600 f5), (a6, zI K 200 f6), (a7, zI K 200 f7)] [0] [1, 2, 3, 4, 5, 6, 7] hP hD hS hA rfl rfl (by decide) (by decide) (by decide +kernel) 0 0 rfl rfl (fun hPc hDc hF => z_runV (As := [.int 1]) (rest := []) ⟨hx, hb, hml, hown, hg⟩ (cX12_mayTellAlone_2 l K H.size a0 g0 e0) kV_RX12_193 hd_X12_mayTellAlone rfl rfl ⟨(Nat.le_of_ble_eq_true rfl), (Nat.le_of_ble_eq_true rfl)⟩ hK hS hZ hPc hDc hF 0 rfl rfl rfl hl.1 rfl (Nat.le_of_ble_eq_true rfl) dX12_var_5 ⟨(Nat.le_of_ble_eq_true rfl), (Nat.le_of_ble_eq_true rfl)⟩) (fun r6 u4 H locs w5 hP hD hS => ?_)
  subst w5
  have hP : va_P K.1 classes [(a1, zI K 200 f1), (a2, zI K 200 f2), (a3, zI K 200 f3), (a4, zI K 200 f4), (a5, zI K 600 f5), (a6, zI K 200 f6), (a7, zI K 200 f7), (a0, zO 10 83 (va_up g0 81 (.int 0)))] H := hP
  have hD : va_D A [(a1, zI K 200 f1), (a2, zI K 200 f2), (a3, zI K 200 f3), (a4, zI K 200 f4), (a5, zI K 600 f5), (a6, zI K 200 f6), (a7, zI K 200 f7), (a0, zO 10 83 (va_up g0 81 (.int 0)))] := hD
  refine lv_if_eq (tgt := 24) hx hb dX12_var_8 (by decide) (fun c => absurd c (by decide)) (fun _ => ?_)
  refine lv_aload_n hx hb dX12_var_11 rfl (lv_at hl 0 rfl) ?_
  refine lv_iconst (v := 1) hx hb dX12_var_12 (by decide) ?_
  refine lv_iconst (v := 0) hx hb dX12_var_13 (by decide) ?_
  refine lv_iload_n hx hb dX12_var_14 rfl (lv_at hl 1 rfl) ?_
  refine lv_iconst (v := (-1)) hx hb dX12_var_15 (by decide) ?_
  refine lv_iconst (v := (-1)) hx hb dX12_var_16 (by decide) ?_
  refine lv_iconst (v := (-1)) hx hb dX12_var_17 (by decide) ?_
  refine z_calli [(a0, zO 10 83 (va_up g0 81 (.int 0))), (a1, zI K 200 f1), (a2, zI K 200 f2), (a3, zI K 200 f3), (a4, zI K 200 f4), (a5, zI K 600 f5), (a6, zI K 200 f6), (a7, zI K 200 f7)] [] [7, 0, 1, 2, 3, 4, 5, 6] [] hP hD hS hA rfl rfl (by decide) (by decide) (by decide +kernel) 0 0 rfl rfl (fun hPc hDc hF => z_runV (As := [.int 1, .int 0, .int (nI j0), .int (-1), .int (-1), .int (-1)]) (rest := []) ⟨hx, hb, hml, hown, hg⟩ (cX12_tells_2 l K H.size a0 a1 a2 a3 a4 a5 a6 a7 (va_up g0 81 (.int 0)) f1 f2 f3 f4 f5 f6 f7 j0 hj0 (zu_ne (by decide) e1) (zu_ne (by decide) e0) (zu_ne (by decide) e2) (zu_ne (by decide) e3) (zu_ne (by decide) e4) (zu_ne (by decide) e5) (zu_ne (by decide) e6) (zu_ne (by decide) e7)) kV_RX12_186 hd_X12_tells rfl rfl ⟨(Nat.le_of_ble_eq_true rfl), (Nat.le_of_ble_eq_true rfl)⟩ hK hS hZ hPc hDc hF 0 rfl rfl rfl hl.1 rfl (Nat.le_of_ble_eq_true rfl) dX12_var_18 ⟨(Nat.le_of_ble_eq_true rfl), (Nat.le_of_ble_eq_true rfl)⟩) (fun r9 u7 H locs w8 hP hD hS => ?_)
  subst w8
  have hP : va_P K.1 classes [(a0, zO 10 83 (va_up (va_up g0 81 (.int 0)) 0 (.int 1))), (a1, zI K 200 (va_up f1 0 1)), (a2, zI K 200 (va_up f2 0 0)), (a3, zI K 200 (va_up f3 0 (nI j0))), (a4, zI K 200 (va_up f4 0 0)), (a5, zI K 600 (va_up (va_up (va_up f5 0 (-1)) 1 (-1)) 2 (-1))), (a6, zI K 200 (va_up f6 0 0)), (a7, zI K 200 (va_up f7 0 1))] H := hP
  have hD : va_D A [(a0, zO 10 83 (va_up (va_up g0 81 (.int 0)) 0 (.int 1))), (a1, zI K 200 (va_up f1 0 1)), (a2, zI K 200 (va_up f2 0 0)), (a3, zI K 200 (va_up f3 0 (nI j0))), (a4, zI K 200 (va_up f4 0 0)), (a5, zI K 600 (va_up (va_up (va_up f5 0 (-1)) 1 (-1)) 2 (-1))), (a6, zI K 200 (va_up f6 0 0)), (a7, zI K 200 (va_up f7 0 1))] := hD
  obtain ⟨gg10, y11⟩ : ∃ z, z = ((va_up (va_up g0 81 (.int 0)) 0 (.int 1)) : Nat → Value) := ⟨_, rfl⟩
  rw [← y11] at hP hD
  obtain ⟨ff12, y13⟩ : ∃ z, z = ((va_up (va_up (va_up f5 0 (-1)) 1 (-1)) 2 (-1)) : Nat → Int32) := ⟨_, rfl⟩
  rw [← y13] at hP hD
  refine lv_goto (tgt := 25) hx hb dX12_var_21 (by decide) ?_
  subst y13
  subst y11
  have hP9 : va_P K.1 classes [(a0, zO 10 83 (va_up (va_up g0 81 (.int 0)) 0 (.int 1)))] H := hP.sub [0] rfl
  have hD9 : va_D A [(a0, zO 10 83 (va_up (va_up g0 81 (.int 0)) 0 (.int 1)))] := hD.sub [0] (by decide) rfl
  exact z_iret hx hb hr (fun _ => 0) rfl hP9 hD9 hS (Nat.le_of_ble_eq_true rfl) (Nat.le_of_ble_eq_true rfl) hlocks dX12_var_25
set_option maxHeartbeats 4000000 in
set_option maxRecDepth 100000 in
theorem cX11_checkRange_3 (l : Launch) (hl9 : l.stackTraces = false) (K : zK) (sz : Nat) (a0 : Nat) (g0 : Nat → Value) (x0 : Int32) (e0 : ¬ x0 < (0 : Int32)) (e1 : ¬ x0 < (16 : Int32)) : vx_Met l yX11_checkRange (Cond.code yX11_checkRange cX11_checkRange 3 none :: WG) { frames := 6, cells := 1, slots := 6, locals := 82 } (zPre K [(a0, zO 9 9 g0)] sz [.ref a0, .int x0, .int 16]) (va_Qv (fun _ : Unit => False) (fun _ _ => True) (va_A [(a0, zO 9 9 g0)] sz)) (zX (va_A [(a0, zO 9 9 g0)] sz) zIA) 1 6 (va_A [(a0, zO 9 9 g0)] sz) := by
  refine z_xmet (Qc := fun A => va_Qv (fun _ : Unit => False) (fun _ _ => True) A) (XC := fun A => zX A zIA) (by decide +kernel) (Nat.le_of_ble_eq_true rfl) ?_
  intro p e s m args below meth c A ls H hx hb hr hg hown hlocks hml hno hK hP hD hA hS hZ hl
  have hown : s.vm.findClass RX11 = some m.cls := hown
  have hl : lv_has ls 3 [(0, .ref a0), (1, .int x0), (2, .int 16)] := hl
  refine lv_iload_n hx hb dX11_checkRange_0 rfl (lv_at hl 1 rfl) ?_
  refine lv_if_lt (tgt := 9) hx hb dX11_checkRange_1 (by decide) (fun c => absurd c e0) (fun _ => ?_)
  refine lv_iload_n hx hb dX11_checkRange_4 rfl (lv_at hl 1 rfl) ?_
  refine lv_iload_n hx hb dX11_checkRange_5 rfl (lv_at hl 2 rfl) ?_
  refine lv_icmp_lt (tgt := 19) hx hb dX11_checkRange_6 (by decide) (fun c => absurd c e1) (fun _ => ?_)
  exact z_throw (ik := 82) (is := 183) (ic := 86) hx hb hl9 hg hown (by decide +kernel) mt500 mt16 hZ.1.2.2.1 (at_zIA hg hZ) ok_zIA hZ hS hl.1 hml dX11_checkRange_9 dX11_checkRange_12 dX11_checkRange_13 dX11_checkRange_15 dX11_checkRange_18 hno hlocks (Nat.le_of_ble_eq_true rfl) (Nat.le_of_ble_eq_true rfl) (Nat.le_of_ble_eq_true rfl) (Nat.le_of_ble_eq_true rfl) (Nat.le_of_ble_eq_true rfl) (Nat.le_of_ble_eq_true rfl)
set_option maxHeartbeats 4000000 in
set_option maxRecDepth 100000 in
theorem cX11_var_3 (l : Launch) (hl9 : l.stackTraces = false) (K : zK) (sz : Nat) (a0 : Nat) (g0 : Nat → Value) (x0 : Int32) (e0 : ¬ x0 < (0 : Int32)) (e1 : ¬ x0 < (16 : Int32)) : vx_Met l yX11_var (Cond.code yX11_var cX11_var 2 (some .int) :: WG) { frames := 7, cells := 1, slots := 6, locals := 104 } (zPre K [(a0, zO 9 9 g0)] sz [.ref a0, .int x0]) (va_Qv (fun _ : Unit => False) (fun _ _ => True) (va_A [(a0, zO 9 9 g0)] sz)) (zX (va_A [(a0, zO 9 9 g0)] sz) zIA) 1 6 (va_A [(a0, zO 9 9 g0)] sz) := by
  refine z_xmet (Qc := fun A => va_Qv (fun _ : Unit => False) (fun _ _ => True) A) (XC := fun A => zX A zIA) (by decide +kernel) (Nat.le_of_ble_eq_true rfl) ?_
  intro p e s m args below meth c A ls H hx hb hr hg hown hlocks hml hno hK hP hD hA hS hZ hl
  have hown : s.vm.findClass RX11 = some m.cls := hown
  have hl : lv_has ls 2 [(0, .ref a0), (1, .int x0)] := hl
  refine lv_aload_n hx hb dX11_var_0 rfl (lv_at hl 0 rfl) ?_
  refine lv_iload_n hx hb dX11_var_1 rfl (lv_at hl 1 rfl) ?_
  refine lv_bipush (v := 16) hx hb dX11_var_2 (by decide) ?_
  refine z_xcall (EX := zIA) [(a0, zO 9 9 g0)] [0] hP hD hS hA rfl (by decide) 1 6 rfl rfl (fun hPc hDc hF => z_xrunV (As := [.int x0, .int 16]) (rest := []) ⟨hx, hb, hml, hown, hg⟩ (cX11_checkRange_3 l hl9 K H.size a0 g0 x0 e0 e1) kV_RX11_72 hd_X11_checkRange rfl rfl ⟨(Nat.le_of_ble_eq_true rfl), (Nat.le_of_ble_eq_true rfl)⟩ hK hS hZ hPc hDc hF 0 rfl rfl rfl hl.1 rfl (Nat.le_of_ble_eq_true rfl) dX11_var_4 ⟨(Nat.le_of_ble_eq_true rfl), (Nat.le_of_ble_eq_true rfl)⟩) (fun ce q9 H locs hS hce hcv hcl => ?_)
  exact z_xout hno hlocks hS hce hcv hcl (Nat.le_of_ble_eq_true rfl) (Nat.le_of_ble_eq_true rfl)
set_option maxHeartbeats 4000000 in
set_option maxRecDepth 100000 in
theorem cL_var_3 (l : Launch) (hl9 : l.stackTraces = false) (K : zK) (sz : Nat) (a0 : Nat) (a1 : Nat) (g0 : Nat → Value) (x0 : Int32) (e0 : ¬ x0 < (0 : Int32)) (e1 : ¬ x0 < (16 : Int32)) : vx_Met l yL_var (Cond.codeWith yL_var cL_var 4 (some .int) [(0, 9, 12, 18), (0, 9, 15, 13)] :: WG) { frames := 8, cells := 1, slots := 6, locals := 125 } (zPre K [(a0, zO 9 9 g0)] sz [.ref a0, .int x0, .ref a1]) (va_Qi (fun (r : Int32) (_ : Nat → Nat) => r = 1) (zB K (va_A [(a0, zO 9 9 g0)] sz) (fun u : Nat → Nat => [])) (va_A [(a0, zO 9 9 g0)] sz)) (vx_X (fun _ : Unit => False) (fun _ _ _ => True) (va_A [(a0, zO 9 9 g0)] sz)) 1 6 (va_A [(a0, zO 9 9 g0)] sz) := by
  refine z_hmet (Qc := fun A => (va_Qi (fun (r : Int32) (_ : Nat → Nat) => r = 1) (zB K A (fun u : Nat → Nat => [])) A)) (XC := fun A => vx_X (fun _ : Unit => False) (fun _ _ _ => True) A) (by decide +kernel) (Nat.le_of_ble_eq_true rfl) ?_
  intro p e s m args below meth c A ls H hx hb hr hg hown hlocks hml hTab hK hP hD hA hS hZ hl
  have hown : s.vm.findClass RL = some m.cls := hown
  have hl : lv_has ls 4 [(0, .ref a0), (1, .int x0), (2, .ref a1)] := hl
  refine lv_aload_n hx hb dL_var_0 rfl (lv_at hl 2 rfl) ?_
  refine lv_iconst (v := 0) hx hb dL_var_1 (by decide) ?_
  refine lv_aload_n hx hb dL_var_2 rfl (lv_at hl 0 rfl) ?_
  refine lv_iload_n hx hb dL_var_3 rfl (lv_at hl 1 rfl) ?_
  refine z_xcall (EX := zIA) [(a0, zO 9 9 g0)] [0] hP hD hS hA rfl (by decide) 1 6 rfl rfl (fun hPc hDc hF => z_xrunV (As := [.int x0]) (rest := [.int 0, .ref a1]) ⟨hx, hb, hml, hown, hg⟩ (cX11_var_3 l hl9 K H.size a0 g0 x0 e0 e1) kV_RL_15 hd_X11_var rfl rfl ⟨(Nat.le_of_ble_eq_true rfl), (Nat.le_of_ble_eq_true rfl)⟩ hK hS hZ hPc hDc hF 0 rfl rfl rfl hl.1 rfl (Nat.le_of_ble_eq_true rfl) dL_var_4 ⟨(Nat.le_of_ble_eq_true rfl), (Nat.le_of_ble_eq_true rfl)⟩) (fun ce q9 H locs hS hce hcv hcl => ?_)
  refine vx_catch (own := RL) (name := zIA) (E := zIA) hown [] ⟨0, 9, 12, 18⟩ [⟨0, 9, 15, 13⟩] (by rw [hTab]; rfl) (fun z hz => nomatch hz) (by decide) (by decide) (hg _ mt491) (va_Nw.use rfl hZ.1.1.2.1) hce hcv hcl ?_
  have hP : va_P K.1 classes [] H := z_P0
  have hD : va_D A [] := z_D0
  refine lv_astore_n (lv' := [(3, .ref q9), (0, .ref a0), (1, .int x0), (2, .ref a1)]) hx hb dL_var_12 rfl hl (by decide) rfl (fun ls hl => ?_)
  refine lv_iconst (v := 1) hx hb dL_var_13 (by decide) ?_
  have hP9 : va_P K.1 classes [] H := hP.sub [] rfl
  have hD9 : va_D A [] := hD.sub [] (by decide) rfl
  exact z_iret hx hb hr (fun _ => 0) rfl hP9 hD9 hS (Nat.le_of_ble_eq_true rfl) (Nat.le_of_ble_eq_true rfl) hlocks dL_var_14
set_option maxHeartbeats 4000000 in
set_option maxRecDepth 100000 in
theorem cX12_isIn_3 (l : Launch) (K : zK) (sz : Nat) (x0 : Int32) (e0 : ¬ x0 < (0 : Int32)) (e1 : (15 : Int32) < x0) : Met l yX12_isIn (Cond.code yX12_isIn cX12_isIn 3 (some .boolean) :: WG) { frames := 0, cells := 0, slots := 0, locals := 0 } (zPre K [] sz [.int x0, .int 0, .int 15]) (va_Qi (fun (r : Int32) (_ : Nat → Nat) => r = 0) (zB K (va_A [] sz) (fun u : Nat → Nat => [])) (va_A [] sz)) 0 0 (va_A [] sz) := by
  refine z_met (Qc := fun A => (va_Qi (fun (r : Int32) (_ : Nat → Nat) => r = 0) (zB K A (fun u : Nat → Nat => [])) A)) (by decide +kernel) (Nat.le_of_ble_eq_true rfl) ?_
  intro p e s m args below meth c A ls H hx hb hr hg hown hlocks hml hin hK hP hD hA hS hZ hl
  have hown : s.vm.findClass RX12 = some m.cls := hown
  have hl : lv_has ls 3 [(0, .int x0), (1, .int 0), (2, .int 15)] := hl
  refine lv_iload_n hx hb dX12_isIn_0 rfl (lv_at hl 0 rfl) ?_
  refine lv_iload_n hx hb dX12_isIn_1 rfl (lv_at hl 1 rfl) ?_
  refine lv_icmp_lt (tgt := 14) hx hb dX12_isIn_2 (by decide) (fun c => absurd c e0) (fun _ => ?_)
  refine lv_iload_n hx hb dX12_isIn_5 rfl (lv_at hl 0 rfl) ?_
  refine lv_iload_n hx hb dX12_isIn_6 rfl (lv_at hl 2 rfl) ?_
  refine lv_icmp_gt (tgt := 14) hx hb dX12_isIn_7 (by decide) (fun _ => ?_) (fun c => absurd e1 c)
  refine lv_iconst (v := 0) hx hb dX12_isIn_14 (by decide) ?_
  have hP9 : va_P K.1 classes [] H := hP.sub [] rfl
  have hD9 : va_D A [] := hD.sub [] (by decide) rfl
  exact z_zret hx hb hr rfl (fun _ => 0) rfl hP9 hD9 hS (Nat.le_of_ble_eq_true rfl) (Nat.le_of_ble_eq_true rfl) hlocks dX12_isIn_15
set_option maxHeartbeats 4000000 in
set_option maxRecDepth 100000 in
theorem cX12_isName_3 (l : Launch) (K : zK) (sz : Nat) (x0 : Int32) (e0 : ¬ x0 < (0 : Int32)) (e1 : (15 : Int32) < x0) : Met l yX12_isName (Cond.code yX12_isName cX12_isName 1 (some .boolean) :: WG) { frames := 1, cells := 0, slots := 0, locals := 22 } (zPre K [] sz [.int x0]) (va_Qi (fun (r : Int32) (_ : Nat → Nat) => r = 0) (zB K (va_A [] sz) (fun u : Nat → Nat => [])) (va_A [] sz)) 0 0 (va_A [] sz) := by
  refine z_met (Qc := fun A => (va_Qi (fun (r : Int32) (_ : Nat → Nat) => r = 0) (zB K A (fun u : Nat → Nat => [])) A)) (by decide +kernel) (Nat.le_of_ble_eq_true rfl) ?_
  intro p e s m args below meth c A ls H hx hb hr hg hown hlocks hml hin hK hP hD hA hS hZ hl
  have hown : s.vm.findClass RX12 = some m.cls := hown
  have hl : lv_has ls 1 [(0, .int x0)] := hl
  refine lv_iload_n hx hb dX12_isName_0 rfl (lv_at hl 0 rfl) ?_
  refine lv_iconst (v := 0) hx hb dX12_isName_1 (by decide) ?_
  refine lv_bipush (v := 15) hx hb dX12_isName_2 (by decide) ?_
  refine z_calli [] [] [] [] hP hD hS hA rfl rfl (by decide) (by decide) (by decide +kernel) 0 0 rfl rfl (fun hPc hDc hF => z_runS (As := [.int x0, .int 0, .int 15]) (rest := []) ⟨hx, hb, hml, hown, hg⟩ (cX12_isIn_3 l K H.size x0 e0 e1) kS_RX12_175 hd_X12_isIn rfl rfl ⟨(Nat.le_of_ble_eq_true rfl), (Nat.le_of_ble_eq_true rfl)⟩ hK hS hZ hPc hDc hF rfl hl.1 rfl (Nat.le_of_ble_eq_true rfl) dX12_isName_4 ⟨(Nat.le_of_ble_eq_true rfl), (Nat.le_of_ble_eq_true rfl)⟩) (fun r3 u1 H locs w2 hP hD hS => ?_)
  subst w2
  have hP : va_P K.1 classes [] H := hP
  have hD : va_D A [] := hD
  have hP9 : va_P K.1 classes [] H := hP.sub [] rfl
  have hD9 : va_D A [] := hD.sub [] (by decide) rfl
  exact z_zret hx hb hr rfl (fun _ => 0) rfl hP9 hD9 hS (Nat.le_of_ble_eq_true rfl) (Nat.le_of_ble_eq_true rfl) hlocks dX12_isName_7
set_option maxHeartbeats 4000000 in
set_option maxRecDepth 100000 in
theorem cX12_var_3 (l : Launch) (K : zK) (sz : Nat) (a0 : Nat) (g0 : Nat → Value) (x0 : Int32) (e0 : ¬ x0 < (0 : Int32)) (e1 : (15 : Int32) < x0) : Met l yX12_var (Cond.code yX12_var cX12_var 2 (some .int) :: WG) { frames := 2, cells := 0, slots := 0, locals := 42 } (zPre K [(a0, zO 10 83 g0)] sz [.ref a0, .int x0]) (va_Qi (fun (r : Int32) (_ : Nat → Nat) => r = 0) (zB K (va_A [(a0, zO 10 83 g0)] sz) (fun u : Nat → Nat => [(a0, zO 10 83 (va_up g0 81 (.int 1)))])) (va_A [(a0, zO 10 83 g0)] sz)) 0 0 (va_A [(a0, zO 10 83 g0)] sz) := by
  refine z_met (Qc := fun A => (va_Qi (fun (r : Int32) (_ : Nat → Nat) => r = 0) (zB K A (fun u : Nat → Nat => [(a0, zO 10 83 (va_up g0 81 (.int 1)))])) A)) (by decide +kernel) (Nat.le_of_ble_eq_true rfl) ?_
  intro p e s m args below meth c A ls H hx hb hr hg hown hlocks hml hin hK hP hD hA hS hZ hl
  have hown : s.vm.findClass RX12 = some m.cls := hown
  have hl : lv_has ls 2 [(0, .ref a0), (1, .int x0)] := hl
  refine lv_aload_n hx hb dX12_var_0 rfl (lv_at hl 0 rfl) ?_
  refine lv_iload_n hx hb dX12_var_1 rfl (lv_at hl 1 rfl) ?_
  refine z_calli [] [(a0, zO 10 83 g0)] [] [0] hP hD hS hA rfl rfl (by decide) (by decide) (by decide +kernel) 0 0 rfl rfl (fun hPc hDc hF => z_runS (As := [.int x0]) (rest := [.ref a0]) ⟨hx, hb, hml, hown, hg⟩ (cX12_isName_3 l K H.size x0 e0 e1) kS_RX12_190 hd_X12_isName rfl rfl ⟨(Nat.le_of_ble_eq_true rfl), (Nat.le_of_ble_eq_true rfl)⟩ hK hS hZ hPc hDc hF rfl hl.1 rfl (Nat.le_of_ble_eq_true rfl) dX12_var_2 ⟨(Nat.le_of_ble_eq_true rfl), (Nat.le_of_ble_eq_true rfl)⟩) (fun r3 u1 H locs w2 hP hD hS => ?_)
  subst w2
  have hP : va_P K.1 classes [(a0, zO 10 83 g0)] H := hP
  have hD : va_D A [(a0, zO 10 83 g0)] := hD
  refine z_calli [(a0, zO 10 83 g0)] [] [0] [] hP hD hS hA rfl rfl (by decide) (by decide) (by decide +kernel) 0 0 rfl rfl (fun hPc hDc hF => z_runV (As := [.int 0]) (rest := []) ⟨hx, hb, hml, hown, hg⟩ (cX12_mayTellAlone_1 l K H.size a0 g0) kV_RX12_193 hd_X12_mayTellAlone rfl rfl ⟨(Nat.le_of_ble_eq_true rfl), (Nat.le_of_ble_eq_true rfl)⟩ hK hS hZ hPc hDc hF 0 rfl rfl rfl hl.1 rfl (Nat.le_of_ble_eq_true rfl) dX12_var_5 ⟨(Nat.le_of_ble_eq_true rfl), (Nat.le_of_ble_eq_true rfl)⟩) (fun r6 u4 H locs w5 hP hD hS => ?_)
  subst w5
  have hP : va_P K.1 classes [(a0, zO 10 83 (va_up g0 81 (.int 1)))] H := hP
  have hD : va_D A [(a0, zO 10 83 (va_up g0 81 (.int 1)))] := hD
  refine lv_if_eq (tgt := 24) hx hb dX12_var_8 (by decide) (fun _ => ?_) (fun c => absurd (by decide) c)
  refine lv_iconst (v := 0) hx hb dX12_var_24 (by decide) ?_
  have hP9 : va_P K.1 classes [(a0, zO 10 83 (va_up g0 81 (.int 1)))] H := hP.sub [0] rfl
  have hD9 : va_D A [(a0, zO 10 83 (va_up g0 81 (.int 1)))] := hD.sub [0] (by decide) rfl
  exact z_iret hx hb hr (fun _ => 0) rfl hP9 hD9 hS (Nat.le_of_ble_eq_true rfl) (Nat.le_of_ble_eq_true rfl) hlocks dX12_var_25
set_option maxHeartbeats 4000000 in
set_option maxRecDepth 100000 in
theorem cX11_checkRange_4 (l : Launch) (hl9 : l.stackTraces = false) (K : zK) (sz : Nat) (a0 : Nat) (g0 : Nat → Value) (x0 : Int32) (e0 : x0 < (0 : Int32)) : vx_Met l yX11_checkRange (Cond.code yX11_checkRange cX11_checkRange 3 none :: WG) { frames := 6, cells := 1, slots := 6, locals := 82 } (zPre K [(a0, zO 9 9 g0)] sz [.ref a0, .int x0, .int 8]) (va_Qv (fun _ : Unit => False) (fun _ _ => True) (va_A [(a0, zO 9 9 g0)] sz)) (zX (va_A [(a0, zO 9 9 g0)] sz) zIA) 1 6 (va_A [(a0, zO 9 9 g0)] sz) := by
  refine z_xmet (Qc := fun A => va_Qv (fun _ : Unit => False) (fun _ _ => True) A) (XC := fun A => zX A zIA) (by decide +kernel) (Nat.le_of_ble_eq_true rfl) ?_
  intro p e s m args below meth c A ls H hx hb hr hg hown hlocks hml hno hK hP hD hA hS hZ hl
  have hown : s.vm.findClass RX11 = some m.cls := hown
  have hl : lv_has ls 3 [(0, .ref a0), (1, .int x0), (2, .int 8)] := hl
  refine lv_iload_n hx hb dX11_checkRange_0 rfl (lv_at hl 1 rfl) ?_
  refine lv_if_lt (tgt := 9) hx hb dX11_checkRange_1 (by decide) (fun _ => ?_) (fun c => absurd e0 c)
  exact z_throw (ik := 82) (is := 183) (ic := 86) hx hb hl9 hg hown (by decide +kernel) mt500 mt16 hZ.1.2.2.1 (at_zIA hg hZ) ok_zIA hZ hS hl.1 hml dX11_checkRange_9 dX11_checkRange_12 dX11_checkRange_13 dX11_checkRange_15 dX11_checkRange_18 hno hlocks (Nat.le_of_ble_eq_true rfl) (Nat.le_of_ble_eq_true rfl) (Nat.le_of_ble_eq_true rfl) (Nat.le_of_ble_eq_true rfl) (Nat.le_of_ble_eq_true rfl) (Nat.le_of_ble_eq_true rfl)
set_option maxHeartbeats 4000000 in
set_option maxRecDepth 100000 in
theorem cX11_global_1 (l : Launch) (hl9 : l.stackTraces = false) (K : zK) (sz : Nat) (a0 : Nat) (g0 : Nat → Value) (x0 : Int32) (e0 : x0 < (0 : Int32)) : vx_Met l yX11_global (Cond.code yX11_global cX11_global 2 (some .int) :: WG) { frames := 7, cells := 1, slots := 6, locals := 104 } (zPre K [(a0, zO 9 9 g0)] sz [.ref a0, .int x0]) (va_Qv (fun _ : Unit => False) (fun _ _ => True) (va_A [(a0, zO 9 9 g0)] sz)) (zX (va_A [(a0, zO 9 9 g0)] sz) zIA) 1 6 (va_A [(a0, zO 9 9 g0)] sz) := by
  refine z_xmet (Qc := fun A => va_Qv (fun _ : Unit => False) (fun _ _ => True) A) (XC := fun A => zX A zIA) (by decide +kernel) (Nat.le_of_ble_eq_true rfl) ?_
  intro p e s m args below meth c A ls H hx hb hr hg hown hlocks hml hno hK hP hD hA hS hZ hl
  have hown : s.vm.findClass RX11 = some m.cls := hown
  have hl : lv_has ls 2 [(0, .ref a0), (1, .int x0)] := hl
  refine lv_aload_n hx hb dX11_global_0 rfl (lv_at hl 0 rfl) ?_
  refine lv_iload_n hx hb dX11_global_1 rfl (lv_at hl 1 rfl) ?_
  refine lv_bipush (v := 8) hx hb dX11_global_2 (by decide) ?_
  refine z_xcall (EX := zIA) [(a0, zO 9 9 g0)] [0] hP hD hS hA rfl (by decide) 1 6 rfl rfl (fun hPc hDc hF => z_xrunV (As := [.int x0, .int 8]) (rest := []) ⟨hx, hb, hml, hown, hg⟩ (cX11_checkRange_4 l hl9 K H.size a0 g0 x0 e0) kV_RX11_72 hd_X11_checkRange rfl rfl ⟨(Nat.le_of_ble_eq_true rfl), (Nat.le_of_ble_eq_true rfl)⟩ hK hS hZ hPc hDc hF 0 rfl rfl rfl hl.1 rfl (Nat.le_of_ble_eq_true rfl) dX11_global_4 ⟨(Nat.le_of_ble_eq_true rfl), (Nat.le_of_ble_eq_true rfl)⟩) (fun ce q9 H locs hS hce hcv hcl => ?_)
  exact z_xout hno hlocks hS hce hcv hcl (Nat.le_of_ble_eq_true rfl) (Nat.le_of_ble_eq_true rfl)
set_option maxHeartbeats 4000000 in
set_option maxRecDepth 100000 in
theorem cL_global_1 (l : Launch) (hl9 : l.stackTraces = false) (K : zK) (sz : Nat) (a0 : Nat) (a1 : Nat) (g0 : Nat → Value) (x0 : Int32) (e0 : x0 < (0 : Int32)) : vx_Met l yL_global (Cond.codeWith yL_global cL_global 4 (some .int) [(0, 9, 12, 18), (0, 9, 15, 13)] :: WG) { frames := 8, cells := 1, slots := 6, locals := 125 } (zPre K [(a0, zO 9 9 g0)] sz [.ref a0, .int x0, .ref a1]) (va_Qi (fun (r : Int32) (_ : Nat → Nat) => r = 1) (zB K (va_A [(a0, zO 9 9 g0)] sz) (fun u : Nat → Nat => [])) (va_A [(a0, zO 9 9 g0)] sz)) (vx_X (fun _ : Unit => False) (fun _ _ _ => True) (va_A [(a0, zO 9 9 g0)] sz)) 1 6 (va_A [(a0, zO 9 9 g0)] sz) := by
  refine z_hmet (Qc := fun A => (va_Qi (fun (r : Int32) (_ : Nat → Nat) => r = 1) (zB K A (fun u : Nat → Nat => [])) A)) (XC := fun A => vx_X (fun _ : Unit => False) (fun _ _ _ => True) A) (by decide +kernel) (Nat.le_of_ble_eq_true rfl) ?_
  intro p e s m args below meth c A ls H hx hb hr hg hown hlocks hml hTab hK hP hD hA hS hZ hl
  have hown : s.vm.findClass RL = some m.cls := hown
  have hl : lv_has ls 4 [(0, .ref a0), (1, .int x0), (2, .ref a1)] := hl
  refine lv_aload_n hx hb dL_global_0 rfl (lv_at hl 2 rfl) ?_
  refine lv_iconst (v := 0) hx hb dL_global_1 (by decide) ?_
  refine lv_aload_n hx hb dL_global_2 rfl (lv_at hl 0 rfl) ?_
  refine lv_iload_n hx hb dL_global_3 rfl (lv_at hl 1 rfl) ?_
  refine z_xcall (EX := zIA) [(a0, zO 9 9 g0)] [0] hP hD hS hA rfl (by decide) 1 6 rfl rfl (fun hPc hDc hF => z_xrunV (As := [.int x0]) (rest := [.int 0, .ref a1]) ⟨hx, hb, hml, hown, hg⟩ (cX11_global_1 l hl9 K H.size a0 g0 x0 e0) kV_RL_20 hd_X11_global rfl rfl ⟨(Nat.le_of_ble_eq_true rfl), (Nat.le_of_ble_eq_true rfl)⟩ hK hS hZ hPc hDc hF 0 rfl rfl rfl hl.1 rfl (Nat.le_of_ble_eq_true rfl) dL_global_4 ⟨(Nat.le_of_ble_eq_true rfl), (Nat.le_of_ble_eq_true rfl)⟩) (fun ce q9 H locs hS hce hcv hcl => ?_)
  refine vx_catch (own := RL) (name := zIA) (E := zIA) hown [] ⟨0, 9, 12, 18⟩ [⟨0, 9, 15, 13⟩] (by rw [hTab]; rfl) (fun z hz => nomatch hz) (by decide) (by decide) (hg _ mt491) (va_Nw.use rfl hZ.1.1.2.1) hce hcv hcl ?_
  have hP : va_P K.1 classes [] H := z_P0
  have hD : va_D A [] := z_D0
  refine lv_astore_n (lv' := [(3, .ref q9), (0, .ref a0), (1, .int x0), (2, .ref a1)]) hx hb dL_global_12 rfl hl (by decide) rfl (fun ls hl => ?_)
  refine lv_iconst (v := 1) hx hb dL_global_13 (by decide) ?_
  have hP9 : va_P K.1 classes [] H := hP.sub [] rfl
  have hD9 : va_D A [] := hD.sub [] (by decide) rfl
  exact z_iret hx hb hr (fun _ => 0) rfl hP9 hD9 hS (Nat.le_of_ble_eq_true rfl) (Nat.le_of_ble_eq_true rfl) hlocks dL_global_14
set_option maxHeartbeats 4000000 in
set_option maxRecDepth 100000 in
theorem cX12_isIn_4 (l : Launch) (K : zK) (sz : Nat) (x0 : Int32) (e0 : x0 < (0 : Int32)) : Met l yX12_isIn (Cond.code yX12_isIn cX12_isIn 3 (some .boolean) :: WG) { frames := 0, cells := 0, slots := 0, locals := 0 } (zPre K [] sz [.int x0, .int 0, .int 7]) (va_Qi (fun (r : Int32) (_ : Nat → Nat) => r = 0) (zB K (va_A [] sz) (fun u : Nat → Nat => [])) (va_A [] sz)) 0 0 (va_A [] sz) := by
  refine z_met (Qc := fun A => (va_Qi (fun (r : Int32) (_ : Nat → Nat) => r = 0) (zB K A (fun u : Nat → Nat => [])) A)) (by decide +kernel) (Nat.le_of_ble_eq_true rfl) ?_
  intro p e s m args below meth c A ls H hx hb hr hg hown hlocks hml hin hK hP hD hA hS hZ hl
  have hown : s.vm.findClass RX12 = some m.cls := hown
  have hl : lv_has ls 3 [(0, .int x0), (1, .int 0), (2, .int 7)] := hl
  refine lv_iload_n hx hb dX12_isIn_0 rfl (lv_at hl 0 rfl) ?_
  refine lv_iload_n hx hb dX12_isIn_1 rfl (lv_at hl 1 rfl) ?_
  refine lv_icmp_lt (tgt := 14) hx hb dX12_isIn_2 (by decide) (fun _ => ?_) (fun c => absurd e0 c)
  refine lv_iconst (v := 0) hx hb dX12_isIn_14 (by decide) ?_
  have hP9 : va_P K.1 classes [] H := hP.sub [] rfl
  have hD9 : va_D A [] := hD.sub [] (by decide) rfl
  exact z_zret hx hb hr rfl (fun _ => 0) rfl hP9 hD9 hS (Nat.le_of_ble_eq_true rfl) (Nat.le_of_ble_eq_true rfl) hlocks dX12_isIn_15
set_option maxHeartbeats 4000000 in
set_option maxRecDepth 100000 in
theorem cX12_isGlobal_1 (l : Launch) (K : zK) (sz : Nat) (x0 : Int32) (e0 : x0 < (0 : Int32)) : Met l yX12_isGlobal (Cond.code yX12_isGlobal cX12_isGlobal 1 (some .boolean) :: WG) { frames := 1, cells := 0, slots := 0, locals := 22 } (zPre K [] sz [.int x0]) (va_Qi (fun (r : Int32) (_ : Nat → Nat) => r = 0) (zB K (va_A [] sz) (fun u : Nat → Nat => [])) (va_A [] sz)) 0 0 (va_A [] sz) := by
  refine z_met (Qc := fun A => (va_Qi (fun (r : Int32) (_ : Nat → Nat) => r = 0) (zB K A (fun u : Nat → Nat => [])) A)) (by decide +kernel) (Nat.le_of_ble_eq_true rfl) ?_
  intro p e s m args below meth c A ls H hx hb hr hg hown hlocks hml hin hK hP hD hA hS hZ hl
  have hown : s.vm.findClass RX12 = some m.cls := hown
  have hl : lv_has ls 1 [(0, .int x0)] := hl
  refine lv_iload_n hx hb dX12_isGlobal_0 rfl (lv_at hl 0 rfl) ?_
  refine lv_iconst (v := 0) hx hb dX12_isGlobal_1 (by decide) ?_
  refine lv_bipush (v := 7) hx hb dX12_isGlobal_2 (by decide) ?_
  refine z_calli [] [] [] [] hP hD hS hA rfl rfl (by decide) (by decide) (by decide +kernel) 0 0 rfl rfl (fun hPc hDc hF => z_runS (As := [.int x0, .int 0, .int 7]) (rest := []) ⟨hx, hb, hml, hown, hg⟩ (cX12_isIn_4 l K H.size x0 e0) kS_RX12_175 hd_X12_isIn rfl rfl ⟨(Nat.le_of_ble_eq_true rfl), (Nat.le_of_ble_eq_true rfl)⟩ hK hS hZ hPc hDc hF rfl hl.1 rfl (Nat.le_of_ble_eq_true rfl) dX12_isGlobal_4 ⟨(Nat.le_of_ble_eq_true rfl), (Nat.le_of_ble_eq_true rfl)⟩) (fun r3 u1 H locs w2 hP hD hS => ?_)
  subst w2
  have hP : va_P K.1 classes [] H := hP
  have hD : va_D A [] := hD
  have hP9 : va_P K.1 classes [] H := hP.sub [] rfl
  have hD9 : va_D A [] := hD.sub [] (by decide) rfl
  exact z_zret hx hb hr rfl (fun _ => 0) rfl hP9 hD9 hS (Nat.le_of_ble_eq_true rfl) (Nat.le_of_ble_eq_true rfl) hlocks dX12_isGlobal_7
set_option maxHeartbeats 4000000 in
set_option maxRecDepth 100000 in
theorem cX12_global_1 (l : Launch) (K : zK) (sz : Nat) (a0 : Nat) (g0 : Nat → Value) (x0 : Int32) (e0 : x0 < (0 : Int32)) : Met l yX12_global (Cond.code yX12_global cX12_global 2 (some .int) :: WG) { frames := 2, cells := 0, slots := 0, locals := 42 } (zPre K [(a0, zO 10 83 g0)] sz [.ref a0, .int x0]) (va_Qi (fun (r : Int32) (_ : Nat → Nat) => r = 0) (zB K (va_A [(a0, zO 10 83 g0)] sz) (fun u : Nat → Nat => [(a0, zO 10 83 (va_up g0 81 (.int 1)))])) (va_A [(a0, zO 10 83 g0)] sz)) 0 0 (va_A [(a0, zO 10 83 g0)] sz) := by
  refine z_met (Qc := fun A => (va_Qi (fun (r : Int32) (_ : Nat → Nat) => r = 0) (zB K A (fun u : Nat → Nat => [(a0, zO 10 83 (va_up g0 81 (.int 1)))])) A)) (by decide +kernel) (Nat.le_of_ble_eq_true rfl) ?_
  intro p e s m args below meth c A ls H hx hb hr hg hown hlocks hml hin hK hP hD hA hS hZ hl
  have hown : s.vm.findClass RX12 = some m.cls := hown
  have hl : lv_has ls 2 [(0, .ref a0), (1, .int x0)] := hl
  refine lv_aload_n hx hb dX12_global_0 rfl (lv_at hl 0 rfl) ?_
  refine lv_iload_n hx hb dX12_global_1 rfl (lv_at hl 1 rfl) ?_
  refine z_calli [] [(a0, zO 10 83 g0)] [] [0] hP hD hS hA rfl rfl (by decide) (by decide) (by decide +kernel) 0 0 rfl rfl (fun hPc hDc hF => z_runS (As := [.int x0]) (rest := [.ref a0]) ⟨hx, hb, hml, hown, hg⟩ (cX12_isGlobal_1 l K H.size x0 e0) kS_RX12_197 hd_X12_isGlobal rfl rfl ⟨(Nat.le_of_ble_eq_true rfl), (Nat.le_of_ble_eq_true rfl)⟩ hK hS hZ hPc hDc hF rfl hl.1 rfl (Nat.le_of_ble_eq_true rfl) dX12_global_2 ⟨(Nat.le_of_ble_eq_true rfl), (Nat.le_of_ble_eq_true rfl)⟩) (fun r3 u1 H locs w2 hP hD hS => ?_)
  subst w2
  have hP : va_P K.1 classes [(a0, zO 10 83 g0)] H := hP
  have hD : va_D A [(a0, zO 10 83 g0)] := hD
  refine z_calli [(a0, zO 10 83 g0)] [] [0] [] hP hD hS hA rfl rfl (by decide) (by decide) (by decide +kernel) 0 0 rfl rfl (fun hPc hDc hF => z_runV (As := [.int 0]) (rest := []) ⟨hx, hb, hml, hown, hg⟩ (cX12_mayTellAlone_1 l K H.size a0 g0) kV_RX12_193 hd_X12_mayTellAlone rfl rfl ⟨(Nat.le_of_ble_eq_true rfl), (Nat.le_of_ble_eq_true rfl)⟩ hK hS hZ hPc hDc hF 0 rfl rfl rfl hl.1 rfl (Nat.le_of_ble_eq_true rfl) dX12_global_5 ⟨(Nat.le_of_ble_eq_true rfl), (Nat.le_of_ble_eq_true rfl)⟩) (fun r6 u4 H locs w5 hP hD hS => ?_)
  subst w5
  have hP : va_P K.1 classes [(a0, zO 10 83 (va_up g0 81 (.int 1)))] H := hP
  have hD : va_D A [(a0, zO 10 83 (va_up g0 81 (.int 1)))] := hD
  refine lv_if_eq (tgt := 24) hx hb dX12_global_8 (by decide) (fun _ => ?_) (fun c => absurd (by decide) c)
  refine lv_iconst (v := 0) hx hb dX12_global_24 (by decide) ?_
  have hP9 : va_P K.1 classes [(a0, zO 10 83 (va_up g0 81 (.int 1)))] H := hP.sub [0] rfl
  have hD9 : va_D A [(a0, zO 10 83 (va_up g0 81 (.int 1)))] := hD.sub [0] (by decide) rfl
  exact z_iret hx hb hr (fun _ => 0) rfl hP9 hD9 hS (Nat.le_of_ble_eq_true rfl) (Nat.le_of_ble_eq_true rfl) hlocks dX12_global_25
set_option maxHeartbeats 4000000 in
set_option maxRecDepth 100000 in
theorem cX11_checkRange_5 (l : Launch) (K : zK) (sz : Nat) (a0 : Nat) (g0 : Nat → Value) (j0 : Nat) (hj0 : j0 < 8) : Met l yX11_checkRange (Cond.code yX11_checkRange cX11_checkRange 3 none :: WG) { frames := 0, cells := 0, slots := 0, locals := 0 } (zPre K [(a0, zO 9 9 g0)] sz [.ref a0, .int (nI j0), .int 8]) (va_Qv (fun _ : Nat → Nat => True) (zB K (va_A [(a0, zO 9 9 g0)] sz) (fun u : Nat → Nat => [(a0, zO 9 9 g0)])) (va_A [(a0, zO 9 9 g0)] sz)) 0 0 (va_A [(a0, zO 9 9 g0)] sz) := by
  refine z_met (Qc := fun A => (va_Qv (fun _ : Nat → Nat => True) (zB K A (fun u : Nat → Nat => [(a0, zO 9 9 g0)])) A)) (by decide +kernel) (Nat.le_of_ble_eq_true rfl) ?_
  intro p e s m args below meth c A ls H hx hb hr hg hown hlocks hml hin hK hP hD hA hS hZ hl
  have hown : s.vm.findClass RX11 = some m.cls := hown
  have hl : lv_has ls 3 [(0, .ref a0), (1, .int (nI j0)), (2, .int 8)] := hl
  refine lv_iload_n hx hb dX11_checkRange_0 rfl (lv_at hl 1 rfl) ?_
  refine lv_if_lt (tgt := 9) hx hb dX11_checkRange_1 (by decide) (fun c => absurd c ((by decide : ∀ j, j < 8 → ¬ ((nI j) < (0 : Int32))) j0 hj0)) (fun _ => ?_)
  refine lv_iload_n hx hb dX11_checkRange_4 rfl (lv_at hl 1 rfl) ?_
  refine lv_iload_n hx hb dX11_checkRange_5 rfl (lv_at hl 2 rfl) ?_
  refine lv_icmp_lt (tgt := 19) hx hb dX11_checkRange_6 (by decide) (fun _ => ?_) (fun c => absurd ((by decide : ∀ j, j < 8 → ((nI j) < (8 : Int32))) j0 hj0) c)
  have hP9 : va_P K.1 classes [(a0, zO 9 9 g0)] H := hP.sub [0] rfl
  have hD9 : va_D A [(a0, zO 9 9 g0)] := hD.sub [0] (by decide) rfl
  exact z_vret hx hb hr (fun _ => 0) trivial hP9 hD9 hS (Nat.le_of_ble_eq_true rfl) (Nat.le_of_ble_eq_true rfl) hlocks dX11_checkRange_19
set_option maxHeartbeats 4000000 in
set_option maxRecDepth 100000 in
theorem cX9_set_3 (l : Launch) (K : zK) (sz : Nat) (a0 : Nat) (a1 : Nat) (a2 : Nat) (a3 : Nat) (a4 : Nat) (a5 : Nat) (g0 : Nat → Value) (f1 : Nat → Int32) (f2 : Nat → Int32) (f3 : Nat → Int32) (f4 : Nat → Int32) (f5 : Nat → Int32) (j0 : Nat) (hj0 : j0 < 8) (e0 : g0 5 = (.int 1)) (e1 : g0 0 = (.ref a1)) (e2 : g0 1 = (.ref a2)) (e3 : g0 2 = (.ref a3)) (e4 : g0 3 = (.ref a4)) (e5 : g0 4 = (.ref a5)) : Met l yX9_set (Cond.code yX9_set cX9_set 6 none :: WG) { frames := 1, cells := 0, slots := 0, locals := 21 } (zPre K [(a0, zO 7 6 g0), (a1, zI K 200 f1), (a2, zI K 200 f2), (a3, zI K 200 f3), (a4, zI K 200 f4), (a5, zI K 600 f5)] sz [.ref a0, .int 0, .int 2, .int (nI j0), .int 0, .int 0]) (va_Qv (fun _ : Nat → Nat => True) (zB K (va_A [(a0, zO 7 6 g0), (a1, zI K 200 f1), (a2, zI K 200 f2), (a3, zI K 200 f3), (a4, zI K 200 f4), (a5, zI K 600 f5)] sz) (fun u : Nat → Nat => [(a0, zO 7 6 g0), (a1, zI K 200 (va_up f1 0 2)), (a2, zI K 200 (va_up f2 0 (nI j0))), (a3, zI K 200 (va_up f3 0 0)), (a4, zI K 200 (va_up f4 0 0)), (a5, zI K 600 (va_up (va_up (va_up f5 0 (-1)) 1 (-1)) 2 (-1)))])) (va_A [(a0, zO 7 6 g0), (a1, zI K 200 f1), (a2, zI K 200 f2), (a3, zI K 200 f3), (a4, zI K 200 f4), (a5, zI K 600 f5)] sz)) 0 0 (va_A [(a0, zO 7 6 g0), (a1, zI K 200 f1), (a2, zI K 200 f2), (a3, zI K 200 f3), (a4, zI K 200 f4), (a5, zI K 600 f5)] sz) := by
  refine z_met (Qc := fun A => (va_Qv (fun _ : Nat → Nat => True) (zB K A (fun u : Nat → Nat => [(a0, zO 7 6 g0), (a1, zI K 200 (va_up f1 0 2)), (a2, zI K 200 (va_up f2 0 (nI j0))), (a3, zI K 200 (va_up f3 0 0)), (a4, zI K 200 (va_up f4 0 0)), (a5, zI K 600 (va_up (va_up (va_up f5 0 (-1)) 1 (-1)) 2 (-1)))])) A)) (by decide +kernel) (Nat.le_of_ble_eq_true rfl) ?_
  intro p e s m args below meth c A ls H hx hb hr hg hown hlocks hml hin hK hP hD hA hS hZ hl
  have hown : s.vm.findClass RX9 = some m.cls := hown
  have hl : lv_has ls 6 [(0, .ref a0), (1, .int 0), (2, .int 2), (3, .int (nI j0)), (4, .int 0), (5, .int 0)] := hl
  refine lv_aload_n hx hb dX9_set_0 rfl (lv_at hl 0 rfl) ?_
  refine lv_iload_n hx hb dX9_set_1 rfl (lv_at hl 1 rfl) ?_
  refine z_calli [(a0, zO 7 6 g0)] [(a1, zI K 200 f1), (a2, zI K 200 f2), (a3, zI K 200 f3), (a4, zI K 200 f4), (a5, zI K 600 f5)] [0] [1, 2, 3, 4, 5] hP hD hS hA rfl rfl (by decide) (by decide) (by decide +kernel) 0 0 rfl rfl (fun hPc hDc hF => z_runV (As := [.int 0]) (rest := []) ⟨hx, hb, hml, hown, hg⟩ (cX9_has_1 l K H.size a0 g0 e0) kV_RX9_31 hd_X9_has rfl rfl ⟨(Nat.le_of_ble_eq_true rfl), (Nat.le_of_ble_eq_true rfl)⟩ hK hS hZ hPc hDc hF 0 rfl rfl rfl hl.1 rfl (Nat.le_of_ble_eq_true rfl) dX9_set_2 ⟨(Nat.le_of_ble_eq_true rfl), (Nat.le_of_ble_eq_true rfl)⟩) (fun r3 u1 H locs w2 hP hD hS => ?_)
  subst w2
  have hP : va_P K.1 classes [(a1, zI K 200 f1), (a2, zI K 200 f2), (a3, zI K 200 f3), (a4, zI K 200 f4), (a5, zI K 600 f5), (a0, zO 7 6 g0)] H := hP
  have hD : va_D A [(a1, zI K 200 f1), (a2, zI K 200 f2), (a3, zI K 200 f3), (a4, zI K 200 f4), (a5, zI K 600 f5), (a0, zO 7 6 g0)] := hD
  refine lv_if_eq (tgt := 69) hx hb dX9_set_5 (by decide) (fun c => absurd c (by decide)) (fun _ => ?_)
  refine lv_aload_n hx hb dX9_set_8 rfl (lv_at hl 0 rfl) ?_
  refine z_get (v := .ref a1) hx hb hg hown hK hP i_X9 rfl 5 rfl 0 (by decide) mt37 e1 dX9_set_9 ?_
  refine lv_iload_n hx hb dX9_set_12 rfl (lv_at hl 1 rfl) ?_
  refine lv_iload_n hx hb dX9_set_13 rfl (lv_at hl 2 rfl) ?_
  refine z_iast (j := 0) hx hb hK hP hD hS 0 rfl rfl (Nat.le_of_ble_eq_true rfl) (Nat.le_of_ble_eq_true rfl) dX9_set_14 (fun ff4 H locs y5 hP hD hS => ?_)
  have hP : va_P K.1 classes [(a1, zI K 200 ff4), (a2, zI K 200 f2), (a3, zI K 200 f3), (a4, zI K 200 f4), (a5, zI K 600 f5), (a0, zO 7 6 g0)] H := hP
  have hD : va_D A [(a1, zI K 200 ff4), (a2, zI K 200 f2), (a3, zI K 200 f3), (a4, zI K 200 f4), (a5, zI K 600 f5), (a0, zO 7 6 g0)] := hD
  refine lv_aload_n hx hb dX9_set_15 rfl (lv_at hl 0 rfl) ?_
  refine z_get (v := .ref a2) hx hb hg hown hK hP i_X9 rfl 5 rfl 1 (by decide) mt38 e2 dX9_set_16 ?_
  refine lv_iload_n hx hb dX9_set_19 rfl (lv_at hl 1 rfl) ?_
  refine lv_iload_n hx hb dX9_set_20 rfl (lv_at hl 3 rfl) ?_
  refine z_iast (j := 0) hx hb hK hP hD hS 1 rfl rfl (Nat.le_of_ble_eq_true rfl) (Nat.le_of_ble_eq_true rfl) dX9_set_21 (fun ff6 H locs y7 hP hD hS => ?_)
  have hP : va_P K.1 classes [(a1, zI K 200 ff4), (a2, zI K 200 ff6), (a3, zI K 200 f3), (a4, zI K 200 f4), (a5, zI K 600 f5), (a0, zO 7 6 g0)] H := hP
  have hD : va_D A [(a1, zI K 200 ff4), (a2, zI K 200 ff6), (a3, zI K 200 f3), (a4, zI K 200 f4), (a5, zI K 600 f5), (a0, zO 7 6 g0)] := hD
  refine lv_aload_n hx hb dX9_set_22 rfl (lv_at hl 0 rfl) ?_
  refine z_get (v := .ref a3) hx hb hg hown hK hP i_X9 rfl 5 rfl 2 (by decide) mt39 e3 dX9_set_23 ?_
  refine lv_iload_n hx hb dX9_set_26 rfl (lv_at hl 1 rfl) ?_
  refine lv_iload hx hb dX9_set_27 (lv_at hl 4 rfl) ?_
  refine z_iast (j := 0) hx hb hK hP hD hS 2 rfl rfl (Nat.le_of_ble_eq_true rfl) (Nat.le_of_ble_eq_true rfl) dX9_set_29 (fun ff8 H locs y9 hP hD hS => ?_)
  have hP : va_P K.1 classes [(a1, zI K 200 ff4), (a2, zI K 200 ff6), (a3, zI K 200 ff8), (a4, zI K 200 f4), (a5, zI K 600 f5), (a0, zO 7 6 g0)] H := hP
  have hD : va_D A [(a1, zI K 200 ff4), (a2, zI K 200 ff6), (a3, zI K 200 ff8), (a4, zI K 200 f4), (a5, zI K 600 f5), (a0, zO 7 6 g0)] := hD
  refine lv_aload_n hx hb dX9_set_30 rfl (lv_at hl 0 rfl) ?_
  refine z_get (v := .ref a4) hx hb hg hown hK hP i_X9 rfl 5 rfl 3 (by decide) mt40 e4 dX9_set_31 ?_
  refine lv_iload_n hx hb dX9_set_34 rfl (lv_at hl 1 rfl) ?_
  refine lv_iload hx hb dX9_set_35 (lv_at hl 5 rfl) ?_
  refine z_iast (j := 0) hx hb hK hP hD hS 3 rfl rfl (Nat.le_of_ble_eq_true rfl) (Nat.le_of_ble_eq_true rfl) dX9_set_37 (fun ff10 H locs y11 hP hD hS => ?_)
  have hP : va_P K.1 classes [(a1, zI K 200 ff4), (a2, zI K 200 ff6), (a3, zI K 200 ff8), (a4, zI K 200 ff10), (a5, zI K 600 f5), (a0, zO 7 6 g0)] H := hP
  have hD : va_D A [(a1, zI K 200 ff4), (a2, zI K 200 ff6), (a3, zI K 200 ff8), (a4, zI K 200 ff10), (a5, zI K 600 f5), (a0, zO 7 6 g0)] := hD
  refine lv_aload_n hx hb dX9_set_38 rfl (lv_at hl 0 rfl) ?_
  refine z_get (v := .ref a5) hx hb hg hown hK hP i_X9 rfl 5 rfl 4 (by decide) mt41 e5 dX9_set_39 ?_
  refine lv_iconst (v := 3) hx hb dX9_set_42 (by decide) ?_
  refine lv_iload_n hx hb dX9_set_43 rfl (lv_at hl 1 rfl) ?_
  refine lv_imul hx hb dX9_set_44 ?_
  refine z_cst (v := 0) (by decide +kernel) ?_
  refine lv_iconst (v := (-1)) hx hb dX9_set_45 (by decide) ?_
  refine z_iast (j := 0) hx hb hK hP hD hS 4 rfl rfl (Nat.le_of_ble_eq_true rfl) (Nat.le_of_ble_eq_true rfl) dX9_set_46 (fun ff12 H locs y13 hP hD hS => ?_)
  have hP : va_P K.1 classes [(a1, zI K 200 ff4), (a2, zI K 200 ff6), (a3, zI K 200 ff8), (a4, zI K 200 ff10), (a5, zI K 600 ff12), (a0, zO 7 6 g0)] H := hP
  have hD : va_D A [(a1, zI K 200 ff4), (a2, zI K 200 ff6), (a3, zI K 200 ff8), (a4, zI K 200 ff10), (a5, zI K 600 ff12), (a0, zO 7 6 g0)] := hD
  refine lv_aload_n hx hb dX9_set_47 rfl (lv_at hl 0 rfl) ?_
  refine z_get (v := .ref a5) hx hb hg hown hK hP i_X9 rfl 5 rfl 4 (by decide) mt41 e5 dX9_set_48 ?_
  refine lv_iconst (v := 3) hx hb dX9_set_51 (by decide) ?_
  refine lv_iload_n hx hb dX9_set_52 rfl (lv_at hl 1 rfl) ?_
  refine lv_imul hx hb dX9_set_53 ?_
  refine z_cst (v := 0) (by decide +kernel) ?_
  refine lv_iconst (v := 1) hx hb dX9_set_54 (by decide) ?_
  refine lv_iadd hx hb dX9_set_55 ?_
  refine z_cst (v := 1) (by decide +kernel) ?_
  refine lv_iconst (v := (-1)) hx hb dX9_set_56 (by decide) ?_
  refine z_iast (j := 1) hx hb hK hP hD hS 4 rfl rfl (Nat.le_of_ble_eq_true rfl) (Nat.le_of_ble_eq_true rfl) dX9_set_57 (fun ff14 H locs y15 hP hD hS => ?_)
  have hP : va_P K.1 classes [(a1, zI K 200 ff4), (a2, zI K 200 ff6), (a3, zI K 200 ff8), (a4, zI K 200 ff10), (a5, zI K 600 ff14), (a0, zO 7 6 g0)] H := hP
  have hD : va_D A [(a1, zI K 200 ff4), (a2, zI K 200 ff6), (a3, zI K 200 ff8), (a4, zI K 200 ff10), (a5, zI K 600 ff14), (a0, zO 7 6 g0)] := hD
  refine lv_aload_n hx hb dX9_set_58 rfl (lv_at hl 0 rfl) ?_
  refine z_get (v := .ref a5) hx hb hg hown hK hP i_X9 rfl 5 rfl 4 (by decide) mt41 e5 dX9_set_59 ?_
  refine lv_iconst (v := 3) hx hb dX9_set_62 (by decide) ?_
  refine lv_iload_n hx hb dX9_set_63 rfl (lv_at hl 1 rfl) ?_
  refine lv_imul hx hb dX9_set_64 ?_
  refine z_cst (v := 0) (by decide +kernel) ?_
  refine lv_iconst (v := 2) hx hb dX9_set_65 (by decide) ?_
  refine lv_iadd hx hb dX9_set_66 ?_
  refine z_cst (v := 2) (by decide +kernel) ?_
  refine lv_iconst (v := (-1)) hx hb dX9_set_67 (by decide) ?_
  refine z_iast (j := 2) hx hb hK hP hD hS 4 rfl rfl (Nat.le_of_ble_eq_true rfl) (Nat.le_of_ble_eq_true rfl) dX9_set_68 (fun ff16 H locs y17 hP hD hS => ?_)
  have hP : va_P K.1 classes [(a1, zI K 200 ff4), (a2, zI K 200 ff6), (a3, zI K 200 ff8), (a4, zI K 200 ff10), (a5, zI K 600 ff16), (a0, zO 7 6 g0)] H := hP
  have hD : va_D A [(a1, zI K 200 ff4), (a2, zI K 200 ff6), (a3, zI K 200 ff8), (a4, zI K 200 ff10), (a5, zI K 600 ff16), (a0, zO 7 6 g0)] := hD
  subst y17
  subst y15
  subst y13
  subst y11
  subst y9
  subst y7
  subst y5
  have hP9 : va_P K.1 classes [(a0, zO 7 6 g0), (a1, zI K 200 (va_up f1 0 2)), (a2, zI K 200 (va_up f2 0 (nI j0))), (a3, zI K 200 (va_up f3 0 0)), (a4, zI K 200 (va_up f4 0 0)), (a5, zI K 600 (va_up (va_up (va_up f5 0 (-1)) 1 (-1)) 2 (-1)))] H := hP.sub [5, 0, 1, 2, 3, 4] rfl
  have hD9 : va_D A [(a0, zO 7 6 g0), (a1, zI K 200 (va_up f1 0 2)), (a2, zI K 200 (va_up f2 0 (nI j0))), (a3, zI K 200 (va_up f3 0 0)), (a4, zI K 200 (va_up f4 0 0)), (a5, zI K 600 (va_up (va_up (va_up f5 0 (-1)) 1 (-1)) 2 (-1)))] := hD.sub [5, 0, 1, 2, 3, 4] (by decide) rfl
  exact z_vret hx hb hr (fun _ => 0) trivial hP9 hD9 hS (Nat.le_of_ble_eq_true rfl) (Nat.le_of_ble_eq_true rfl) hlocks dX9_set_69
set_option maxHeartbeats 4000000 in
set_option maxRecDepth 100000 in
theorem cX11_tell_3 (l : Launch) (K : zK) (sz : Nat) (a0 : Nat) (a1 : Nat) (a2 : Nat) (a3 : Nat) (a4 : Nat) (a5 : Nat) (a6 : Nat) (a7 : Nat) (a8 : Nat) (g0 : Nat → Value) (g1 : Nat → Value) (f2 : Nat → Int32) (f3 : Nat → Int32) (f4 : Nat → Int32) (f5 : Nat → Int32) (f6 : Nat → Int32) (f7 : Nat → Int32) (f8 : Nat → Int32) (j0 : Nat) (hj0 : j0 < 8) (e0 : g0 0 = (.ref a1)) (e1 : g1 0 = (.ref a2)) (e2 : g1 5 = (.int 0)) (e3 : g1 1 = (.ref a3)) (e4 : g1 2 = (.ref a4)) (e5 : g1 3 = (.ref a5)) (e6 : g1 4 = (.ref a6)) (e7 : g0 1 = (.ref a7)) (e8 : g0 2 = (.ref a8)) : Met l yX11_tell (Cond.code yX11_tell cX11_tell 13 (some .int) :: WG) { frames := 2, cells := 0, slots := 0, locals := 46 } (zPre K [(a0, zO 9 9 g0), (a1, zO 7 6 g1), (a2, zI K 200 f2), (a3, zI K 200 f3), (a4, zI K 200 f4), (a5, zI K 200 f5), (a6, zI K 600 f6), (a7, zI K 200 f7), (a8, zI K 200 f8)] sz [.ref a0, .int 2, .int (nI j0), .int 0, .int 0, .int (-1), .int (-1), .int (-1)]) (va_Qi (fun (r : Int32) (_ : Nat → Nat) => r = 0) (zB K (va_A [(a0, zO 9 9 g0), (a1, zO 7 6 g1), (a2, zI K 200 f2), (a3, zI K 200 f3), (a4, zI K 200 f4), (a5, zI K 200 f5), (a6, zI K 600 f6), (a7, zI K 200 f7), (a8, zI K 200 f8)] sz) (fun u : Nat → Nat => [(a0, zO 9 9 g0), (a1, zO 7 6 (va_up g1 5 (.int 1))), (a2, zI K 200 (va_up f2 0 2)), (a3, zI K 200 (va_up f3 0 (nI j0))), (a4, zI K 200 (va_up f4 0 0)), (a5, zI K 200 (va_up f5 0 0)), (a6, zI K 600 (va_up (va_up (va_up (va_up (va_up (va_up f6 0 (-1)) 1 (-1)) 2 (-1)) 0 (-1)) 1 (-1)) 2 (-1))), (a7, zI K 200 (va_up f7 0 1)), (a8, zI K 200 (va_up f8 0 0))])) (va_A [(a0, zO 9 9 g0), (a1, zO 7 6 g1), (a2, zI K 200 f2), (a3, zI K 200 f3), (a4, zI K 200 f4), (a5, zI K 200 f5), (a6, zI K 600 f6), (a7, zI K 200 f7), (a8, zI K 200 f8)] sz)) 0 0 (va_A [(a0, zO 9 9 g0), (a1, zO 7 6 g1), (a2, zI K 200 f2), (a3, zI K 200 f3), (a4, zI K 200 f4), (a5, zI K 200 f5), (a6, zI K 600 f6), (a7, zI K 200 f7), (a8, zI K 200 f8)] sz) := by
  refine z_met (Qc := fun A => (va_Qi (fun (r : Int32) (_ : Nat → Nat) => r = 0) (zB K A (fun u : Nat → Nat => [(a0, zO 9 9 g0), (a1, zO 7 6 (va_up g1 5 (.int 1))), (a2, zI K 200 (va_up f2 0 2)), (a3, zI K 200 (va_up f3 0 (nI j0))), (a4, zI K 200 (va_up f4 0 0)), (a5, zI K 200 (va_up f5 0 0)), (a6, zI K 600 (va_up (va_up (va_up (va_up (va_up (va_up f6 0 (-1)) 1 (-1)) 2 (-1)) 0 (-1)) 1 (-1)) 2 (-1))), (a7, zI K 200 (va_up f7 0 1)), (a8, zI K 200 (va_up f8 0 0))])) A)) (by decide +kernel) (Nat.le_of_ble_eq_true rfl) ?_
  intro p e s m args below meth c A ls H hx hb hr hg hown hlocks hml hin hK hP hD hA hS hZ hl
  have hown : s.vm.findClass RX11 = some m.cls := hown
  have hl : lv_has ls 13 [(0, .ref a0), (1, .int 2), (2, .int (nI j0)), (3, .int 0), (4, .int 0), (5, .int (-1)), (6, .int (-1)), (7, .int (-1))] := hl
  refine lv_aload_n hx hb dX11_tell_0 rfl (lv_at hl 0 rfl) ?_
  refine z_get (v := .ref a1) hx hb hg hown hK hP i_X11 rfl 0 rfl 0 (by decide) mt304 e0 dX11_tell_1 ?_
  refine lv_iconst (v := 1) hx hb dX11_tell_4 (by decide) ?_
  refine z_calli [(a1, zO 7 6 g1), (a2, zI K 200 f2)] [(a0, zO 9 9 g0), (a3, zI K 200 f3), (a4, zI K 200 f4), (a5, zI K 200 f5), (a6, zI K 600 f6), (a7, zI K 200 f7), (a8, zI K 200 f8)] [1, 2] [0, 3, 4, 5, 6, 7, 8] hP hD hS hA rfl rfl (by decide) (by decide) (by decide +kernel) 0 0 rfl rfl (fun hPc hDc hF => z_runV (As := [.int 1]) (rest := []) ⟨hx, hb, hml, hown, hg⟩ (cX9_reserve_2 l K H.size a1 a2 g1 f2 e1 e2) kV_RX11_198 hd_X9_reserve rfl rfl ⟨(Nat.le_of_ble_eq_true rfl), (Nat.le_of_ble_eq_true rfl)⟩ hK hS hZ hPc hDc hF 0 rfl rfl rfl hl.1 rfl (Nat.le_of_ble_eq_true rfl) dX11_tell_5 ⟨(Nat.le_of_ble_eq_true rfl), (Nat.le_of_ble_eq_true rfl)⟩) (fun r3 u1 H locs w2 hP hD hS => ?_)
  subst w2
  have hP : va_P K.1 classes [(a0, zO 9 9 g0), (a3, zI K 200 f3), (a4, zI K 200 f4), (a5, zI K 200 f5), (a6, zI K 600 f6), (a7, zI K 200 f7), (a8, zI K 200 f8), (a1, zO 7 6 (va_up g1 5 (.int 1))), (a2, zI K 200 f2)] H := hP
  have hD : va_D A [(a0, zO 9 9 g0), (a3, zI K 200 f3), (a4, zI K 200 f4), (a5, zI K 200 f5), (a6, zI K 600 f6), (a7, zI K 200 f7), (a8, zI K 200 f8), (a1, zO 7 6 (va_up g1 5 (.int 1))), (a2, zI K 200 f2)] := hD
  refine lv_istore (lv' := [(8, .int 0), (0, .ref a0), (1, .int 2), (2, .int (nI j0)), (3, .int 0), (4, .int 0), (5, .int (-1)), (6, .int (-1)), (7, .int (-1))]) hx hb dX11_tell_8 hl (by decide) rfl (fun ls hl => ?_)
  refine lv_iload hx hb dX11_tell_10 (lv_at hl 0 rfl) ?_
  refine lv_iconst (v := (-1)) hx hb dX11_tell_12 (by decide) ?_
  refine lv_icmp_ne (tgt := 26) hx hb dX11_tell_13 (by decide) (fun _ => ?_) (fun c => absurd c (by decide))
  refine lv_aload_n hx hb dX11_tell_26 rfl (lv_at hl 1 rfl) ?_
  refine z_get (v := .ref a1) hx hb hg hown hK hP i_X11 rfl 0 rfl 0 (by decide) mt304 e0 dX11_tell_27 ?_
  refine lv_iload hx hb dX11_tell_30 (lv_at hl 0 rfl) ?_
  refine lv_iload_n hx hb dX11_tell_32 rfl (lv_at hl 2 rfl) ?_
  refine lv_iload_n hx hb dX11_tell_33 rfl (lv_at hl 3 rfl) ?_
  refine lv_iload_n hx hb dX11_tell_34 rfl (lv_at hl 4 rfl) ?_
  refine lv_iload hx hb dX11_tell_35 (lv_at hl 5 rfl) ?_
  refine z_callv [(a1, zO 7 6 (va_up g1 5 (.int 1))), (a2, zI K 200 f2), (a3, zI K 200 f3), (a4, zI K 200 f4), (a5, zI K 200 f5), (a6, zI K 600 f6)] [(a0, zO 9 9 g0), (a7, zI K 200 f7), (a8, zI K 200 f8)] [7, 8, 1, 2, 3, 4] [0, 5, 6] hP hD hS hA rfl rfl (by decide) (by decide) (by decide +kernel) 0 0 rfl rfl (fun hPc hDc hF => z_runV (As := [.int 0, .int 2, .int (nI j0), .int 0, .int 0]) (rest := []) ⟨hx, hb, hml, hown, hg⟩ (cX9_set_3 l K H.size a1 a2 a3 a4 a5 a6 (va_up g1 5 (.int 1)) f2 f3 f4 f5 f6 j0 hj0 zu_eq (zu_ne (by decide) e1) (zu_ne (by decide) e3) (zu_ne (by decide) e4) (zu_ne (by decide) e5) (zu_ne (by decide) e6)) kV_RX11_203 hd_X9_set rfl rfl ⟨(Nat.le_of_ble_eq_true rfl), (Nat.le_of_ble_eq_true rfl)⟩ hK hS hZ hPc hDc hF 0 rfl rfl rfl hl.1 rfl (Nat.le_of_ble_eq_true rfl) dX11_tell_37 ⟨(Nat.le_of_ble_eq_true rfl), (Nat.le_of_ble_eq_true rfl)⟩) (fun u4 H locs w5 hP hD hS => ?_)
  have hP : va_P K.1 classes [(a0, zO 9 9 g0), (a7, zI K 200 f7), (a8, zI K 200 f8), (a1, zO 7 6 (va_up g1 5 (.int 1))), (a2, zI K 200 (va_up f2 0 2)), (a3, zI K 200 (va_up f3 0 (nI j0))), (a4, zI K 200 (va_up f4 0 0)), (a5, zI K 200 (va_up f5 0 0)), (a6, zI K 600 (va_up (va_up (va_up f6 0 (-1)) 1 (-1)) 2 (-1)))] H := hP
  have hD : va_D A [(a0, zO 9 9 g0), (a7, zI K 200 f7), (a8, zI K 200 f8), (a1, zO 7 6 (va_up g1 5 (.int 1))), (a2, zI K 200 (va_up f2 0 2)), (a3, zI K 200 (va_up f3 0 (nI j0))), (a4, zI K 200 (va_up f4 0 0)), (a5, zI K 200 (va_up f5 0 0)), (a6, zI K 600 (va_up (va_up (va_up f6 0 (-1)) 1 (-1)) 2 (-1)))] := hD
  obtain ⟨ff7, y8⟩ : ∃ z, z = ((va_up (va_up (va_up f6 0 (-1)) 1 (-1)) 2 (-1)) : Nat → Int32) := ⟨_, rfl⟩
  rw [← y8] at hP hD
  refine lv_aload_n hx hb dX11_tell_40 rfl (lv_at hl 1 rfl) ?_
  refine z_get (v := .ref a1) hx hb hg hown hK hP i_X11 rfl 0 rfl 0 (by decide) mt304 e0 dX11_tell_41 ?_
  refine lv_iload hx hb dX11_tell_44 (lv_at hl 0 rfl) ?_
  refine lv_iload hx hb dX11_tell_46 (lv_at hl 6 rfl) ?_
  refine lv_iload hx hb dX11_tell_48 (lv_at hl 7 rfl) ?_
  refine lv_iload hx hb dX11_tell_50 (lv_at hl 8 rfl) ?_
  refine z_callv [(a1, zO 7 6 (va_up g1 5 (.int 1))), (a6, zI K 600 ff7)] [(a0, zO 9 9 g0), (a7, zI K 200 f7), (a8, zI K 200 f8), (a2, zI K 200 (va_up f2 0 2)), (a3, zI K 200 (va_up f3 0 (nI j0))), (a4, zI K 200 (va_up f4 0 0)), (a5, zI K 200 (va_up f5 0 0))] [3, 8] [0, 1, 2, 4, 5, 6, 7] hP hD hS hA rfl rfl (by decide) (by decide) (by decide +kernel) 0 0 rfl rfl (fun hPc hDc hF => z_runV (As := [.int 0, .int (-1), .int (-1), .int (-1)]) (rest := []) ⟨hx, hb, hml, hown, hg⟩ (cX9_join_1 l K H.size a1 a6 (va_up g1 5 (.int 1)) ff7 zu_eq (zu_ne (by decide) e6)) kV_RX11_207 hd_X9_join rfl rfl ⟨(Nat.le_of_ble_eq_true rfl), (Nat.le_of_ble_eq_true rfl)⟩ hK hS hZ hPc hDc hF 0 rfl rfl rfl hl.1 rfl (Nat.le_of_ble_eq_true rfl) dX11_tell_52 ⟨(Nat.le_of_ble_eq_true rfl), (Nat.le_of_ble_eq_true rfl)⟩) (fun u9 H locs w10 hP hD hS => ?_)
  have hP : va_P K.1 classes [(a0, zO 9 9 g0), (a7, zI K 200 f7), (a8, zI K 200 f8), (a2, zI K 200 (va_up f2 0 2)), (a3, zI K 200 (va_up f3 0 (nI j0))), (a4, zI K 200 (va_up f4 0 0)), (a5, zI K 200 (va_up f5 0 0)), (a1, zO 7 6 (va_up g1 5 (.int 1))), (a6, zI K 600 (va_up (va_up (va_up ff7 0 (-1)) 1 (-1)) 2 (-1)))] H := hP
  have hD : va_D A [(a0, zO 9 9 g0), (a7, zI K 200 f7), (a8, zI K 200 f8), (a2, zI K 200 (va_up f2 0 2)), (a3, zI K 200 (va_up f3 0 (nI j0))), (a4, zI K 200 (va_up f4 0 0)), (a5, zI K 200 (va_up f5 0 0)), (a1, zO 7 6 (va_up g1 5 (.int 1))), (a6, zI K 600 (va_up (va_up (va_up ff7 0 (-1)) 1 (-1)) 2 (-1)))] := hD
  obtain ⟨ff12, y13⟩ : ∃ z, z = ((va_up (va_up (va_up ff7 0 (-1)) 1 (-1)) 2 (-1)) : Nat → Int32) := ⟨_, rfl⟩
  rw [← y13] at hP hD
  refine lv_iconst (v := 1) hx hb dX11_tell_55 (by decide) ?_
  refine lv_istore (lv' := [(9, .int 1), (8, .int 0), (0, .ref a0), (1, .int 2), (2, .int (nI j0)), (3, .int 0), (4, .int 0), (5, .int (-1)), (6, .int (-1)), (7, .int (-1))]) hx hb dX11_tell_56 hl (by decide) rfl (fun ls hl => ?_)
  refine lv_iload_n hx hb dX11_tell_58 rfl (lv_at hl 3 rfl) ?_
  refine lv_iconst (v := 1) hx hb dX11_tell_59 (by decide) ?_
  refine lv_icmp_eq (tgt := 69) hx hb dX11_tell_60 (by decide) (fun c => absurd c (by decide)) (fun _ => ?_)
  refine lv_iload_n hx hb dX11_tell_63 rfl (lv_at hl 3 rfl) ?_
  refine lv_bipush (v := 14) hx hb dX11_tell_64 (by decide) ?_
  refine lv_icmp_ne (tgt := 75) hx hb dX11_tell_66 (by decide) (fun _ => ?_) (fun c => absurd c (by decide))
  refine lv_iconst (v := 0) hx hb dX11_tell_75 (by decide) ?_
  refine lv_istore (lv' := [(10, .int 0), (9, .int 1), (8, .int 0), (0, .ref a0), (1, .int 2), (2, .int (nI j0)), (3, .int 0), (4, .int 0), (5, .int (-1)), (6, .int (-1)), (7, .int (-1))]) hx hb dX11_tell_76 hl (by decide) rfl (fun ls hl => ?_)
  refine lv_iconst (v := 0) hx hb dX11_tell_78 (by decide) ?_
  refine lv_istore (lv' := [(11, .int 0), (10, .int 0), (9, .int 1), (8, .int 0), (0, .ref a0), (1, .int 2), (2, .int (nI j0)), (3, .int 0), (4, .int 0), (5, .int (-1)), (6, .int (-1)), (7, .int (-1))]) hx hb dX11_tell_79 hl (by decide) rfl (fun ls hl => ?_)
  refine lv_iload hx hb dX11_tell_81 (lv_at hl 0 rfl) ?_
  refine lv_iconst (v := 3) hx hb dX11_tell_83 (by decide) ?_
  refine lv_icmp_ge (tgt := 156) hx hb dX11_tell_84 (by decide) (fun c => absurd c (by decide)) (fun _ => ?_)
  refine lv_aload_n hx hb dX11_tell_87 rfl (lv_at hl 4 rfl) ?_
  refine z_get (v := .ref a1) hx hb hg hown hK hP i_X11 rfl 0 rfl 0 (by decide) mt304 e0 dX11_tell_88 ?_
  refine lv_iload hx hb dX11_tell_91 (lv_at hl 3 rfl) ?_
  refine lv_iload hx hb dX11_tell_93 (lv_at hl 0 rfl) ?_
  refine z_calli [(a1, zO 7 6 (va_up g1 5 (.int 1))), (a6, zI K 600 ff12)] [(a0, zO 9 9 g0), (a7, zI K 200 f7), (a8, zI K 200 f8), (a2, zI K 200 (va_up f2 0 2)), (a3, zI K 200 (va_up f3 0 (nI j0))), (a4, zI K 200 (va_up f4 0 0)), (a5, zI K 200 (va_up f5 0 0))] [7, 8] [0, 1, 2, 3, 4, 5, 6] hP hD hS hA rfl rfl (by decide) (by decide) (by decide +kernel) 0 0 rfl rfl (fun hPc hDc hF => z_runV (As := [.int 0, .int 0]) (rest := []) ⟨hx, hb, hml, hown, hg⟩ (cX9_part_1 l K H.size a1 a6 (va_up g1 5 (.int 1)) ff12 zu_eq (zu_ne (by decide) e6) (zu_of y13 (zu_ne (by decide) (zu_ne (by decide) zu_eq)))) kV_RX11_211 hd_X9_part rfl rfl ⟨(Nat.le_of_ble_eq_true rfl), (Nat.le_of_ble_eq_true rfl)⟩ hK hS hZ hPc hDc hF 0 rfl rfl rfl hl.1 rfl (Nat.le_of_ble_eq_true rfl) dX11_tell_95 ⟨(Nat.le_of_ble_eq_true rfl), (Nat.le_of_ble_eq_true rfl)⟩) (fun r16 u14 H locs w15 hP hD hS => ?_)
  subst w15
  have hP : va_P K.1 classes [(a0, zO 9 9 g0), (a7, zI K 200 f7), (a8, zI K 200 f8), (a2, zI K 200 (va_up f2 0 2)), (a3, zI K 200 (va_up f3 0 (nI j0))), (a4, zI K 200 (va_up f4 0 0)), (a5, zI K 200 (va_up f5 0 0)), (a1, zO 7 6 (va_up g1 5 (.int 1))), (a6, zI K 600 ff12)] H := hP
  have hD : va_D A [(a0, zO 9 9 g0), (a7, zI K 200 f7), (a8, zI K 200 f8), (a2, zI K 200 (va_up f2 0 2)), (a3, zI K 200 (va_up f3 0 (nI j0))), (a4, zI K 200 (va_up f4 0 0)), (a5, zI K 200 (va_up f5 0 0)), (a1, zO 7 6 (va_up g1 5 (.int 1))), (a6, zI K 600 ff12)] := hD
  refine lv_istore (lv' := [(12, .int (-1)), (11, .int 0), (10, .int 0), (9, .int 1), (8, .int 0), (0, .ref a0), (1, .int 2), (2, .int (nI j0)), (3, .int 0), (4, .int 0), (5, .int (-1)), (6, .int (-1)), (7, .int (-1))]) hx hb dX11_tell_98 hl (by decide) rfl (fun ls hl => ?_)
  refine lv_iload hx hb dX11_tell_100 (lv_at hl 0 rfl) ?_
  refine lv_if_lt (tgt := 150) hx hb dX11_tell_102 (by decide) (fun _ => ?_) (fun c => absurd (by decide) c)
  refine lv_iinc (v := 1) (lv' := [(11, .int 1), (12, .int (-1)), (10, .int 0), (9, .int 1), (8, .int 0), (0, .ref a0), (1, .int 2), (2, .int (nI j0)), (3, .int 0), (4, .int 0), (5, .int (-1)), (6, .int (-1)), (7, .int (-1))]) hx hb dX11_tell_150 hl (k := 1) rfl (by decide +kernel) (by decide) rfl (fun ls hl => ?_)
  refine lv_goto (tgt := 81) hx hb dX11_tell_153 (by decide) ?_
  refine lv_iload hx hb dX11_tell_81 (lv_at hl 0 rfl) ?_
  refine lv_iconst (v := 3) hx hb dX11_tell_83 (by decide) ?_
  refine lv_icmp_ge (tgt := 156) hx hb dX11_tell_84 (by decide) (fun c => absurd c (by decide)) (fun _ => ?_)
  refine lv_aload_n hx hb dX11_tell_87 rfl (lv_at hl 5 rfl) ?_
  refine z_get (v := .ref a1) hx hb hg hown hK hP i_X11 rfl 0 rfl 0 (by decide) mt304 e0 dX11_tell_88 ?_
  refine lv_iload hx hb dX11_tell_91 (lv_at hl 4 rfl) ?_
  refine lv_iload hx hb dX11_tell_93 (lv_at hl 0 rfl) ?_
  refine z_calli [(a1, zO 7 6 (va_up g1 5 (.int 1))), (a6, zI K 600 ff12)] [(a0, zO 9 9 g0), (a7, zI K 200 f7), (a8, zI K 200 f8), (a2, zI K 200 (va_up f2 0 2)), (a3, zI K 200 (va_up f3 0 (nI j0))), (a4, zI K 200 (va_up f4 0 0)), (a5, zI K 200 (va_up f5 0 0))] [7, 8] [0, 1, 2, 3, 4, 5, 6] hP hD hS hA rfl rfl (by decide) (by decide) (by decide +kernel) 0 0 rfl rfl (fun hPc hDc hF => z_runV (As := [.int 0, .int 1]) (rest := []) ⟨hx, hb, hml, hown, hg⟩ (cX9_part_2 l K H.size a1 a6 (va_up g1 5 (.int 1)) ff12 zu_eq (zu_ne (by decide) e6) (zu_of y13 (zu_ne (by decide) zu_eq))) kV_RX11_211 hd_X9_part rfl rfl ⟨(Nat.le_of_ble_eq_true rfl), (Nat.le_of_ble_eq_true rfl)⟩ hK hS hZ hPc hDc hF 0 rfl rfl rfl hl.1 rfl (Nat.le_of_ble_eq_true rfl) dX11_tell_95 ⟨(Nat.le_of_ble_eq_true rfl), (Nat.le_of_ble_eq_true rfl)⟩) (fun r19 u17 H locs w18 hP hD hS => ?_)
  subst w18
  have hP : va_P K.1 classes [(a0, zO 9 9 g0), (a7, zI K 200 f7), (a8, zI K 200 f8), (a2, zI K 200 (va_up f2 0 2)), (a3, zI K 200 (va_up f3 0 (nI j0))), (a4, zI K 200 (va_up f4 0 0)), (a5, zI K 200 (va_up f5 0 0)), (a1, zO 7 6 (va_up g1 5 (.int 1))), (a6, zI K 600 ff12)] H := hP
  have hD : va_D A [(a0, zO 9 9 g0), (a7, zI K 200 f7), (a8, zI K 200 f8), (a2, zI K 200 (va_up f2 0 2)), (a3, zI K 200 (va_up f3 0 (nI j0))), (a4, zI K 200 (va_up f4 0 0)), (a5, zI K 200 (va_up f5 0 0)), (a1, zO 7 6 (va_up g1 5 (.int 1))), (a6, zI K 600 ff12)] := hD
  refine lv_istore (lv' := [(12, .int (-1)), (11, .int 1), (10, .int 0), (9, .int 1), (8, .int 0), (0, .ref a0), (1, .int 2), (2, .int (nI j0)), (3, .int 0), (4, .int 0), (5, .int (-1)), (6, .int (-1)), (7, .int (-1))]) hx hb dX11_tell_98 hl (by decide) rfl (fun ls hl => ?_)
  refine lv_iload hx hb dX11_tell_100 (lv_at hl 0 rfl) ?_
  refine lv_if_lt (tgt := 150) hx hb dX11_tell_102 (by decide) (fun _ => ?_) (fun c => absurd (by decide) c)
  refine lv_iinc (v := 2) (lv' := [(11, .int 2), (12, .int (-1)), (10, .int 0), (9, .int 1), (8, .int 0), (0, .ref a0), (1, .int 2), (2, .int (nI j0)), (3, .int 0), (4, .int 0), (5, .int (-1)), (6, .int (-1)), (7, .int (-1))]) hx hb dX11_tell_150 hl (k := 1) rfl (by decide +kernel) (by decide) rfl (fun ls hl => ?_)
  refine lv_goto (tgt := 81) hx hb dX11_tell_153 (by decide) ?_
  refine lv_iload hx hb dX11_tell_81 (lv_at hl 0 rfl) ?_
  refine lv_iconst (v := 3) hx hb dX11_tell_83 (by decide) ?_
  refine lv_icmp_ge (tgt := 156) hx hb dX11_tell_84 (by decide) (fun c => absurd c (by decide)) (fun _ => ?_)
  refine lv_aload_n hx hb dX11_tell_87 rfl (lv_at hl 5 rfl) ?_
  refine z_get (v := .ref a1) hx hb hg hown hK hP i_X11 rfl 0 rfl 0 (by decide) mt304 e0 dX11_tell_88 ?_
  refine lv_iload hx hb dX11_tell_91 (lv_at hl 4 rfl) ?_
  refine lv_iload hx hb dX11_tell_93 (lv_at hl 0 rfl) ?_
  refine z_calli [(a1, zO 7 6 (va_up g1 5 (.int 1))), (a6, zI K 600 ff12)] [(a0, zO 9 9 g0), (a7, zI K 200 f7), (a8, zI K 200 f8), (a2, zI K 200 (va_up f2 0 2)), (a3, zI K 200 (va_up f3 0 (nI j0))), (a4, zI K 200 (va_up f4 0 0)), (a5, zI K 200 (va_up f5 0 0))] [7, 8] [0, 1, 2, 3, 4, 5, 6] hP hD hS hA rfl rfl (by decide) (by decide) (by decide +kernel) 0 0 rfl rfl (fun hPc hDc hF => z_runV (As := [.int 0, .int 2]) (rest := []) ⟨hx, hb, hml, hown, hg⟩ (cX9_part_3 l K H.size a1 a6 (va_up g1 5 (.int 1)) ff12 zu_eq (zu_ne (by decide) e6) (zu_of y13 zu_eq)) kV_RX11_211 hd_X9_part rfl rfl ⟨(Nat.le_of_ble_eq_true rfl), (Nat.le_of_ble_eq_true rfl)⟩ hK hS hZ hPc hDc hF 0 rfl rfl rfl hl.1 rfl (Nat.le_of_ble_eq_true rfl) dX11_tell_95 ⟨(Nat.le_of_ble_eq_true rfl), (Nat.le_of_ble_eq_true rfl)⟩) (fun r22 u20 H locs w21 hP hD hS => ?_)
  subst w21
  have hP : va_P K.1 classes [(a0, zO 9 9 g0), (a7, zI K 200 f7), (a8, zI K 200 f8), (a2, zI K 200 (va_up f2 0 2)), (a3, zI K 200 (va_up f3 0 (nI j0))), (a4, zI K 200 (va_up f4 0 0)), (a5, zI K 200 (va_up f5 0 0)), (a1, zO 7 6 (va_up g1 5 (.int 1))), (a6, zI K 600 ff12)] H := hP
  have hD : va_D A [(a0, zO 9 9 g0), (a7, zI K 200 f7), (a8, zI K 200 f8), (a2, zI K 200 (va_up f2 0 2)), (a3, zI K 200 (va_up f3 0 (nI j0))), (a4, zI K 200 (va_up f4 0 0)), (a5, zI K 200 (va_up f5 0 0)), (a1, zO 7 6 (va_up g1 5 (.int 1))), (a6, zI K 600 ff12)] := hD
  refine lv_istore (lv' := [(12, .int (-1)), (11, .int 2), (10, .int 0), (9, .int 1), (8, .int 0), (0, .ref a0), (1, .int 2), (2, .int (nI j0)), (3, .int 0), (4, .int 0), (5, .int (-1)), (6, .int (-1)), (7, .int (-1))]) hx hb dX11_tell_98 hl (by decide) rfl (fun ls hl => ?_)
  refine lv_iload hx hb dX11_tell_100 (lv_at hl 0 rfl) ?_
  refine lv_if_lt (tgt := 150) hx hb dX11_tell_102 (by decide) (fun _ => ?_) (fun c => absurd (by decide) c)
  refine lv_iinc (v := 3) (lv' := [(11, .int 3), (12, .int (-1)), (10, .int 0), (9, .int 1), (8, .int 0), (0, .ref a0), (1, .int 2), (2, .int (nI j0)), (3, .int 0), (4, .int 0), (5, .int (-1)), (6, .int (-1)), (7, .int (-1))]) hx hb dX11_tell_150 hl (k := 1) rfl (by decide +kernel) (by decide) rfl (fun ls hl => ?_)
  refine lv_goto (tgt := 81) hx hb dX11_tell_153 (by decide) ?_
  refine lv_iload hx hb dX11_tell_81 (lv_at hl 0 rfl) ?_
  refine lv_iconst (v := 3) hx hb dX11_tell_83 (by decide) ?_
  refine lv_icmp_ge (tgt := 156) hx hb dX11_tell_84 (by decide) (fun _ => ?_) (fun c => absurd (by decide) c)
  refine lv_aload_n hx hb dX11_tell_156 rfl (lv_at hl 5 rfl) ?_
  refine z_get (v := .ref a7) hx hb hg hown hK hP i_X11 rfl 0 rfl 1 (by decide) mt305 e7 dX11_tell_157 ?_
  refine lv_iload hx hb dX11_tell_160 (lv_at hl 4 rfl) ?_
  refine lv_iload hx hb dX11_tell_162 (lv_at hl 3 rfl) ?_
  refine lv_bipush (v := 81) hx hb dX11_tell_164 (by decide) ?_
  refine va_mmin hx hb (by rw [hml]; exact hl.1.symm) hown (hg _ mt485) (hg _ mt486) (hg _ mt15) (hg _ mt487) (Nat.le_of_ble_eq_true rfl) (Nat.le_of_ble_eq_true rfl) (Nat.le_of_ble_eq_true rfl) (Nat.le_of_ble_eq_true rfl) dX11_tell_166 ?_
  refine z_cst (v := 1) (by decide +kernel) ?_
  refine z_iast (j := 0) hx hb hK hP hD hS 1 rfl rfl (Nat.le_of_ble_eq_true rfl) (Nat.le_of_ble_eq_true rfl) dX11_tell_169 (fun ff23 H locs y24 hP hD hS => ?_)
  have hP : va_P K.1 classes [(a0, zO 9 9 g0), (a7, zI K 200 ff23), (a8, zI K 200 f8), (a2, zI K 200 (va_up f2 0 2)), (a3, zI K 200 (va_up f3 0 (nI j0))), (a4, zI K 200 (va_up f4 0 0)), (a5, zI K 200 (va_up f5 0 0)), (a1, zO 7 6 (va_up g1 5 (.int 1))), (a6, zI K 600 ff12)] H := hP
  have hD : va_D A [(a0, zO 9 9 g0), (a7, zI K 200 ff23), (a8, zI K 200 f8), (a2, zI K 200 (va_up f2 0 2)), (a3, zI K 200 (va_up f3 0 (nI j0))), (a4, zI K 200 (va_up f4 0 0)), (a5, zI K 200 (va_up f5 0 0)), (a1, zO 7 6 (va_up g1 5 (.int 1))), (a6, zI K 600 ff12)] := hD
  refine lv_aload_n hx hb dX11_tell_170 rfl (lv_at hl 5 rfl) ?_
  refine z_get (v := .ref a8) hx hb hg hown hK hP i_X11 rfl 0 rfl 2 (by decide) mt306 e8 dX11_tell_171 ?_
  refine lv_iload hx hb dX11_tell_174 (lv_at hl 4 rfl) ?_
  refine lv_iload hx hb dX11_tell_176 (lv_at hl 2 rfl) ?_
  refine z_iast (j := 0) hx hb hK hP hD hS 2 rfl rfl (Nat.le_of_ble_eq_true rfl) (Nat.le_of_ble_eq_true rfl) dX11_tell_178 (fun ff25 H locs y26 hP hD hS => ?_)
  have hP : va_P K.1 classes [(a0, zO 9 9 g0), (a7, zI K 200 ff23), (a8, zI K 200 ff25), (a2, zI K 200 (va_up f2 0 2)), (a3, zI K 200 (va_up f3 0 (nI j0))), (a4, zI K 200 (va_up f4 0 0)), (a5, zI K 200 (va_up f5 0 0)), (a1, zO 7 6 (va_up g1 5 (.int 1))), (a6, zI K 600 ff12)] H := hP
  have hD : va_D A [(a0, zO 9 9 g0), (a7, zI K 200 ff23), (a8, zI K 200 ff25), (a2, zI K 200 (va_up f2 0 2)), (a3, zI K 200 (va_up f3 0 (nI j0))), (a4, zI K 200 (va_up f4 0 0)), (a5, zI K 200 (va_up f5 0 0)), (a1, zO 7 6 (va_up g1 5 (.int 1))), (a6, zI K 600 ff12)] := hD
  refine lv_iload hx hb dX11_tell_179 (lv_at hl 4 rfl) ?_
  subst y26
  subst y24
  subst y13
  subst y8
  have hP9 : va_P K.1 classes [(a0, zO 9 9 g0), (a1, zO 7 6 (va_up g1 5 (.int 1))), (a2, zI K 200 (va_up f2 0 2)), (a3, zI K 200 (va_up f3 0 (nI j0))), (a4, zI K 200 (va_up f4 0 0)), (a5, zI K 200 (va_up f5 0 0)), (a6, zI K 600 (va_up (va_up (va_up (va_up (va_up (va_up f6 0 (-1)) 1 (-1)) 2 (-1)) 0 (-1)) 1 (-1)) 2 (-1))), (a7, zI K 200 (va_up f7 0 1)), (a8, zI K 200 (va_up f8 0 0))] H := hP.sub [0, 7, 3, 4, 5, 6, 8, 1, 2] rfl
  have hD9 : va_D A [(a0, zO 9 9 g0), (a1, zO 7 6 (va_up g1 5 (.int 1))), (a2, zI K 200 (va_up f2 0 2)), (a3, zI K 200 (va_up f3 0 (nI j0))), (a4, zI K 200 (va_up f4 0 0)), (a5, zI K 200 (va_up f5 0 0)), (a6, zI K 600 (va_up (va_up (va_up (va_up (va_up (va_up f6 0 (-1)) 1 (-1)) 2 (-1)) 0 (-1)) 1 (-1)) 2 (-1))), (a7, zI K 200 (va_up f7 0 1)), (a8, zI K 200 (va_up f8 0 0))] := hD.sub [0, 7, 3, 4, 5, 6, 8, 1, 2] (by decide) rfl
  exact z_iret hx hb hr (fun _ => 0) rfl hP9 hD9 hS (Nat.le_of_ble_eq_true rfl) (Nat.le_of_ble_eq_true rfl) hlocks dX11_tell_181
set_option maxHeartbeats 4000000 in
set_option maxRecDepth 100000 in
theorem cX11_global_2 (l : Launch) (K : zK) (sz : Nat) (a0 : Nat) (a1 : Nat) (a2 : Nat) (a3 : Nat) (a4 : Nat) (a5 : Nat) (a6 : Nat) (a7 : Nat) (a8 : Nat) (g0 : Nat → Value) (g1 : Nat → Value) (f2 : Nat → Int32) (f3 : Nat → Int32) (f4 : Nat → Int32) (f5 : Nat → Int32) (f6 : Nat → Int32) (f7 : Nat → Int32) (f8 : Nat → Int32) (j0 : Nat) (hj0 : j0 < 8) (e0 : g0 0 = (.ref a1)) (e1 : g1 0 = (.ref a2)) (e2 : g1 5 = (.int 0)) (e3 : g1 1 = (.ref a3)) (e4 : g1 2 = (.ref a4)) (e5 : g1 3 = (.ref a5)) (e6 : g1 4 = (.ref a6)) (e7 : g0 1 = (.ref a7)) (e8 : g0 2 = (.ref a8)) : Met l yX11_global (Cond.code yX11_global cX11_global 2 (some .int) :: WG) { frames := 3, cells := 0, slots := 0, locals := 78 } (zPre K [(a0, zO 9 9 g0), (a1, zO 7 6 g1), (a2, zI K 200 f2), (a3, zI K 200 f3), (a4, zI K 200 f4), (a5, zI K 200 f5), (a6, zI K 600 f6), (a7, zI K 200 f7), (a8, zI K 200 f8)] sz [.ref a0, .int (nI j0)]) (va_Qi (fun (r : Int32) (_ : Nat → Nat) => r = 0) (zB K (va_A [(a0, zO 9 9 g0), (a1, zO 7 6 g1), (a2, zI K 200 f2), (a3, zI K 200 f3), (a4, zI K 200 f4), (a5, zI K 200 f5), (a6, zI K 600 f6), (a7, zI K 200 f7), (a8, zI K 200 f8)] sz) (fun u : Nat → Nat => [])) (va_A [(a0, zO 9 9 g0), (a1, zO 7 6 g1), (a2, zI K 200 f2), (a3, zI K 200 f3), (a4, zI K 200 f4), (a5, zI K 200 f5), (a6, zI K 600 f6), (a7, zI K 200 f7), (a8, zI K 200 f8)] sz)) 0 0 (va_A [(a0, zO 9 9 g0), (a1, zO 7 6 g1), (a2, zI K 200 f2), (a3, zI K 200 f3), (a4, zI K 200 f4), (a5, zI K 200 f5), (a6, zI K 600 f6), (a7, zI K 200 f7), (a8, zI K 200 f8)] sz) := by
  refine z_met (Qc := fun A => (va_Qi (fun (r : Int32) (_ : Nat → Nat) => r = 0) (zB K A (fun u : Nat → Nat => [])) A)) (by decide +kernel) (Nat.le_of_ble_eq_true rfl) ?_
  intro p e s m args below meth c A ls H hx hb hr hg hown hlocks hml hin hK hP hD hA hS hZ hl
  have hown : s.vm.findClass RX11 = some m.cls := hown
  have hl : lv_has ls 2 [(0, .ref a0), (1, .int (nI j0))] := hl
  refine lv_aload_n hx hb dX11_global_0 rfl (lv_at hl 0 rfl) ?_
  refine lv_iload_n hx hb dX11_global_1 rfl (lv_at hl 1 rfl) ?_
  refine lv_bipush (v := 8) hx hb dX11_global_2 (by decide) ?_
  refine z_callv [(a0, zO 9 9 g0)] [(a1, zO 7 6 g1), (a2, zI K 200 f2), (a3, zI K 200 f3), (a4, zI K 200 f4), (a5, zI K 200 f5), (a6, zI K 600 f6), (a7, zI K 200 f7), (a8, zI K 200 f8)] [0] [1, 2, 3, 4, 5, 6, 7, 8] hP hD hS hA rfl rfl (by decide) (by decide) (by decide +kernel) 0 0 rfl rfl (fun hPc hDc hF => z_runV (As := [.int (nI j0), .int 8]) (rest := []) ⟨hx, hb, hml, hown, hg⟩ (cX11_checkRange_5 l K H.size a0 g0 j0 hj0) kV_RX11_72 hd_X11_checkRange rfl rfl ⟨(Nat.le_of_ble_eq_true rfl), (Nat.le_of_ble_eq_true rfl)⟩ hK hS hZ hPc hDc hF 0 rfl rfl rfl hl.1 rfl (Nat.le_of_ble_eq_true rfl) dX11_global_4 ⟨(Nat.le_of_ble_eq_true rfl), (Nat.le_of_ble_eq_true rfl)⟩) (fun u1 H locs w2 hP hD hS => ?_)
  have hP : va_P K.1 classes [(a1, zO 7 6 g1), (a2, zI K 200 f2), (a3, zI K 200 f3), (a4, zI K 200 f4), (a5, zI K 200 f5), (a6, zI K 600 f6), (a7, zI K 200 f7), (a8, zI K 200 f8), (a0, zO 9 9 g0)] H := hP
  have hD : va_D A [(a1, zO 7 6 g1), (a2, zI K 200 f2), (a3, zI K 200 f3), (a4, zI K 200 f4), (a5, zI K 200 f5), (a6, zI K 600 f6), (a7, zI K 200 f7), (a8, zI K 200 f8), (a0, zO 9 9 g0)] := hD
  refine lv_aload_n hx hb dX11_global_7 rfl (lv_at hl 0 rfl) ?_
  refine lv_iconst (v := 2) hx hb dX11_global_8 (by decide) ?_
  refine lv_iload_n hx hb dX11_global_9 rfl (lv_at hl 1 rfl) ?_
  refine lv_iconst (v := 0) hx hb dX11_global_10 (by decide) ?_
  refine lv_iconst (v := 0) hx hb dX11_global_11 (by decide) ?_
  refine lv_iconst (v := (-1)) hx hb dX11_global_12 (by decide) ?_
  refine lv_iconst (v := (-1)) hx hb dX11_global_13 (by decide) ?_
  refine lv_iconst (v := (-1)) hx hb dX11_global_14 (by decide) ?_
  refine z_calli [(a0, zO 9 9 g0), (a1, zO 7 6 g1), (a2, zI K 200 f2), (a3, zI K 200 f3), (a4, zI K 200 f4), (a5, zI K 200 f5), (a6, zI K 600 f6), (a7, zI K 200 f7), (a8, zI K 200 f8)] [] [8, 0, 1, 2, 3, 4, 5, 6, 7] [] hP hD hS hA rfl rfl (by decide) (by decide) (by decide +kernel) 0 0 rfl rfl (fun hPc hDc hF => z_runV (As := [.int 2, .int (nI j0), .int 0, .int 0, .int (-1), .int (-1), .int (-1)]) (rest := []) ⟨hx, hb, hml, hown, hg⟩ (cX11_tell_3 l K H.size a0 a1 a2 a3 a4 a5 a6 a7 a8 g0 g1 f2 f3 f4 f5 f6 f7 f8 j0 hj0 e0 e1 e2 e3 e4 e5 e6 e7 e8) kV_RX11_68 hd_X11_tell rfl rfl ⟨(Nat.le_of_ble_eq_true rfl), (Nat.le_of_ble_eq_true rfl)⟩ hK hS hZ hPc hDc hF 0 rfl rfl rfl hl.1 rfl (Nat.le_of_ble_eq_true rfl) dX11_global_15 ⟨(Nat.le_of_ble_eq_true rfl), (Nat.le_of_ble_eq_true rfl)⟩) (fun r6 u4 H locs w5 hP hD hS => ?_)
  subst w5
  have hP : va_P K.1 classes [(a0, zO 9 9 g0), (a1, zO 7 6 (va_up g1 5 (.int 1))), (a2, zI K 200 (va_up f2 0 2)), (a3, zI K 200 (va_up f3 0 (nI j0))), (a4, zI K 200 (va_up f4 0 0)), (a5, zI K 200 (va_up f5 0 0)), (a6, zI K 600 (va_up (va_up (va_up (va_up (va_up (va_up f6 0 (-1)) 1 (-1)) 2 (-1)) 0 (-1)) 1 (-1)) 2 (-1))), (a7, zI K 200 (va_up f7 0 1)), (a8, zI K 200 (va_up f8 0 0))] H := hP
  have hD : va_D A [(a0, zO 9 9 g0), (a1, zO 7 6 (va_up g1 5 (.int 1))), (a2, zI K 200 (va_up f2 0 2)), (a3, zI K 200 (va_up f3 0 (nI j0))), (a4, zI K 200 (va_up f4 0 0)), (a5, zI K 200 (va_up f5 0 0)), (a6, zI K 600 (va_up (va_up (va_up (va_up (va_up (va_up f6 0 (-1)) 1 (-1)) 2 (-1)) 0 (-1)) 1 (-1)) 2 (-1))), (a7, zI K 200 (va_up f7 0 1)), (a8, zI K 200 (va_up f8 0 0))] := hD
  obtain ⟨ff7, y8⟩ : ∃ z, z = ((va_up (va_up (va_up (va_up (va_up (va_up f6 0 (-1)) 1 (-1)) 2 (-1)) 0 (-1)) 1 (-1)) 2 (-1)) : Nat → Int32) := ⟨_, rfl⟩
  rw [← y8] at hP hD
  subst y8
  have hP9 : va_P K.1 classes [] H := hP.sub [] rfl
  have hD9 : va_D A [] := hD.sub [] (by decide) rfl
  exact z_iret hx hb hr (fun _ => 0) rfl hP9 hD9 hS (Nat.le_of_ble_eq_true rfl) (Nat.le_of_ble_eq_true rfl) hlocks dX11_global_18
set_option maxHeartbeats 4000000 in
set_option maxRecDepth 100000 in
theorem cL_global_2 (l : Launch) (hl9 : l.stackTraces = false) (K : zK) (sz : Nat) (a0 : Nat) (a1 : Nat) (a2 : Nat) (a3 : Nat) (a4 : Nat) (a5 : Nat) (a6 : Nat) (a7 : Nat) (a8 : Nat) (a9 : Nat) (g0 : Nat → Value) (g2 : Nat → Value) (f3 : Nat → Int32) (f4 : Nat → Int32) (f5 : Nat → Int32) (f6 : Nat → Int32) (f7 : Nat → Int32) (f8 : Nat → Int32) (f9 : Nat → Int32) (f1 : Nat → Int64) (j0 : Nat) (hj0 : j0 < 8) (e0 : g0 0 = (.ref a2)) (e1 : g2 0 = (.ref a3)) (e2 : g2 5 = (.int 0)) (e3 : g2 1 = (.ref a4)) (e4 : g2 2 = (.ref a5)) (e5 : g2 3 = (.ref a6)) (e6 : g2 4 = (.ref a7)) (e7 : g0 1 = (.ref a8)) (e8 : g0 2 = (.ref a9)) : vx_Met l yL_global (Cond.codeWith yL_global cL_global 4 (some .int) [(0, 9, 12, 18), (0, 9, 15, 13)] :: WG) { frames := 4, cells := 0, slots := 0, locals := 99 } (zPre K [(a0, zO 9 9 g0), (a2, zO 7 6 g2), (a3, zI K 200 f3), (a4, zI K 200 f4), (a5, zI K 200 f5), (a6, zI K 200 f6), (a7, zI K 600 f7), (a8, zI K 200 f8), (a9, zI K 200 f9), (a1, zJ K 1 f1)] sz [.ref a0, .int (nI j0), .ref a1]) (va_Qi (fun (r : Int32) (_ : Nat → Nat) => r = 0) (zB K (va_A [(a0, zO 9 9 g0), (a2, zO 7 6 g2), (a3, zI K 200 f3), (a4, zI K 200 f4), (a5, zI K 200 f5), (a6, zI K 200 f6), (a7, zI K 600 f7), (a8, zI K 200 f8), (a9, zI K 200 f9), (a1, zJ K 1 f1)] sz) (fun u : Nat → Nat => [(a1, zJ K 1 (va_up f1 0 0))])) (va_A [(a0, zO 9 9 g0), (a2, zO 7 6 g2), (a3, zI K 200 f3), (a4, zI K 200 f4), (a5, zI K 200 f5), (a6, zI K 200 f6), (a7, zI K 600 f7), (a8, zI K 200 f8), (a9, zI K 200 f9), (a1, zJ K 1 f1)] sz)) (vx_X (fun _ : Unit => False) (fun _ _ _ => True) (va_A [(a0, zO 9 9 g0), (a2, zO 7 6 g2), (a3, zI K 200 f3), (a4, zI K 200 f4), (a5, zI K 200 f5), (a6, zI K 200 f6), (a7, zI K 600 f7), (a8, zI K 200 f8), (a9, zI K 200 f9), (a1, zJ K 1 f1)] sz)) 0 0 (va_A [(a0, zO 9 9 g0), (a2, zO 7 6 g2), (a3, zI K 200 f3), (a4, zI K 200 f4), (a5, zI K 200 f5), (a6, zI K 200 f6), (a7, zI K 600 f7), (a8, zI K 200 f8), (a9, zI K 200 f9), (a1, zJ K 1 f1)] sz) := by
  refine z_hmet (Qc := fun A => (va_Qi (fun (r : Int32) (_ : Nat → Nat) => r = 0) (zB K A (fun u : Nat → Nat => [(a1, zJ K 1 (va_up f1 0 0))])) A)) (XC := fun A => vx_X (fun _ : Unit => False) (fun _ _ _ => True) A) (by decide +kernel) (Nat.le_of_ble_eq_true rfl) ?_
  intro p e s m args below meth c A ls H hx hb hr hg hown hlocks hml hTab hK hP hD hA hS hZ hl
  have hown : s.vm.findClass RL = some m.cls := hown
  have hl : lv_has ls 4 [(0, .ref a0), (1, .int (nI j0)), (2, .ref a1)] := hl
  refine lv_aload_n hx hb dL_global_0 rfl (lv_at hl 2 rfl) ?_
  refine lv_iconst (v := 0) hx hb dL_global_1 (by decide) ?_
  refine lv_aload_n hx hb dL_global_2 rfl (lv_at hl 0 rfl) ?_
  refine lv_iload_n hx hb dL_global_3 rfl (lv_at hl 1 rfl) ?_
  refine z_calli [(a0, zO 9 9 g0), (a2, zO 7 6 g2), (a3, zI K 200 f3), (a4, zI K 200 f4), (a5, zI K 200 f5), (a6, zI K 200 f6), (a7, zI K 600 f7), (a8, zI K 200 f8), (a9, zI K 200 f9)] [(a1, zJ K 1 f1)] [0, 1, 2, 3, 4, 5, 6, 7, 8] [9] hP hD hS hA rfl rfl (by decide) (by decide) (by decide +kernel) 0 0 rfl rfl (fun hPc hDc hF => z_runV (As := [.int (nI j0)]) (rest := [.int 0, .ref a1]) ⟨hx, hb, hml, hown, hg⟩ (cX11_global_2 l K H.size a0 a2 a3 a4 a5 a6 a7 a8 a9 g0 g2 f3 f4 f5 f6 f7 f8 f9 j0 hj0 e0 e1 e2 e3 e4 e5 e6 e7 e8) kV_RL_20 hd_X11_global rfl rfl ⟨(Nat.le_of_ble_eq_true rfl), (Nat.le_of_ble_eq_true rfl)⟩ hK hS hZ hPc hDc hF 0 rfl rfl rfl hl.1 rfl (Nat.le_of_ble_eq_true rfl) dL_global_4 ⟨(Nat.le_of_ble_eq_true rfl), (Nat.le_of_ble_eq_true rfl)⟩) (fun r3 u1 H locs w2 hP hD hS => ?_)
  subst w2
  have hP : va_P K.1 classes [(a1, zJ K 1 f1)] H := hP
  have hD : va_D A [(a1, zJ K 1 f1)] := hD
  refine lv_i2l hx hb dL_global_7 rfl ?_
  refine z_cstl (v := 0) (by decide +kernel) ?_
  refine z_last (j := 0) hx hb hK hP hD hS 0 rfl rfl (Nat.le_of_ble_eq_true rfl) (Nat.le_of_ble_eq_true rfl) dL_global_8 (fun ff4 H locs y5 hP hD hS => ?_)
  have hP : va_P K.1 classes [(a1, zJ K 1 ff4)] H := hP
  have hD : va_D A [(a1, zJ K 1 ff4)] := hD
  refine lv_goto (tgt := 18) hx hb dL_global_9 (by decide) ?_
  refine lv_iconst (v := 0) hx hb dL_global_18 (by decide) ?_
  subst y5
  have hP9 : va_P K.1 classes [(a1, zJ K 1 (va_up f1 0 0))] H := hP.sub [0] rfl
  have hD9 : va_D A [(a1, zJ K 1 (va_up f1 0 0))] := hD.sub [0] (by decide) rfl
  exact z_iret hx hb hr (fun _ => 0) rfl hP9 hD9 hS (Nat.le_of_ble_eq_true rfl) (Nat.le_of_ble_eq_true rfl) hlocks dL_global_19
set_option maxHeartbeats 4000000 in
set_option maxRecDepth 100000 in
theorem cX12_isIn_5 (l : Launch) (K : zK) (sz : Nat) (j0 : Nat) (hj0 : j0 < 8) : Met l yX12_isIn (Cond.code yX12_isIn cX12_isIn 3 (some .boolean) :: WG) { frames := 0, cells := 0, slots := 0, locals := 0 } (zPre K [] sz [.int (nI j0), .int 0, .int 7]) (va_Qi (fun (r : Int32) (_ : Nat → Nat) => r = 1) (zB K (va_A [] sz) (fun u : Nat → Nat => [])) (va_A [] sz)) 0 0 (va_A [] sz) := by
  refine z_met (Qc := fun A => (va_Qi (fun (r : Int32) (_ : Nat → Nat) => r = 1) (zB K A (fun u : Nat → Nat => [])) A)) (by decide +kernel) (Nat.le_of_ble_eq_true rfl) ?_
  intro p e s m args below meth c A ls H hx hb hr hg hown hlocks hml hin hK hP hD hA hS hZ hl
  have hown : s.vm.findClass RX12 = some m.cls := hown
  have hl : lv_has ls 3 [(0, .int (nI j0)), (1, .int 0), (2, .int 7)] := hl
  refine lv_iload_n hx hb dX12_isIn_0 rfl (lv_at hl 0 rfl) ?_
  refine lv_iload_n hx hb dX12_isIn_1 rfl (lv_at hl 1 rfl) ?_
  refine lv_icmp_lt (tgt := 14) hx hb dX12_isIn_2 (by decide) (fun c => absurd c ((by decide : ∀ j, j < 8 → ¬ ((nI j) < (0 : Int32))) j0 hj0)) (fun _ => ?_)
  refine lv_iload_n hx hb dX12_isIn_5 rfl (lv_at hl 0 rfl) ?_
  refine lv_iload_n hx hb dX12_isIn_6 rfl (lv_at hl 2 rfl) ?_
  refine lv_icmp_gt (tgt := 14) hx hb dX12_isIn_7 (by decide) (fun c => absurd c ((by decide : ∀ j, j < 8 → ¬ ((7 : Int32) < (nI j))) j0 hj0)) (fun _ => ?_)
  refine lv_iconst (v := 1) hx hb dX12_isIn_10 (by decide) ?_
  refine lv_goto (tgt := 15) hx hb dX12_isIn_11 (by decide) ?_
  have hP9 : va_P K.1 classes [] H := hP.sub [] rfl
  have hD9 : va_D A [] := hD.sub [] (by decide) rfl
  exact z_zret hx hb hr rfl (fun _ => 0) rfl hP9 hD9 hS (Nat.le_of_ble_eq_true rfl) (Nat.le_of_ble_eq_true rfl) hlocks dX12_isIn_15
set_option maxHeartbeats 4000000 in
set_option maxRecDepth 100000 in
theorem cX12_isGlobal_2 (l : Launch) (K : zK) (sz : Nat) (j0 : Nat) (hj0 : j0 < 8) : Met l yX12_isGlobal (Cond.code yX12_isGlobal cX12_isGlobal 1 (some .boolean) :: WG) { frames := 1, cells := 0, slots := 0, locals := 22 } (zPre K [] sz [.int (nI j0)]) (va_Qi (fun (r : Int32) (_ : Nat → Nat) => r = 1) (zB K (va_A [] sz) (fun u : Nat → Nat => [])) (va_A [] sz)) 0 0 (va_A [] sz) := by
  refine z_met (Qc := fun A => (va_Qi (fun (r : Int32) (_ : Nat → Nat) => r = 1) (zB K A (fun u : Nat → Nat => [])) A)) (by decide +kernel) (Nat.le_of_ble_eq_true rfl) ?_
  intro p e s m args below meth c A ls H hx hb hr hg hown hlocks hml hin hK hP hD hA hS hZ hl
  have hown : s.vm.findClass RX12 = some m.cls := hown
  have hl : lv_has ls 1 [(0, .int (nI j0))] := hl
  refine lv_iload_n hx hb dX12_isGlobal_0 rfl (lv_at hl 0 rfl) ?_
  refine lv_iconst (v := 0) hx hb dX12_isGlobal_1 (by decide) ?_
  refine lv_bipush (v := 7) hx hb dX12_isGlobal_2 (by decide) ?_
  refine z_calli [] [] [] [] hP hD hS hA rfl rfl (by decide) (by decide) (by decide +kernel) 0 0 rfl rfl (fun hPc hDc hF => z_runS (As := [.int (nI j0), .int 0, .int 7]) (rest := []) ⟨hx, hb, hml, hown, hg⟩ (cX12_isIn_5 l K H.size j0 hj0) kS_RX12_175 hd_X12_isIn rfl rfl ⟨(Nat.le_of_ble_eq_true rfl), (Nat.le_of_ble_eq_true rfl)⟩ hK hS hZ hPc hDc hF rfl hl.1 rfl (Nat.le_of_ble_eq_true rfl) dX12_isGlobal_4 ⟨(Nat.le_of_ble_eq_true rfl), (Nat.le_of_ble_eq_true rfl)⟩) (fun r3 u1 H locs w2 hP hD hS => ?_)
  subst w2
  have hP : va_P K.1 classes [] H := hP
  have hD : va_D A [] := hD
  have hP9 : va_P K.1 classes [] H := hP.sub [] rfl
  have hD9 : va_D A [] := hD.sub [] (by decide) rfl
  exact z_zret hx hb hr rfl (fun _ => 0) rfl hP9 hD9 hS (Nat.le_of_ble_eq_true rfl) (Nat.le_of_ble_eq_true rfl) hlocks dX12_isGlobal_7
set_option maxHeartbeats 4000000 in
set_option maxRecDepth 100000 in
theorem cX12_tells_3 (l : Launch) (K : zK) (sz : Nat) (a0 : Nat) (a1 : Nat) (a2 : Nat) (a3 : Nat) (a4 : Nat) (a5 : Nat) (a6 : Nat) (a7 : Nat) (g0 : Nat → Value) (f1 : Nat → Int32) (f2 : Nat → Int32) (f3 : Nat → Int32) (f4 : Nat → Int32) (f5 : Nat → Int32) (f6 : Nat → Int32) (f7 : Nat → Int32) (j0 : Nat) (hj0 : j0 < 8) (e0 : g0 1 = (.ref a1)) (e1 : g0 0 = (.int 0)) (e2 : g0 2 = (.ref a2)) (e3 : g0 3 = (.ref a3)) (e4 : g0 4 = (.ref a4)) (e5 : g0 6 = (.ref a5)) (e6 : g0 5 = (.ref a6)) (e7 : g0 7 = (.ref a7)) : Met l yX12_tells (Cond.code yX12_tells cX12_tells 11 (some .int) :: WG) { frames := 0, cells := 0, slots := 0, locals := 0 } (zPre K [(a0, zO 10 83 g0), (a1, zI K 200 f1), (a2, zI K 200 f2), (a3, zI K 200 f3), (a4, zI K 200 f4), (a5, zI K 600 f5), (a6, zI K 200 f6), (a7, zI K 200 f7)] sz [.ref a0, .int 2, .int (nI j0), .int 0, .int (-1), .int (-1), .int (-1)]) (va_Qi (fun (r : Int32) (_ : Nat → Nat) => r = 0) (zB K (va_A [(a0, zO 10 83 g0), (a1, zI K 200 f1), (a2, zI K 200 f2), (a3, zI K 200 f3), (a4, zI K 200 f4), (a5, zI K 600 f5), (a6, zI K 200 f6), (a7, zI K 200 f7)] sz) (fun u : Nat → Nat => [(a0, zO 10 83 (va_up g0 0 (.int 1))), (a1, zI K 200 (va_up f1 0 2)), (a2, zI K 200 (va_up f2 0 (nI j0))), (a3, zI K 200 (va_up f3 0 0)), (a4, zI K 200 (va_up f4 0 0)), (a5, zI K 600 (va_up (va_up (va_up f5 0 (-1)) 1 (-1)) 2 (-1))), (a6, zI K 200 (va_up f6 0 0)), (a7, zI K 200 (va_up f7 0 1))])) (va_A [(a0, zO 10 83 g0), (a1, zI K 200 f1), (a2, zI K 200 f2), (a3, zI K 200 f3), (a4, zI K 200 f4), (a5, zI K 600 f5), (a6, zI K 200 f6), (a7, zI K 200 f7)] sz)) 0 0 (va_A [(a0, zO 10 83 g0), (a1, zI K 200 f1), (a2, zI K 200 f2), (a3, zI K 200 f3), (a4, zI K 200 f4), (a5, zI K 600 f5), (a6, zI K 200 f6), (a7, zI K 200 f7)] sz) := by
  refine z_met (Qc := fun A => (va_Qi (fun (r : Int32) (_ : Nat → Nat) => r = 0) (zB K A (fun u : Nat → Nat => [(a0, zO 10 83 (va_up g0 0 (.int 1))), (a1, zI K 200 (va_up f1 0 2)), (a2, zI K 200 (va_up f2 0 (nI j0))), (a3, zI K 200 (va_up f3 0 0)), (a4, zI K 200 (va_up f4 0 0)), (a5, zI K 600 (va_up (va_up (va_up f5 0 (-1)) 1 (-1)) 2 (-1))), (a6, zI K 200 (va_up f6 0 0)), (a7, zI K 200 (va_up f7 0 1))])) A)) (by decide +kernel) (Nat.le_of_ble_eq_true rfl) ?_
  intro p e s m args below meth c A ls H hx hb hr hg hown hlocks hml hin hK hP hD hA hS hZ hl
  have hown : s.vm.findClass RX12 = some m.cls := hown
  have hl : lv_has ls 11 [(0, .ref a0), (1, .int 2), (2, .int (nI j0)), (3, .int 0), (4, .int (-1)), (5, .int (-1)), (6, .int (-1))] := hl
  refine lv_aload_n hx hb dX12_tells_0 rfl (lv_at hl 0 rfl) ?_
  refine z_get (v := .ref a1) hx hb hg hown hK hP i_X12 rfl 0 rfl 1 (by decide) mt1281 e0 dX12_tells_1 ?_
  refine lv_aload_n hx hb dX12_tells_4 rfl (lv_at hl 0 rfl) ?_
  refine z_get (v := .int 0) hx hb hg hown hK hP i_X12 rfl 0 rfl 0 (by decide) mt1280 e1 dX12_tells_5 ?_
  refine lv_iload_n hx hb dX12_tells_8 rfl (lv_at hl 1 rfl) ?_
  refine z_iast (j := 0) hx hb hK hP hD hS 1 rfl rfl (Nat.le_of_ble_eq_true rfl) (Nat.le_of_ble_eq_true rfl) dX12_tells_9 (fun ff1 H locs y2 hP hD hS => ?_)
  have hP : va_P K.1 classes [(a0, zO 10 83 g0), (a1, zI K 200 ff1), (a2, zI K 200 f2), (a3, zI K 200 f3), (a4, zI K 200 f4), (a5, zI K 600 f5), (a6, zI K 200 f6), (a7, zI K 200 f7)] H := hP
  have hD : va_D A [(a0, zO 10 83 g0), (a1, zI K 200 ff1), (a2, zI K 200 f2), (a3, zI K 200 f3), (a4, zI K 200 f4), (a5, zI K 600 f5), (a6, zI K 200 f6), (a7, zI K 200 f7)] := hD
  refine lv_aload_n hx hb dX12_tells_10 rfl (lv_at hl 0 rfl) ?_
  refine z_get (v := .ref a2) hx hb hg hown hK hP i_X12 rfl 0 rfl 2 (by decide) mt1282 e2 dX12_tells_11 ?_
  refine lv_aload_n hx hb dX12_tells_14 rfl (lv_at hl 0 rfl) ?_
  refine z_get (v := .int 0) hx hb hg hown hK hP i_X12 rfl 0 rfl 0 (by decide) mt1280 e1 dX12_tells_15 ?_
  refine lv_iload_n hx hb dX12_tells_18 rfl (lv_at hl 2 rfl) ?_
  refine z_iast (j := 0) hx hb hK hP hD hS 2 rfl rfl (Nat.le_of_ble_eq_true rfl) (Nat.le_of_ble_eq_true rfl) dX12_tells_19 (fun ff3 H locs y4 hP hD hS => ?_)
  have hP : va_P K.1 classes [(a0, zO 10 83 g0), (a1, zI K 200 ff1), (a2, zI K 200 ff3), (a3, zI K 200 f3), (a4, zI K 200 f4), (a5, zI K 600 f5), (a6, zI K 200 f6), (a7, zI K 200 f7)] H := hP
  have hD : va_D A [(a0, zO 10 83 g0), (a1, zI K 200 ff1), (a2, zI K 200 ff3), (a3, zI K 200 f3), (a4, zI K 200 f4), (a5, zI K 600 f5), (a6, zI K 200 f6), (a7, zI K 200 f7)] := hD
  refine lv_aload_n hx hb dX12_tells_20 rfl (lv_at hl 0 rfl) ?_
  refine z_get (v := .ref a3) hx hb hg hown hK hP i_X12 rfl 0 rfl 3 (by decide) mt1283 e3 dX12_tells_21 ?_
  refine lv_aload_n hx hb dX12_tells_24 rfl (lv_at hl 0 rfl) ?_
  refine z_get (v := .int 0) hx hb hg hown hK hP i_X12 rfl 0 rfl 0 (by decide) mt1280 e1 dX12_tells_25 ?_
  refine lv_iload_n hx hb dX12_tells_28 rfl (lv_at hl 3 rfl) ?_
  refine z_iast (j := 0) hx hb hK hP hD hS 3 rfl rfl (Nat.le_of_ble_eq_true rfl) (Nat.le_of_ble_eq_true rfl) dX12_tells_29 (fun ff5 H locs y6 hP hD hS => ?_)
  have hP : va_P K.1 classes [(a0, zO 10 83 g0), (a1, zI K 200 ff1), (a2, zI K 200 ff3), (a3, zI K 200 ff5), (a4, zI K 200 f4), (a5, zI K 600 f5), (a6, zI K 200 f6), (a7, zI K 200 f7)] H := hP
  have hD : va_D A [(a0, zO 10 83 g0), (a1, zI K 200 ff1), (a2, zI K 200 ff3), (a3, zI K 200 ff5), (a4, zI K 200 f4), (a5, zI K 600 f5), (a6, zI K 200 f6), (a7, zI K 200 f7)] := hD
  refine lv_aload_n hx hb dX12_tells_30 rfl (lv_at hl 0 rfl) ?_
  refine z_get (v := .ref a4) hx hb hg hown hK hP i_X12 rfl 0 rfl 4 (by decide) mt1284 e4 dX12_tells_31 ?_
  refine lv_aload_n hx hb dX12_tells_34 rfl (lv_at hl 0 rfl) ?_
  refine z_get (v := .int 0) hx hb hg hown hK hP i_X12 rfl 0 rfl 0 (by decide) mt1280 e1 dX12_tells_35 ?_
  refine lv_iconst (v := 0) hx hb dX12_tells_38 (by decide) ?_
  refine z_iast (j := 0) hx hb hK hP hD hS 4 rfl rfl (Nat.le_of_ble_eq_true rfl) (Nat.le_of_ble_eq_true rfl) dX12_tells_39 (fun ff7 H locs y8 hP hD hS => ?_)
  have hP : va_P K.1 classes [(a0, zO 10 83 g0), (a1, zI K 200 ff1), (a2, zI K 200 ff3), (a3, zI K 200 ff5), (a4, zI K 200 ff7), (a5, zI K 600 f5), (a6, zI K 200 f6), (a7, zI K 200 f7)] H := hP
  have hD : va_D A [(a0, zO 10 83 g0), (a1, zI K 200 ff1), (a2, zI K 200 ff3), (a3, zI K 200 ff5), (a4, zI K 200 ff7), (a5, zI K 600 f5), (a6, zI K 200 f6), (a7, zI K 200 f7)] := hD
  refine lv_aload_n hx hb dX12_tells_40 rfl (lv_at hl 0 rfl) ?_
  refine z_get (v := .ref a5) hx hb hg hown hK hP i_X12 rfl 0 rfl 6 (by decide) mt1286 e5 dX12_tells_41 ?_
  refine lv_iconst (v := 3) hx hb dX12_tells_44 (by decide) ?_
  refine lv_aload_n hx hb dX12_tells_45 rfl (lv_at hl 0 rfl) ?_
  refine z_get (v := .int 0) hx hb hg hown hK hP i_X12 rfl 0 rfl 0 (by decide) mt1280 e1 dX12_tells_46 ?_
  refine lv_imul hx hb dX12_tells_49 ?_
  refine z_cst (v := 0) (by decide +kernel) ?_
  refine lv_iload hx hb dX12_tells_50 (lv_at hl 4 rfl) ?_
  refine z_iast (j := 0) hx hb hK hP hD hS 5 rfl rfl (Nat.le_of_ble_eq_true rfl) (Nat.le_of_ble_eq_true rfl) dX12_tells_52 (fun ff9 H locs y10 hP hD hS => ?_)
  have hP : va_P K.1 classes [(a0, zO 10 83 g0), (a1, zI K 200 ff1), (a2, zI K 200 ff3), (a3, zI K 200 ff5), (a4, zI K 200 ff7), (a5, zI K 600 ff9), (a6, zI K 200 f6), (a7, zI K 200 f7)] H := hP
  have hD : va_D A [(a0, zO 10 83 g0), (a1, zI K 200 ff1), (a2, zI K 200 ff3), (a3, zI K 200 ff5), (a4, zI K 200 ff7), (a5, zI K 600 ff9), (a6, zI K 200 f6), (a7, zI K 200 f7)] := hD
  refine lv_aload_n hx hb dX12_tells_53 rfl (lv_at hl 0 rfl) ?_
  refine z_get (v := .ref a5) hx hb hg hown hK hP i_X12 rfl 0 rfl 6 (by decide) mt1286 e5 dX12_tells_54 ?_
  refine lv_iconst (v := 3) hx hb dX12_tells_57 (by decide) ?_
  refine lv_aload_n hx hb dX12_tells_58 rfl (lv_at hl 0 rfl) ?_
  refine z_get (v := .int 0) hx hb hg hown hK hP i_X12 rfl 0 rfl 0 (by decide) mt1280 e1 dX12_tells_59 ?_
  refine lv_imul hx hb dX12_tells_62 ?_
  refine z_cst (v := 0) (by decide +kernel) ?_
  refine lv_iconst (v := 1) hx hb dX12_tells_63 (by decide) ?_
  refine lv_iadd hx hb dX12_tells_64 ?_
  refine z_cst (v := 1) (by decide +kernel) ?_
  refine lv_iload hx hb dX12_tells_65 (lv_at hl 5 rfl) ?_
  refine z_iast (j := 1) hx hb hK hP hD hS 5 rfl rfl (Nat.le_of_ble_eq_true rfl) (Nat.le_of_ble_eq_true rfl) dX12_tells_67 (fun ff11 H locs y12 hP hD hS => ?_)
  have hP : va_P K.1 classes [(a0, zO 10 83 g0), (a1, zI K 200 ff1), (a2, zI K 200 ff3), (a3, zI K 200 ff5), (a4, zI K 200 ff7), (a5, zI K 600 ff11), (a6, zI K 200 f6), (a7, zI K 200 f7)] H := hP
  have hD : va_D A [(a0, zO 10 83 g0), (a1, zI K 200 ff1), (a2, zI K 200 ff3), (a3, zI K 200 ff5), (a4, zI K 200 ff7), (a5, zI K 600 ff11), (a6, zI K 200 f6), (a7, zI K 200 f7)] := hD
  refine lv_aload_n hx hb dX12_tells_68 rfl (lv_at hl 0 rfl) ?_
  refine z_get (v := .ref a5) hx hb hg hown hK hP i_X12 rfl 0 rfl 6 (by decide) mt1286 e5 dX12_tells_69 ?_
  refine lv_iconst (v := 3) hx hb dX12_tells_72 (by decide) ?_
  refine lv_aload_n hx hb dX12_tells_73 rfl (lv_at hl 0 rfl) ?_
  refine z_get (v := .int 0) hx hb hg hown hK hP i_X12 rfl 0 rfl 0 (by decide) mt1280 e1 dX12_tells_74 ?_
  refine lv_imul hx hb dX12_tells_77 ?_
  refine z_cst (v := 0) (by decide +kernel) ?_
  refine lv_iconst (v := 2) hx hb dX12_tells_78 (by decide) ?_
  refine lv_iadd hx hb dX12_tells_79 ?_
  refine z_cst (v := 2) (by decide +kernel) ?_
  refine lv_iload hx hb dX12_tells_80 (lv_at hl 6 rfl) ?_
  refine z_iast (j := 2) hx hb hK hP hD hS 5 rfl rfl (Nat.le_of_ble_eq_true rfl) (Nat.le_of_ble_eq_true rfl) dX12_tells_82 (fun ff13 H locs y14 hP hD hS => ?_)
  have hP : va_P K.1 classes [(a0, zO 10 83 g0), (a1, zI K 200 ff1), (a2, zI K 200 ff3), (a3, zI K 200 ff5), (a4, zI K 200 ff7), (a5, zI K 600 ff13), (a6, zI K 200 f6), (a7, zI K 200 f7)] H := hP
  have hD : va_D A [(a0, zO 10 83 g0), (a1, zI K 200 ff1), (a2, zI K 200 ff3), (a3, zI K 200 ff5), (a4, zI K 200 ff7), (a5, zI K 600 ff13), (a6, zI K 200 f6), (a7, zI K 200 f7)] := hD
  refine lv_iconst (v := 1) hx hb dX12_tells_83 (by decide) ?_
  refine lv_istore (lv' := [(7, .int 1), (0, .ref a0), (1, .int 2), (2, .int (nI j0)), (3, .int 0), (4, .int (-1)), (5, .int (-1)), (6, .int (-1))]) hx hb dX12_tells_84 hl (by decide) rfl (fun ls hl => ?_)
  refine lv_iconst (v := 0) hx hb dX12_tells_86 (by decide) ?_
  refine lv_istore (lv' := [(8, .int 0), (7, .int 1), (0, .ref a0), (1, .int 2), (2, .int (nI j0)), (3, .int 0), (4, .int (-1)), (5, .int (-1)), (6, .int (-1))]) hx hb dX12_tells_87 hl (by decide) rfl (fun ls hl => ?_)
  refine lv_iconst (v := 0) hx hb dX12_tells_89 (by decide) ?_
  refine lv_istore (lv' := [(9, .int 0), (8, .int 0), (7, .int 1), (0, .ref a0), (1, .int 2), (2, .int (nI j0)), (3, .int 0), (4, .int (-1)), (5, .int (-1)), (6, .int (-1))]) hx hb dX12_tells_90 hl (by decide) rfl (fun ls hl => ?_)
  refine lv_iload hx hb dX12_tells_92 (lv_at hl 0 rfl) ?_
  refine lv_iconst (v := 3) hx hb dX12_tells_94 (by decide) ?_
  refine lv_icmp_ge (tgt := 158) hx hb dX12_tells_95 (by decide) (fun c => absurd c (by decide)) (fun _ => ?_)
  refine lv_aload_n hx hb dX12_tells_98 rfl (lv_at hl 3 rfl) ?_
  refine z_get (v := .ref a5) hx hb hg hown hK hP i_X12 rfl 0 rfl 6 (by decide) mt1286 e5 dX12_tells_99 ?_
  refine lv_iconst (v := 3) hx hb dX12_tells_102 (by decide) ?_
  refine lv_aload_n hx hb dX12_tells_103 rfl (lv_at hl 3 rfl) ?_
  refine z_get (v := .int 0) hx hb hg hown hK hP i_X12 rfl 0 rfl 0 (by decide) mt1280 e1 dX12_tells_104 ?_
  refine lv_imul hx hb dX12_tells_107 ?_
  refine z_cst (v := 0) (by decide +kernel) ?_
  refine lv_iload hx hb dX12_tells_108 (lv_at hl 0 rfl) ?_
  refine lv_iadd hx hb dX12_tells_110 ?_
  refine z_cst (v := 0) (by decide +kernel) ?_
  refine z_iald (v := (-1)) (j := 0) hx hb hK hP 5 rfl rfl (Nat.le_of_ble_eq_true rfl) (Nat.le_of_ble_eq_true rfl) (zu_of y14 (zu_ne (by decide) (zu_of y12 (zu_ne (by decide) (zu_of y10 zu_eq))))) dX12_tells_111 ?_
  refine lv_istore (lv' := [(10, .int (-1)), (9, .int 0), (8, .int 0), (7, .int 1), (0, .ref a0), (1, .int 2), (2, .int (nI j0)), (3, .int 0), (4, .int (-1)), (5, .int (-1)), (6, .int (-1))]) hx hb dX12_tells_112 hl (by decide) rfl (fun ls hl => ?_)
  refine lv_iload hx hb dX12_tells_114 (lv_at hl 2 rfl) ?_
  refine lv_iload hx hb dX12_tells_116 (lv_at hl 0 rfl) ?_
  refine lv_iconst (v := (-1)) hx hb dX12_tells_118 (by decide) ?_
  refine lv_icmp_ne (tgt := 126) hx hb dX12_tells_119 (by decide) (fun c => absurd (by decide) c) (fun _ => ?_)
  refine lv_iconst (v := 0) hx hb dX12_tells_122 (by decide) ?_
  refine lv_goto (tgt := 127) hx hb dX12_tells_123 (by decide) ?_
  refine lv_iadd hx hb dX12_tells_127 ?_
  refine z_cst (v := 0) (by decide +kernel) ?_
  refine lv_istore (lv' := [(8, .int 0), (10, .int (-1)), (9, .int 0), (7, .int 1), (0, .ref a0), (1, .int 2), (2, .int (nI j0)), (3, .int 0), (4, .int (-1)), (5, .int (-1)), (6, .int (-1))]) hx hb dX12_tells_128 hl (by decide) rfl (fun ls hl => ?_)
  refine lv_iload hx hb dX12_tells_130 (lv_at hl 3 rfl) ?_
  refine lv_iload hx hb dX12_tells_132 (lv_at hl 1 rfl) ?_
  refine lv_iconst (v := (-1)) hx hb dX12_tells_134 (by decide) ?_
  refine lv_icmp_ne (tgt := 142) hx hb dX12_tells_135 (by decide) (fun c => absurd (by decide) c) (fun _ => ?_)
  refine lv_iconst (v := 0) hx hb dX12_tells_138 (by decide) ?_
  refine lv_goto (tgt := 149) hx hb dX12_tells_139 (by decide) ?_
  refine lv_iadd hx hb dX12_tells_149 ?_
  refine z_cst (v := 1) (by decide +kernel) ?_
  refine lv_istore (lv' := [(7, .int 1), (8, .int 0), (10, .int (-1)), (9, .int 0), (0, .ref a0), (1, .int 2), (2, .int (nI j0)), (3, .int 0), (4, .int (-1)), (5, .int (-1)), (6, .int (-1))]) hx hb dX12_tells_150 hl (by decide) rfl (fun ls hl => ?_)
  refine lv_iinc (v := 1) (lv' := [(9, .int 1), (7, .int 1), (8, .int 0), (10, .int (-1)), (0, .ref a0), (1, .int 2), (2, .int (nI j0)), (3, .int 0), (4, .int (-1)), (5, .int (-1)), (6, .int (-1))]) hx hb dX12_tells_152 hl (k := 3) rfl (by decide +kernel) (by decide) rfl (fun ls hl => ?_)
  refine lv_goto (tgt := 92) hx hb dX12_tells_155 (by decide) ?_
  refine lv_iload hx hb dX12_tells_92 (lv_at hl 0 rfl) ?_
  refine lv_iconst (v := 3) hx hb dX12_tells_94 (by decide) ?_
  refine lv_icmp_ge (tgt := 158) hx hb dX12_tells_95 (by decide) (fun c => absurd c (by decide)) (fun _ => ?_)
  refine lv_aload_n hx hb dX12_tells_98 rfl (lv_at hl 4 rfl) ?_
  refine z_get (v := .ref a5) hx hb hg hown hK hP i_X12 rfl 0 rfl 6 (by decide) mt1286 e5 dX12_tells_99 ?_
  refine lv_iconst (v := 3) hx hb dX12_tells_102 (by decide) ?_
  refine lv_aload_n hx hb dX12_tells_103 rfl (lv_at hl 4 rfl) ?_
  refine z_get (v := .int 0) hx hb hg hown hK hP i_X12 rfl 0 rfl 0 (by decide) mt1280 e1 dX12_tells_104 ?_
  refine lv_imul hx hb dX12_tells_107 ?_
  refine z_cst (v := 0) (by decide +kernel) ?_
  refine lv_iload hx hb dX12_tells_108 (lv_at hl 0 rfl) ?_
  refine lv_iadd hx hb dX12_tells_110 ?_
  refine z_cst (v := 1) (by decide +kernel) ?_
  refine z_iald (v := (-1)) (j := 1) hx hb hK hP 5 rfl rfl (Nat.le_of_ble_eq_true rfl) (Nat.le_of_ble_eq_true rfl) (zu_of y14 (zu_ne (by decide) (zu_of y12 zu_eq))) dX12_tells_111 ?_
  refine lv_istore (lv' := [(10, .int (-1)), (9, .int 1), (7, .int 1), (8, .int 0), (0, .ref a0), (1, .int 2), (2, .int (nI j0)), (3, .int 0), (4, .int (-1)), (5, .int (-1)), (6, .int (-1))]) hx hb dX12_tells_112 hl (by decide) rfl (fun ls hl => ?_)
  refine lv_iload hx hb dX12_tells_114 (lv_at hl 3 rfl) ?_
  refine lv_iload hx hb dX12_tells_116 (lv_at hl 0 rfl) ?_
  refine lv_iconst (v := (-1)) hx hb dX12_tells_118 (by decide) ?_
  refine lv_icmp_ne (tgt := 126) hx hb dX12_tells_119 (by decide) (fun c => absurd (by decide) c) (fun _ => ?_)
  refine lv_iconst (v := 0) hx hb dX12_tells_122 (by decide) ?_
  refine lv_goto (tgt := 127) hx hb dX12_tells_123 (by decide) ?_
  refine lv_iadd hx hb dX12_tells_127 ?_
  refine z_cst (v := 0) (by decide +kernel) ?_
  refine lv_istore (lv' := [(8, .int 0), (10, .int (-1)), (9, .int 1), (7, .int 1), (0, .ref a0), (1, .int 2), (2, .int (nI j0)), (3, .int 0), (4, .int (-1)), (5, .int (-1)), (6, .int (-1))]) hx hb dX12_tells_128 hl (by decide) rfl (fun ls hl => ?_)
  refine lv_iload hx hb dX12_tells_130 (lv_at hl 3 rfl) ?_
  refine lv_iload hx hb dX12_tells_132 (lv_at hl 1 rfl) ?_
  refine lv_iconst (v := (-1)) hx hb dX12_tells_134 (by decide) ?_
  refine lv_icmp_ne (tgt := 142) hx hb dX12_tells_135 (by decide) (fun c => absurd (by decide) c) (fun _ => ?_)
  refine lv_iconst (v := 0) hx hb dX12_tells_138 (by decide) ?_
  refine lv_goto (tgt := 149) hx hb dX12_tells_139 (by decide) ?_
  refine lv_iadd hx hb dX12_tells_149 ?_
  refine z_cst (v := 1) (by decide +kernel) ?_
  refine lv_istore (lv' := [(7, .int 1), (8, .int 0), (10, .int (-1)), (9, .int 1), (0, .ref a0), (1, .int 2), (2, .int (nI j0)), (3, .int 0), (4, .int (-1)), (5, .int (-1)), (6, .int (-1))]) hx hb dX12_tells_150 hl (by decide) rfl (fun ls hl => ?_)
  refine lv_iinc (v := 2) (lv' := [(9, .int 2), (7, .int 1), (8, .int 0), (10, .int (-1)), (0, .ref a0), (1, .int 2), (2, .int (nI j0)), (3, .int 0), (4, .int (-1)), (5, .int (-1)), (6, .int (-1))]) hx hb dX12_tells_152 hl (k := 3) rfl (by decide +kernel) (by decide) rfl (fun ls hl => ?_)
  refine lv_goto (tgt := 92) hx hb dX12_tells_155 (by decide) ?_
  refine lv_iload hx hb dX12_tells_92 (lv_at hl 0 rfl) ?_
  refine lv_iconst (v := 3) hx hb dX12_tells_94 (by decide) ?_
  refine lv_icmp_ge (tgt := 158) hx hb dX12_tells_95 (by decide) (fun c => absurd c (by decide)) (fun _ => ?_)
  refine lv_aload_n hx hb dX12_tells_98 rfl (lv_at hl 4 rfl) ?_
  refine z_get (v := .ref a5) hx hb hg hown hK hP i_X12 rfl 0 rfl 6 (by decide) mt1286 e5 dX12_tells_99 ?_
  refine lv_iconst (v := 3) hx hb dX12_tells_102 (by decide) ?_
  refine lv_aload_n hx hb dX12_tells_103 rfl (lv_at hl 4 rfl) ?_
  refine z_get (v := .int 0) hx hb hg hown hK hP i_X12 rfl 0 rfl 0 (by decide) mt1280 e1 dX12_tells_104 ?_
  refine lv_imul hx hb dX12_tells_107 ?_
  refine z_cst (v := 0) (by decide +kernel) ?_
  refine lv_iload hx hb dX12_tells_108 (lv_at hl 0 rfl) ?_
  refine lv_iadd hx hb dX12_tells_110 ?_
  refine z_cst (v := 2) (by decide +kernel) ?_
  refine z_iald (v := (-1)) (j := 2) hx hb hK hP 5 rfl rfl (Nat.le_of_ble_eq_true rfl) (Nat.le_of_ble_eq_true rfl) (zu_of y14 zu_eq) dX12_tells_111 ?_
  refine lv_istore (lv' := [(10, .int (-1)), (9, .int 2), (7, .int 1), (8, .int 0), (0, .ref a0), (1, .int 2), (2, .int (nI j0)), (3, .int 0), (4, .int (-1)), (5, .int (-1)), (6, .int (-1))]) hx hb dX12_tells_112 hl (by decide) rfl (fun ls hl => ?_)
  refine lv_iload hx hb dX12_tells_114 (lv_at hl 3 rfl) ?_
  refine lv_iload hx hb dX12_tells_116 (lv_at hl 0 rfl) ?_
  refine lv_iconst (v := (-1)) hx hb dX12_tells_118 (by decide) ?_
  refine lv_icmp_ne (tgt := 126) hx hb dX12_tells_119 (by decide) (fun c => absurd (by decide) c) (fun _ => ?_)
  refine lv_iconst (v := 0) hx hb dX12_tells_122 (by decide) ?_
  refine lv_goto (tgt := 127) hx hb dX12_tells_123 (by decide) ?_
  refine lv_iadd hx hb dX12_tells_127 ?_
  refine z_cst (v := 0) (by decide +kernel) ?_
  refine lv_istore (lv' := [(8, .int 0), (10, .int (-1)), (9, .int 2), (7, .int 1), (0, .ref a0), (1, .int 2), (2, .int (nI j0)), (3, .int 0), (4, .int (-1)), (5, .int (-1)), (6, .int (-1))]) hx hb dX12_tells_128 hl (by decide) rfl (fun ls hl => ?_)
  refine lv_iload hx hb dX12_tells_130 (lv_at hl 3 rfl) ?_
  refine lv_iload hx hb dX12_tells_132 (lv_at hl 1 rfl) ?_
  refine lv_iconst (v := (-1)) hx hb dX12_tells_134 (by decide) ?_
  refine lv_icmp_ne (tgt := 142) hx hb dX12_tells_135 (by decide) (fun c => absurd (by decide) c) (fun _ => ?_)
  refine lv_iconst (v := 0) hx hb dX12_tells_138 (by decide) ?_
  refine lv_goto (tgt := 149) hx hb dX12_tells_139 (by decide) ?_
  refine lv_iadd hx hb dX12_tells_149 ?_
  refine z_cst (v := 1) (by decide +kernel) ?_
  refine lv_istore (lv' := [(7, .int 1), (8, .int 0), (10, .int (-1)), (9, .int 2), (0, .ref a0), (1, .int 2), (2, .int (nI j0)), (3, .int 0), (4, .int (-1)), (5, .int (-1)), (6, .int (-1))]) hx hb dX12_tells_150 hl (by decide) rfl (fun ls hl => ?_)
  refine lv_iinc (v := 3) (lv' := [(9, .int 3), (7, .int 1), (8, .int 0), (10, .int (-1)), (0, .ref a0), (1, .int 2), (2, .int (nI j0)), (3, .int 0), (4, .int (-1)), (5, .int (-1)), (6, .int (-1))]) hx hb dX12_tells_152 hl (k := 3) rfl (by decide +kernel) (by decide) rfl (fun ls hl => ?_)
  refine lv_goto (tgt := 92) hx hb dX12_tells_155 (by decide) ?_
  refine lv_iload hx hb dX12_tells_92 (lv_at hl 0 rfl) ?_
  refine lv_iconst (v := 3) hx hb dX12_tells_94 (by decide) ?_
  refine lv_icmp_ge (tgt := 158) hx hb dX12_tells_95 (by decide) (fun _ => ?_) (fun c => absurd (by decide) c)
  refine lv_aload_n hx hb dX12_tells_158 rfl (lv_at hl 4 rfl) ?_
  refine z_get (v := .ref a6) hx hb hg hown hK hP i_X12 rfl 0 rfl 5 (by decide) mt1285 e6 dX12_tells_159 ?_
  refine lv_aload_n hx hb dX12_tells_162 rfl (lv_at hl 4 rfl) ?_
  refine z_get (v := .int 0) hx hb hg hown hK hP i_X12 rfl 0 rfl 0 (by decide) mt1280 e1 dX12_tells_163 ?_
  refine lv_iload hx hb dX12_tells_166 (lv_at hl 2 rfl) ?_
  refine z_iast (j := 0) hx hb hK hP hD hS 6 rfl rfl (Nat.le_of_ble_eq_true rfl) (Nat.le_of_ble_eq_true rfl) dX12_tells_168 (fun ff15 H locs y16 hP hD hS => ?_)
  have hP : va_P K.1 classes [(a0, zO 10 83 g0), (a1, zI K 200 ff1), (a2, zI K 200 ff3), (a3, zI K 200 ff5), (a4, zI K 200 ff7), (a5, zI K 600 ff13), (a6, zI K 200 ff15), (a7, zI K 200 f7)] H := hP
  have hD : va_D A [(a0, zO 10 83 g0), (a1, zI K 200 ff1), (a2, zI K 200 ff3), (a3, zI K 200 ff5), (a4, zI K 200 ff7), (a5, zI K 600 ff13), (a6, zI K 200 ff15), (a7, zI K 200 f7)] := hD
  refine lv_aload_n hx hb dX12_tells_169 rfl (lv_at hl 4 rfl) ?_
  refine z_get (v := .ref a7) hx hb hg hown hK hP i_X12 rfl 0 rfl 7 (by decide) mt1287 e7 dX12_tells_170 ?_
  refine lv_aload_n hx hb dX12_tells_173 rfl (lv_at hl 4 rfl) ?_
  refine z_get (v := .int 0) hx hb hg hown hK hP i_X12 rfl 0 rfl 0 (by decide) mt1280 e1 dX12_tells_174 ?_
  refine lv_iload hx hb dX12_tells_177 (lv_at hl 1 rfl) ?_
  refine lv_sipush (v := 1000) hx hb dX12_tells_179 (by decide) ?_
  refine lv_icmp_le (tgt := 191) hx hb dX12_tells_182 (by decide) (fun _ => ?_) (fun c => absurd (by decide) c)
  refine lv_iload hx hb dX12_tells_191 (lv_at hl 1 rfl) ?_
  refine z_iast (j := 0) hx hb hK hP hD hS 7 rfl rfl (Nat.le_of_ble_eq_true rfl) (Nat.le_of_ble_eq_true rfl) dX12_tells_193 (fun ff17 H locs y18 hP hD hS => ?_)
  have hP : va_P K.1 classes [(a0, zO 10 83 g0), (a1, zI K 200 ff1), (a2, zI K 200 ff3), (a3, zI K 200 ff5), (a4, zI K 200 ff7), (a5, zI K 600 ff13), (a6, zI K 200 ff15), (a7, zI K 200 ff17)] H := hP
  have hD : va_D A [(a0, zO 10 83 g0), (a1, zI K 200 ff1), (a2, zI K 200 ff3), (a3, zI K 200 ff5), (a4, zI K 200 ff7), (a5, zI K 600 ff13), (a6, zI K 200 ff15), (a7, zI K 200 ff17)] := hD
  refine lv_aload_n hx hb dX12_tells_194 rfl (lv_at hl 4 rfl) ?_
  refine lv_dup hx hb dX12_tells_195 rfl ?_
  refine z_get (v := .int 0) hx hb hg hown hK hP i_X12 rfl 0 rfl 0 (by decide) mt1280 e1 dX12_tells_196 ?_
  refine lv_iconst (v := 1) hx hb dX12_tells_199 (by decide) ?_
  refine lv_iadd hx hb dX12_tells_200 ?_
  refine z_cst (v := 1) (by decide +kernel) ?_
  refine z_put hx hb hg hown hK hP hD hS i_X12 rfl tyX12_ok nmX12 0 rfl 0 (by decide) mt1280 rfl rfl rfl dX12_tells_201 (fun gg19 H locs y20 hP hD hS => ?_)
  have hP : va_P K.1 classes [(a0, zO 10 83 gg19), (a1, zI K 200 ff1), (a2, zI K 200 ff3), (a3, zI K 200 ff5), (a4, zI K 200 ff7), (a5, zI K 600 ff13), (a6, zI K 200 ff15), (a7, zI K 200 ff17)] H := hP
  have hD : va_D A [(a0, zO 10 83 gg19), (a1, zI K 200 ff1), (a2, zI K 200 ff3), (a3, zI K 200 ff5), (a4, zI K 200 ff7), (a5, zI K 600 ff13), (a6, zI K 200 ff15), (a7, zI K 200 ff17)] := hD
  refine lv_aload_n hx hb dX12_tells_204 rfl (lv_at hl 4 rfl) ?_
  refine z_get (v := .int 1) hx hb hg hown hK hP i_X12 rfl 0 rfl 0 (by decide) mt1280 (zu_of y20 zu_eq) dX12_tells_205 ?_
  refine lv_iconst (v := 1) hx hb dX12_tells_208 (by decide) ?_
  refine lv_isub hx hb dX12_tells_209 ?_
  refine z_cst (v := 0) (by decide +kernel) ?_
  subst y20
  subst y18
  subst y16
  subst y14
  subst y12
  subst y10
  subst y8
  subst y6
  subst y4
  subst y2
  have hP9 : va_P K.1 classes [(a0, zO 10 83 (va_up g0 0 (.int 1))), (a1, zI K 200 (va_up f1 0 2)), (a2, zI K 200 (va_up f2 0 (nI j0))), (a3, zI K 200 (va_up f3 0 0)), (a4, zI K 200 (va_up f4 0 0)), (a5, zI K 600 (va_up (va_up (va_up f5 0 (-1)) 1 (-1)) 2 (-1))), (a6, zI K 200 (va_up f6 0 0)), (a7, zI K 200 (va_up f7 0 1))] H := hP.sub [0, 1, 2, 3, 4, 5, 6, 7] rfl
  have hD9 : va_D A [(a0, zO 10 83 (va_up g0 0 (.int 1))), (a1, zI K 200 (va_up f1 0 2)), (a2, zI K 200 (va_up f2 0 (nI j0))), (a3, zI K 200 (va_up f3 0 0)), (a4, zI K 200 (va_up f4 0 0)), (a5, zI K 600 (va_up (va_up (va_up f5 0 (-1)) 1 (-1)) 2 (-1))), (a6, zI K 200 (va_up f6 0 0)), (a7, zI K 200 (va_up f7 0 1))] := hD.sub [0, 1, 2, 3, 4, 5, 6, 7] (by decide) rfl
  exact z_iret hx hb hr (fun _ => 0) rfl hP9 hD9 hS (Nat.le_of_ble_eq_true rfl) (Nat.le_of_ble_eq_true rfl) hlocks dX12_tells_210
set_option maxHeartbeats 4000000 in
set_option maxRecDepth 100000 in
theorem cX12_global_2 (l : Launch) (K : zK) (sz : Nat) (a0 : Nat) (a1 : Nat) (a2 : Nat) (a3 : Nat) (a4 : Nat) (a5 : Nat) (a6 : Nat) (a7 : Nat) (g0 : Nat → Value) (f1 : Nat → Int32) (f2 : Nat → Int32) (f3 : Nat → Int32) (f4 : Nat → Int32) (f5 : Nat → Int32) (f6 : Nat → Int32) (f7 : Nat → Int32) (j0 : Nat) (hj0 : j0 < 8) (e0 : g0 0 = (.int 0)) (e1 : g0 1 = (.ref a1)) (e2 : g0 2 = (.ref a2)) (e3 : g0 3 = (.ref a3)) (e4 : g0 4 = (.ref a4)) (e5 : g0 6 = (.ref a5)) (e6 : g0 5 = (.ref a6)) (e7 : g0 7 = (.ref a7)) : Met l yX12_global (Cond.code yX12_global cX12_global 2 (some .int) :: WG) { frames := 2, cells := 0, slots := 0, locals := 42 } (zPre K [(a0, zO 10 83 g0), (a1, zI K 200 f1), (a2, zI K 200 f2), (a3, zI K 200 f3), (a4, zI K 200 f4), (a5, zI K 600 f5), (a6, zI K 200 f6), (a7, zI K 200 f7)] sz [.ref a0, .int (nI j0)]) (va_Qi (fun (r : Int32) (_ : Nat → Nat) => r = 0) (zB K (va_A [(a0, zO 10 83 g0), (a1, zI K 200 f1), (a2, zI K 200 f2), (a3, zI K 200 f3), (a4, zI K 200 f4), (a5, zI K 600 f5), (a6, zI K 200 f6), (a7, zI K 200 f7)] sz) (fun u : Nat → Nat => [(a0, zO 10 83 (va_up (va_up g0 81 (.int 0)) 0 (.int 1)))])) (va_A [(a0, zO 10 83 g0), (a1, zI K 200 f1), (a2, zI K 200 f2), (a3, zI K 200 f3), (a4, zI K 200 f4), (a5, zI K 600 f5), (a6, zI K 200 f6), (a7, zI K 200 f7)] sz)) 0 0 (va_A [(a0, zO 10 83 g0), (a1, zI K 200 f1), (a2, zI K 200 f2), (a3, zI K 200 f3), (a4, zI K 200 f4), (a5, zI K 600 f5), (a6, zI K 200 f6), (a7, zI K 200 f7)] sz) := by
  refine z_met (Qc := fun A => (va_Qi (fun (r : Int32) (_ : Nat → Nat) => r = 0) (zB K A (fun u : Nat → Nat => [(a0, zO 10 83 (va_up (va_up g0 81 (.int 0)) 0 (.int 1)))])) A)) (by decide +kernel) (Nat.le_of_ble_eq_true rfl) ?_
  intro p e s m args below meth c A ls H hx hb hr hg hown hlocks hml hin hK hP hD hA hS hZ hl
  have hown : s.vm.findClass RX12 = some m.cls := hown
  have hl : lv_has ls 2 [(0, .ref a0), (1, .int (nI j0))] := hl
  refine lv_aload_n hx hb dX12_global_0 rfl (lv_at hl 0 rfl) ?_
  refine lv_iload_n hx hb dX12_global_1 rfl (lv_at hl 1 rfl) ?_
  refine z_calli [] [(a0, zO 10 83 g0), (a1, zI K 200 f1), (a2, zI K 200 f2), (a3, zI K 200 f3), (a4, zI K 200 f4), (a5, zI K 600 f5), (a6, zI K 200 f6), (a7, zI K 200 f7)] [] [0, 1, 2, 3, 4, 5, 6, 7] hP hD hS hA rfl rfl (by decide) (by decide) (by decide +kernel) 0 0 rfl rfl (fun hPc hDc hF => z_runS (As := [.int (nI j0)]) (rest := [.ref a0]) ⟨hx, hb, hml, hown, hg⟩ (cX12_isGlobal_2 l K H.size j0 hj0) kS_RX12_197 hd_X12_isGlobal rfl rfl ⟨(Nat.le_of_ble_eq_true rfl), (Nat.le_of_ble_eq_true rfl)⟩ hK hS hZ hPc hDc hF rfl hl.1 rfl (Nat.le_of_ble_eq_true rfl) dX12_global_2 ⟨(Nat.le_of_ble_eq_true rfl), (Nat.le_of_ble_eq_true rfl)⟩) (fun r3 u1 H locs w2 hP hD hS => ?_)
  subst w2
  have hP : va_P K.1 classes [(a0, zO 10 83 g0), (a1, zI K 200 f1), (a2, zI K 200 f2), (a3, zI K 200 f3), (a4, zI K 200 f4), (a5, zI K 600 f5), (a6, zI K 200 f6), (a7, zI K 200 f7)] H := hP
  have hD : va_D A [(a0, zO 10 83 g0), (a1, zI K 200 f1), (a2, zI K 200 f2), (a3, zI K 200 f3), (a4, zI K 200 f4), (a5, zI K 600 f5), (a6, zI K 200 f6), (a7, zI K 200 f7)] := hD
  refine z_calli [(a0, zO 10 83 g0)] [(a1, zI K 200 f1), (a2, zI K 200 f2), (a3, zI K 200 f3), (a4, zI K 200 f4), (a5, zI K 600 f5), (a6, zI K 200 f6), (a7, zI K 200 f7)] [0] [1, 2, 3, 4, 5, 6, 7] hP hD hS hA rfl rfl (by decide) (by decide) (by decide +kernel) 0 0 rfl rfl (fun hPc hDc hF => z_runV (As := [.int 1]) (rest := []) ⟨hx, hb, hml, hown, hg⟩ (cX12_mayTellAlone_2 l K H.size a0 g0 e0) kV_RX12_193 hd_X12_mayTellAlone rfl rfl ⟨(Nat.le_of_ble_eq_true rfl), (Nat.le_of_ble_eq_true rfl)⟩ hK hS hZ hPc hDc hF 0 rfl rfl rfl hl.1 rfl (Nat.le_of_ble_eq_true rfl) dX12_global_5 ⟨(Nat.le_of_ble_eq_true rfl), (Nat.le_of_ble_eq_true rfl)⟩) (fun r6 u4 H locs w5 hP hD hS => ?_)
  subst w5
  have hP : va_P K.1 classes [(a1, zI K 200 f1), (a2, zI K 200 f2), (a3, zI K 200 f3), (a4, zI K 200 f4), (a5, zI K 600 f5), (a6, zI K 200 f6), (a7, zI K 200 f7), (a0, zO 10 83 (va_up g0 81 (.int 0)))] H := hP
  have hD : va_D A [(a1, zI K 200 f1), (a2, zI K 200 f2), (a3, zI K 200 f3), (a4, zI K 200 f4), (a5, zI K 600 f5), (a6, zI K 200 f6), (a7, zI K 200 f7), (a0, zO 10 83 (va_up g0 81 (.int 0)))] := hD
  refine lv_if_eq (tgt := 24) hx hb dX12_global_8 (by decide) (fun c => absurd c (by decide)) (fun _ => ?_)
  refine lv_aload_n hx hb dX12_global_11 rfl (lv_at hl 0 rfl) ?_
  refine lv_iconst (v := 2) hx hb dX12_global_12 (by decide) ?_
  refine lv_iload_n hx hb dX12_global_13 rfl (lv_at hl 1 rfl) ?_
  refine lv_iconst (v := 0) hx hb dX12_global_14 (by decide) ?_
  refine lv_iconst (v := (-1)) hx hb dX12_global_15 (by decide) ?_
  refine lv_iconst (v := (-1)) hx hb dX12_global_16 (by decide) ?_
  refine lv_iconst (v := (-1)) hx hb dX12_global_17 (by decide) ?_
  refine z_calli [(a0, zO 10 83 (va_up g0 81 (.int 0))), (a1, zI K 200 f1), (a2, zI K 200 f2), (a3, zI K 200 f3), (a4, zI K 200 f4), (a5, zI K 600 f5), (a6, zI K 200 f6), (a7, zI K 200 f7)] [] [7, 0, 1, 2, 3, 4, 5, 6] [] hP hD hS hA rfl rfl (by decide) (by decide) (by decide +kernel) 0 0 rfl rfl (fun hPc hDc hF => z_runV (As := [.int 2, .int (nI j0), .int 0, .int (-1), .int (-1), .int (-1)]) (rest := []) ⟨hx, hb, hml, hown, hg⟩ (cX12_tells_3 l K H.size a0 a1 a2 a3 a4 a5 a6 a7 (va_up g0 81 (.int 0)) f1 f2 f3 f4 f5 f6 f7 j0 hj0 (zu_ne (by decide) e1) (zu_ne (by decide) e0) (zu_ne (by decide) e2) (zu_ne (by decide) e3) (zu_ne (by decide) e4) (zu_ne (by decide) e5) (zu_ne (by decide) e6) (zu_ne (by decide) e7)) kV_RX12_186 hd_X12_tells rfl rfl ⟨(Nat.le_of_ble_eq_true rfl), (Nat.le_of_ble_eq_true rfl)⟩ hK hS hZ hPc hDc hF 0 rfl rfl rfl hl.1 rfl (Nat.le_of_ble_eq_true rfl) dX12_global_18 ⟨(Nat.le_of_ble_eq_true rfl), (Nat.le_of_ble_eq_true rfl)⟩) (fun r9 u7 H locs w8 hP hD hS => ?_)
  subst w8
  have hP : va_P K.1 classes [(a0, zO 10 83 (va_up (va_up g0 81 (.int 0)) 0 (.int 1))), (a1, zI K 200 (va_up f1 0 2)), (a2, zI K 200 (va_up f2 0 (nI j0))), (a3, zI K 200 (va_up f3 0 0)), (a4, zI K 200 (va_up f4 0 0)), (a5, zI K 600 (va_up (va_up (va_up f5 0 (-1)) 1 (-1)) 2 (-1))), (a6, zI K 200 (va_up f6 0 0)), (a7, zI K 200 (va_up f7 0 1))] H := hP
  have hD : va_D A [(a0, zO 10 83 (va_up (va_up g0 81 (.int 0)) 0 (.int 1))), (a1, zI K 200 (va_up f1 0 2)), (a2, zI K 200 (va_up f2 0 (nI j0))), (a3, zI K 200 (va_up f3 0 0)), (a4, zI K 200 (va_up f4 0 0)), (a5, zI K 600 (va_up (va_up (va_up f5 0 (-1)) 1 (-1)) 2 (-1))), (a6, zI K 200 (va_up f6 0 0)), (a7, zI K 200 (va_up f7 0 1))] := hD
  obtain ⟨gg10, y11⟩ : ∃ z, z = ((va_up (va_up g0 81 (.int 0)) 0 (.int 1)) : Nat → Value) := ⟨_, rfl⟩
  rw [← y11] at hP hD
  obtain ⟨ff12, y13⟩ : ∃ z, z = ((va_up (va_up (va_up f5 0 (-1)) 1 (-1)) 2 (-1)) : Nat → Int32) := ⟨_, rfl⟩
  rw [← y13] at hP hD
  refine lv_goto (tgt := 25) hx hb dX12_global_21 (by decide) ?_
  subst y13
  subst y11
  have hP9 : va_P K.1 classes [(a0, zO 10 83 (va_up (va_up g0 81 (.int 0)) 0 (.int 1)))] H := hP.sub [0] rfl
  have hD9 : va_D A [(a0, zO 10 83 (va_up (va_up g0 81 (.int 0)) 0 (.int 1)))] := hD.sub [0] (by decide) rfl
  exact z_iret hx hb hr (fun _ => 0) rfl hP9 hD9 hS (Nat.le_of_ble_eq_true rfl) (Nat.le_of_ble_eq_true rfl) hlocks dX12_global_25
set_option maxHeartbeats 4000000 in
set_option maxRecDepth 100000 in
theorem cX11_checkRange_6 (l : Launch) (hl9 : l.stackTraces = false) (K : zK) (sz : Nat) (a0 : Nat) (g0 : Nat → Value) (x0 : Int32) (e0 : ¬ x0 < (0 : Int32)) (e1 : ¬ x0 < (8 : Int32)) : vx_Met l yX11_checkRange (Cond.code yX11_checkRange cX11_checkRange 3 none :: WG) { frames := 6, cells := 1, slots := 6, locals := 82 } (zPre K [(a0, zO 9 9 g0)] sz [.ref a0, .int x0, .int 8]) (va_Qv (fun _ : Unit => False) (fun _ _ => True) (va_A [(a0, zO 9 9 g0)] sz)) (zX (va_A [(a0, zO 9 9 g0)] sz) zIA) 1 6 (va_A [(a0, zO 9 9 g0)] sz) := by
  refine z_xmet (Qc := fun A => va_Qv (fun _ : Unit => False) (fun _ _ => True) A) (XC := fun A => zX A zIA) (by decide +kernel) (Nat.le_of_ble_eq_true rfl) ?_
  intro p e s m args below meth c A ls H hx hb hr hg hown hlocks hml hno hK hP hD hA hS hZ hl
  have hown : s.vm.findClass RX11 = some m.cls := hown
  have hl : lv_has ls 3 [(0, .ref a0), (1, .int x0), (2, .int 8)] := hl
  refine lv_iload_n hx hb dX11_checkRange_0 rfl (lv_at hl 1 rfl) ?_
  refine lv_if_lt (tgt := 9) hx hb dX11_checkRange_1 (by decide) (fun c => absurd c e0) (fun _ => ?_)
  refine lv_iload_n hx hb dX11_checkRange_4 rfl (lv_at hl 1 rfl) ?_
  refine lv_iload_n hx hb dX11_checkRange_5 rfl (lv_at hl 2 rfl) ?_
  refine lv_icmp_lt (tgt := 19) hx hb dX11_checkRange_6 (by decide) (fun c => absurd c e1) (fun _ => ?_)
  exact z_throw (ik := 82) (is := 183) (ic := 86) hx hb hl9 hg hown (by decide +kernel) mt500 mt16 hZ.1.2.2.1 (at_zIA hg hZ) ok_zIA hZ hS hl.1 hml dX11_checkRange_9 dX11_checkRange_12 dX11_checkRange_13 dX11_checkRange_15 dX11_checkRange_18 hno hlocks (Nat.le_of_ble_eq_true rfl) (Nat.le_of_ble_eq_true rfl) (Nat.le_of_ble_eq_true rfl) (Nat.le_of_ble_eq_true rfl) (Nat.le_of_ble_eq_true rfl) (Nat.le_of_ble_eq_true rfl)
set_option maxHeartbeats 4000000 in
set_option maxRecDepth 100000 in
theorem cX11_global_3 (l : Launch) (hl9 : l.stackTraces = false) (K : zK) (sz : Nat) (a0 : Nat) (g0 : Nat → Value) (x0 : Int32) (e0 : ¬ x0 < (0 : Int32)) (e1 : ¬ x0 < (8 : Int32)) : vx_Met l yX11_global (Cond.code yX11_global cX11_global 2 (some .int) :: WG) { frames := 7, cells := 1, slots := 6, locals := 104 } (zPre K [(a0, zO 9 9 g0)] sz [.ref a0, .int x0]) (va_Qv (fun _ : Unit => False) (fun _ _ => True) (va_A [(a0, zO 9 9 g0)] sz)) (zX (va_A [(a0, zO 9 9 g0)] sz) zIA) 1 6 (va_A [(a0, zO 9 9 g0)] sz) := by
  refine z_xmet (Qc := fun A => va_Qv (fun _ : Unit => False) (fun _ _ => True) A) (XC := fun A => zX A zIA) (by decide +kernel) (Nat.le_of_ble_eq_true rfl) ?_
  intro p e s m args below meth c A ls H hx hb hr hg hown hlocks hml hno hK hP hD hA hS hZ hl
  have hown : s.vm.findClass RX11 = some m.cls := hown
  have hl : lv_has ls 2 [(0, .ref a0), (1, .int x0)] := hl
  refine lv_aload_n hx hb dX11_global_0 rfl (lv_at hl 0 rfl) ?_
  refine lv_iload_n hx hb dX11_global_1 rfl (lv_at hl 1 rfl) ?_
  refine lv_bipush (v := 8) hx hb dX11_global_2 (by decide) ?_
  refine z_xcall (EX := zIA) [(a0, zO 9 9 g0)] [0] hP hD hS hA rfl (by decide) 1 6 rfl rfl (fun hPc hDc hF => z_xrunV (As := [.int x0, .int 8]) (rest := []) ⟨hx, hb, hml, hown, hg⟩ (cX11_checkRange_6 l hl9 K H.size a0 g0 x0 e0 e1) kV_RX11_72 hd_X11_checkRange rfl rfl ⟨(Nat.le_of_ble_eq_true rfl), (Nat.le_of_ble_eq_true rfl)⟩ hK hS hZ hPc hDc hF 0 rfl rfl rfl hl.1 rfl (Nat.le_of_ble_eq_true rfl) dX11_global_4 ⟨(Nat.le_of_ble_eq_true rfl), (Nat.le_of_ble_eq_true rfl)⟩) (fun ce q9 H locs hS hce hcv hcl => ?_)
  exact z_xout hno hlocks hS hce hcv hcl (Nat.le_of_ble_eq_true rfl) (Nat.le_of_ble_eq_true rfl)
set_option maxHeartbeats 4000000 in
set_option maxRecDepth 100000 in
theorem cL_global_3 (l : Launch) (hl9 : l.stackTraces = false) (K : zK) (sz : Nat) (a0 : Nat) (a1 : Nat) (g0 : Nat → Value) (x0 : Int32) (e0 : ¬ x0 < (0 : Int32)) (e1 : ¬ x0 < (8 : Int32)) : vx_Met l yL_global (Cond.codeWith yL_global cL_global 4 (some .int) [(0, 9, 12, 18), (0, 9, 15, 13)] :: WG) { frames := 8, cells := 1, slots := 6, locals := 125 } (zPre K [(a0, zO 9 9 g0)] sz [.ref a0, .int x0, .ref a1]) (va_Qi (fun (r : Int32) (_ : Nat → Nat) => r = 1) (zB K (va_A [(a0, zO 9 9 g0)] sz) (fun u : Nat → Nat => [])) (va_A [(a0, zO 9 9 g0)] sz)) (vx_X (fun _ : Unit => False) (fun _ _ _ => True) (va_A [(a0, zO 9 9 g0)] sz)) 1 6 (va_A [(a0, zO 9 9 g0)] sz) := by
  refine z_hmet (Qc := fun A => (va_Qi (fun (r : Int32) (_ : Nat → Nat) => r = 1) (zB K A (fun u : Nat → Nat => [])) A)) (XC := fun A => vx_X (fun _ : Unit => False) (fun _ _ _ => True) A) (by decide +kernel) (Nat.le_of_ble_eq_true rfl) ?_
  intro p e s m args below meth c A ls H hx hb hr hg hown hlocks hml hTab hK hP hD hA hS hZ hl
  have hown : s.vm.findClass RL = some m.cls := hown
  have hl : lv_has ls 4 [(0, .ref a0), (1, .int x0), (2, .ref a1)] := hl
  refine lv_aload_n hx hb dL_global_0 rfl (lv_at hl 2 rfl) ?_
  refine lv_iconst (v := 0) hx hb dL_global_1 (by decide) ?_
  refine lv_aload_n hx hb dL_global_2 rfl (lv_at hl 0 rfl) ?_
  refine lv_iload_n hx hb dL_global_3 rfl (lv_at hl 1 rfl) ?_
  refine z_xcall (EX := zIA) [(a0, zO 9 9 g0)] [0] hP hD hS hA rfl (by decide) 1 6 rfl rfl (fun hPc hDc hF => z_xrunV (As := [.int x0]) (rest := [.int 0, .ref a1]) ⟨hx, hb, hml, hown, hg⟩ (cX11_global_3 l hl9 K H.size a0 g0 x0 e0 e1) kV_RL_20 hd_X11_global rfl rfl ⟨(Nat.le_of_ble_eq_true rfl), (Nat.le_of_ble_eq_true rfl)⟩ hK hS hZ hPc hDc hF 0 rfl rfl rfl hl.1 rfl (Nat.le_of_ble_eq_true rfl) dL_global_4 ⟨(Nat.le_of_ble_eq_true rfl), (Nat.le_of_ble_eq_true rfl)⟩) (fun ce q9 H locs hS hce hcv hcl => ?_)
  refine vx_catch (own := RL) (name := zIA) (E := zIA) hown [] ⟨0, 9, 12, 18⟩ [⟨0, 9, 15, 13⟩] (by rw [hTab]; rfl) (fun z hz => nomatch hz) (by decide) (by decide) (hg _ mt491) (va_Nw.use rfl hZ.1.1.2.1) hce hcv hcl ?_
  have hP : va_P K.1 classes [] H := z_P0
  have hD : va_D A [] := z_D0
  refine lv_astore_n (lv' := [(3, .ref q9), (0, .ref a0), (1, .int x0), (2, .ref a1)]) hx hb dL_global_12 rfl hl (by decide) rfl (fun ls hl => ?_)
  refine lv_iconst (v := 1) hx hb dL_global_13 (by decide) ?_
  have hP9 : va_P K.1 classes [] H := hP.sub [] rfl
  have hD9 : va_D A [] := hD.sub [] (by decide) rfl
  exact z_iret hx hb hr (fun _ => 0) rfl hP9 hD9 hS (Nat.le_of_ble_eq_true rfl) (Nat.le_of_ble_eq_true rfl) hlocks dL_global_14
set_option maxHeartbeats 4000000 in
set_option maxRecDepth 100000 in
theorem cX12_isIn_6 (l : Launch) (K : zK) (sz : Nat) (x0 : Int32) (e0 : ¬ x0 < (0 : Int32)) (e1 : (7 : Int32) < x0) : Met l yX12_isIn (Cond.code yX12_isIn cX12_isIn 3 (some .boolean) :: WG) { frames := 0, cells := 0, slots := 0, locals := 0 } (zPre K [] sz [.int x0, .int 0, .int 7]) (va_Qi (fun (r : Int32) (_ : Nat → Nat) => r = 0) (zB K (va_A [] sz) (fun u : Nat → Nat => [])) (va_A [] sz)) 0 0 (va_A [] sz) := by
  refine z_met (Qc := fun A => (va_Qi (fun (r : Int32) (_ : Nat → Nat) => r = 0) (zB K A (fun u : Nat → Nat => [])) A)) (by decide +kernel) (Nat.le_of_ble_eq_true rfl) ?_
  intro p e s m args below meth c A ls H hx hb hr hg hown hlocks hml hin hK hP hD hA hS hZ hl
  have hown : s.vm.findClass RX12 = some m.cls := hown
  have hl : lv_has ls 3 [(0, .int x0), (1, .int 0), (2, .int 7)] := hl
  refine lv_iload_n hx hb dX12_isIn_0 rfl (lv_at hl 0 rfl) ?_
  refine lv_iload_n hx hb dX12_isIn_1 rfl (lv_at hl 1 rfl) ?_
  refine lv_icmp_lt (tgt := 14) hx hb dX12_isIn_2 (by decide) (fun c => absurd c e0) (fun _ => ?_)
  refine lv_iload_n hx hb dX12_isIn_5 rfl (lv_at hl 0 rfl) ?_
  refine lv_iload_n hx hb dX12_isIn_6 rfl (lv_at hl 2 rfl) ?_
  refine lv_icmp_gt (tgt := 14) hx hb dX12_isIn_7 (by decide) (fun _ => ?_) (fun c => absurd e1 c)
  refine lv_iconst (v := 0) hx hb dX12_isIn_14 (by decide) ?_
  have hP9 : va_P K.1 classes [] H := hP.sub [] rfl
  have hD9 : va_D A [] := hD.sub [] (by decide) rfl
  exact z_zret hx hb hr rfl (fun _ => 0) rfl hP9 hD9 hS (Nat.le_of_ble_eq_true rfl) (Nat.le_of_ble_eq_true rfl) hlocks dX12_isIn_15
set_option maxHeartbeats 4000000 in
set_option maxRecDepth 100000 in
theorem cX12_isGlobal_3 (l : Launch) (K : zK) (sz : Nat) (x0 : Int32) (e0 : ¬ x0 < (0 : Int32)) (e1 : (7 : Int32) < x0) : Met l yX12_isGlobal (Cond.code yX12_isGlobal cX12_isGlobal 1 (some .boolean) :: WG) { frames := 1, cells := 0, slots := 0, locals := 22 } (zPre K [] sz [.int x0]) (va_Qi (fun (r : Int32) (_ : Nat → Nat) => r = 0) (zB K (va_A [] sz) (fun u : Nat → Nat => [])) (va_A [] sz)) 0 0 (va_A [] sz) := by
  refine z_met (Qc := fun A => (va_Qi (fun (r : Int32) (_ : Nat → Nat) => r = 0) (zB K A (fun u : Nat → Nat => [])) A)) (by decide +kernel) (Nat.le_of_ble_eq_true rfl) ?_
  intro p e s m args below meth c A ls H hx hb hr hg hown hlocks hml hin hK hP hD hA hS hZ hl
  have hown : s.vm.findClass RX12 = some m.cls := hown
  have hl : lv_has ls 1 [(0, .int x0)] := hl
  refine lv_iload_n hx hb dX12_isGlobal_0 rfl (lv_at hl 0 rfl) ?_
  refine lv_iconst (v := 0) hx hb dX12_isGlobal_1 (by decide) ?_
  refine lv_bipush (v := 7) hx hb dX12_isGlobal_2 (by decide) ?_
  refine z_calli [] [] [] [] hP hD hS hA rfl rfl (by decide) (by decide) (by decide +kernel) 0 0 rfl rfl (fun hPc hDc hF => z_runS (As := [.int x0, .int 0, .int 7]) (rest := []) ⟨hx, hb, hml, hown, hg⟩ (cX12_isIn_6 l K H.size x0 e0 e1) kS_RX12_175 hd_X12_isIn rfl rfl ⟨(Nat.le_of_ble_eq_true rfl), (Nat.le_of_ble_eq_true rfl)⟩ hK hS hZ hPc hDc hF rfl hl.1 rfl (Nat.le_of_ble_eq_true rfl) dX12_isGlobal_4 ⟨(Nat.le_of_ble_eq_true rfl), (Nat.le_of_ble_eq_true rfl)⟩) (fun r3 u1 H locs w2 hP hD hS => ?_)
  subst w2
  have hP : va_P K.1 classes [] H := hP
  have hD : va_D A [] := hD
  have hP9 : va_P K.1 classes [] H := hP.sub [] rfl
  have hD9 : va_D A [] := hD.sub [] (by decide) rfl
  exact z_zret hx hb hr rfl (fun _ => 0) rfl hP9 hD9 hS (Nat.le_of_ble_eq_true rfl) (Nat.le_of_ble_eq_true rfl) hlocks dX12_isGlobal_7
set_option maxHeartbeats 4000000 in
set_option maxRecDepth 100000 in
theorem cX12_global_3 (l : Launch) (K : zK) (sz : Nat) (a0 : Nat) (g0 : Nat → Value) (x0 : Int32) (e0 : ¬ x0 < (0 : Int32)) (e1 : (7 : Int32) < x0) : Met l yX12_global (Cond.code yX12_global cX12_global 2 (some .int) :: WG) { frames := 2, cells := 0, slots := 0, locals := 42 } (zPre K [(a0, zO 10 83 g0)] sz [.ref a0, .int x0]) (va_Qi (fun (r : Int32) (_ : Nat → Nat) => r = 0) (zB K (va_A [(a0, zO 10 83 g0)] sz) (fun u : Nat → Nat => [(a0, zO 10 83 (va_up g0 81 (.int 1)))])) (va_A [(a0, zO 10 83 g0)] sz)) 0 0 (va_A [(a0, zO 10 83 g0)] sz) := by
  refine z_met (Qc := fun A => (va_Qi (fun (r : Int32) (_ : Nat → Nat) => r = 0) (zB K A (fun u : Nat → Nat => [(a0, zO 10 83 (va_up g0 81 (.int 1)))])) A)) (by decide +kernel) (Nat.le_of_ble_eq_true rfl) ?_
  intro p e s m args below meth c A ls H hx hb hr hg hown hlocks hml hin hK hP hD hA hS hZ hl
  have hown : s.vm.findClass RX12 = some m.cls := hown
  have hl : lv_has ls 2 [(0, .ref a0), (1, .int x0)] := hl
  refine lv_aload_n hx hb dX12_global_0 rfl (lv_at hl 0 rfl) ?_
  refine lv_iload_n hx hb dX12_global_1 rfl (lv_at hl 1 rfl) ?_
  refine z_calli [] [(a0, zO 10 83 g0)] [] [0] hP hD hS hA rfl rfl (by decide) (by decide) (by decide +kernel) 0 0 rfl rfl (fun hPc hDc hF => z_runS (As := [.int x0]) (rest := [.ref a0]) ⟨hx, hb, hml, hown, hg⟩ (cX12_isGlobal_3 l K H.size x0 e0 e1) kS_RX12_197 hd_X12_isGlobal rfl rfl ⟨(Nat.le_of_ble_eq_true rfl), (Nat.le_of_ble_eq_true rfl)⟩ hK hS hZ hPc hDc hF rfl hl.1 rfl (Nat.le_of_ble_eq_true rfl) dX12_global_2 ⟨(Nat.le_of_ble_eq_true rfl), (Nat.le_of_ble_eq_true rfl)⟩) (fun r3 u1 H locs w2 hP hD hS => ?_)
  subst w2
  have hP : va_P K.1 classes [(a0, zO 10 83 g0)] H := hP
  have hD : va_D A [(a0, zO 10 83 g0)] := hD
  refine z_calli [(a0, zO 10 83 g0)] [] [0] [] hP hD hS hA rfl rfl (by decide) (by decide) (by decide +kernel) 0 0 rfl rfl (fun hPc hDc hF => z_runV (As := [.int 0]) (rest := []) ⟨hx, hb, hml, hown, hg⟩ (cX12_mayTellAlone_1 l K H.size a0 g0) kV_RX12_193 hd_X12_mayTellAlone rfl rfl ⟨(Nat.le_of_ble_eq_true rfl), (Nat.le_of_ble_eq_true rfl)⟩ hK hS hZ hPc hDc hF 0 rfl rfl rfl hl.1 rfl (Nat.le_of_ble_eq_true rfl) dX12_global_5 ⟨(Nat.le_of_ble_eq_true rfl), (Nat.le_of_ble_eq_true rfl)⟩) (fun r6 u4 H locs w5 hP hD hS => ?_)
  subst w5
  have hP : va_P K.1 classes [(a0, zO 10 83 (va_up g0 81 (.int 1)))] H := hP
  have hD : va_D A [(a0, zO 10 83 (va_up g0 81 (.int 1)))] := hD
  refine lv_if_eq (tgt := 24) hx hb dX12_global_8 (by decide) (fun _ => ?_) (fun c => absurd (by decide) c)
  refine lv_iconst (v := 0) hx hb dX12_global_24 (by decide) ?_
  have hP9 : va_P K.1 classes [(a0, zO 10 83 (va_up g0 81 (.int 1)))] H := hP.sub [0] rfl
  have hD9 : va_D A [(a0, zO 10 83 (va_up g0 81 (.int 1)))] := hD.sub [0] (by decide) rfl
  exact z_iret hx hb hr (fun _ => 0) rfl hP9 hD9 hS (Nat.le_of_ble_eq_true rfl) (Nat.le_of_ble_eq_true rfl) hlocks dX12_global_25
set_option maxHeartbeats 4000000 in
set_option maxRecDepth 100000 in
theorem cX9_has_2 (l : Launch) (K : zK) (sz : Nat) (a0 : Nat) (g0 : Nat → Value) (x0 : Int32) (e0 : x0 < (0 : Int32)) : Met l yX9_has (Cond.code yX9_has cX9_has 2 (some .boolean) :: WG) { frames := 0, cells := 0, slots := 0, locals := 0 } (zPre K [(a0, zO 7 6 g0)] sz [.ref a0, .int x0]) (va_Qi (fun (r : Int32) (_ : Nat → Nat) => r = 0) (zB K (va_A [(a0, zO 7 6 g0)] sz) (fun u : Nat → Nat => [(a0, zO 7 6 g0)])) (va_A [(a0, zO 7 6 g0)] sz)) 0 0 (va_A [(a0, zO 7 6 g0)] sz) := by
  refine z_met (Qc := fun A => (va_Qi (fun (r : Int32) (_ : Nat → Nat) => r = 0) (zB K A (fun u : Nat → Nat => [(a0, zO 7 6 g0)])) A)) (by decide +kernel) (Nat.le_of_ble_eq_true rfl) ?_
  intro p e s m args below meth c A ls H hx hb hr hg hown hlocks hml hin hK hP hD hA hS hZ hl
  have hown : s.vm.findClass RX9 = some m.cls := hown
  have hl : lv_has ls 2 [(0, .ref a0), (1, .int x0)] := hl
  refine lv_iload_n hx hb dX9_has_0 rfl (lv_at hl 1 rfl) ?_
  refine lv_if_lt (tgt := 16) hx hb dX9_has_1 (by decide) (fun _ => ?_) (fun c => absurd e0 c)
  refine lv_iconst (v := 0) hx hb dX9_has_16 (by decide) ?_
  have hP9 : va_P K.1 classes [(a0, zO 7 6 g0)] H := hP.sub [0] rfl
  have hD9 : va_D A [(a0, zO 7 6 g0)] := hD.sub [0] (by decide) rfl
  exact z_zret hx hb hr rfl (fun _ => 0) rfl hP9 hD9 hS (Nat.le_of_ble_eq_true rfl) (Nat.le_of_ble_eq_true rfl) hlocks dX9_has_17
set_option maxHeartbeats 4000000 in
set_option maxRecDepth 100000 in
theorem cX11_checkTold_1 (l : Launch) (hl9 : l.stackTraces = false) (K : zK) (sz : Nat) (a0 : Nat) (a1 : Nat) (g0 : Nat → Value) (g1 : Nat → Value) (x0 : Int32) (e0 : g0 0 = (.ref a1)) (e1 : x0 < (0 : Int32)) : vx_Met l yX11_checkTold (Cond.code yX11_checkTold cX11_checkTold 2 none :: WG) { frames := 6, cells := 1, slots := 6, locals := 82 } (zPre K [(a0, zO 9 9 g0), (a1, zO 7 6 g1)] sz [.ref a0, .int x0]) (va_Qv (fun _ : Unit => False) (fun _ _ => True) (va_A [(a0, zO 9 9 g0), (a1, zO 7 6 g1)] sz)) (zX (va_A [(a0, zO 9 9 g0), (a1, zO 7 6 g1)] sz) zIB) 1 6 (va_A [(a0, zO 9 9 g0), (a1, zO 7 6 g1)] sz) := by
  refine z_xmet (Qc := fun A => va_Qv (fun _ : Unit => False) (fun _ _ => True) A) (XC := fun A => zX A zIB) (by decide +kernel) (Nat.le_of_ble_eq_true rfl) ?_
  intro p e s m args below meth c A ls H hx hb hr hg hown hlocks hml hno hK hP hD hA hS hZ hl
  have hown : s.vm.findClass RX11 = some m.cls := hown
  have hl : lv_has ls 2 [(0, .ref a0), (1, .int x0)] := hl
  refine lv_aload_n hx hb dX11_checkTold_0 rfl (lv_at hl 0 rfl) ?_
  refine z_get (v := .ref a1) hx hb hg hown hK hP i_X11 rfl 0 rfl 0 (by decide) mt304 e0 dX11_checkTold_1 ?_
  refine lv_iload_n hx hb dX11_checkTold_4 rfl (lv_at hl 1 rfl) ?_
  refine z_calli [(a1, zO 7 6 g1)] [(a0, zO 9 9 g0)] [1] [0] hP hD hS hA rfl rfl (by decide) (by decide) (by decide +kernel) 0 0 rfl rfl (fun hPc hDc hF => z_runV (As := [.int x0]) (rest := []) ⟨hx, hb, hml, hown, hg⟩ (cX9_has_2 l K H.size a1 g1 x0 e1) kV_RX11_185 hd_X9_has rfl rfl ⟨(Nat.le_of_ble_eq_true rfl), (Nat.le_of_ble_eq_true rfl)⟩ hK hS hZ hPc hDc hF 0 rfl rfl rfl hl.1 rfl (Nat.le_of_ble_eq_true rfl) dX11_checkTold_5 ⟨(Nat.le_of_ble_eq_true rfl), (Nat.le_of_ble_eq_true rfl)⟩) (fun r3 u1 H locs w2 hP hD hS => ?_)
  subst w2
  have hP : va_P K.1 classes [(a0, zO 9 9 g0), (a1, zO 7 6 g1)] H := hP
  have hD : va_D A [(a0, zO 9 9 g0), (a1, zO 7 6 g1)] := hD
  refine lv_if_ne (tgt := 21) hx hb dX11_checkTold_8 (by decide) (fun c => absurd (by decide) c) (fun _ => ?_)
  exact z_throw (ik := 161) (is := 189) (ic := 165) hx hb hl9 hg hown (by decide +kernel) mt536 mt17 hZ.1.2.2.2.1 (at_zIB hg hZ) ok_zIB hZ hS hl.1 hml dX11_checkTold_11 dX11_checkTold_14 dX11_checkTold_15 dX11_checkTold_17 dX11_checkTold_20 hno hlocks (Nat.le_of_ble_eq_true rfl) (Nat.le_of_ble_eq_true rfl) (Nat.le_of_ble_eq_true rfl) (Nat.le_of_ble_eq_true rfl) (Nat.le_of_ble_eq_true rfl) (Nat.le_of_ble_eq_true rfl)
set_option maxHeartbeats 4000000 in
set_option maxRecDepth 100000 in
theorem cX11_lam_1 (l : Launch) (hl9 : l.stackTraces = false) (K : zK) (sz : Nat) (a0 : Nat) (a1 : Nat) (g0 : Nat → Value) (g1 : Nat → Value) (x0 : Int32) (x1 : Int32) (e0 : g0 0 = (.ref a1)) (e1 : x1 < (0 : Int32)) : vx_Met l yX11_lam (Cond.code yX11_lam cX11_lam 3 (some .int) :: WG) { frames := 7, cells := 1, slots := 6, locals := 103 } (zPre K [(a0, zO 9 9 g0), (a1, zO 7 6 g1)] sz [.ref a0, .int x0, .int x1]) (va_Qv (fun _ : Unit => False) (fun _ _ => True) (va_A [(a0, zO 9 9 g0), (a1, zO 7 6 g1)] sz)) (zX (va_A [(a0, zO 9 9 g0), (a1, zO 7 6 g1)] sz) zIB) 1 6 (va_A [(a0, zO 9 9 g0), (a1, zO 7 6 g1)] sz) := by
  refine z_xmet (Qc := fun A => va_Qv (fun _ : Unit => False) (fun _ _ => True) A) (XC := fun A => zX A zIB) (by decide +kernel) (Nat.le_of_ble_eq_true rfl) ?_
  intro p e s m args below meth c A ls H hx hb hr hg hown hlocks hml hno hK hP hD hA hS hZ hl
  have hown : s.vm.findClass RX11 = some m.cls := hown
  have hl : lv_has ls 3 [(0, .ref a0), (1, .int x0), (2, .int x1)] := hl
  refine lv_aload_n hx hb dX11_lam_0 rfl (lv_at hl 0 rfl) ?_
  refine lv_iload_n hx hb dX11_lam_1 rfl (lv_at hl 2 rfl) ?_
  refine z_xcall (EX := zIB) [(a0, zO 9 9 g0), (a1, zO 7 6 g1)] [0, 1] hP hD hS hA rfl (by decide) 1 6 rfl rfl (fun hPc hDc hF => z_xrunV (As := [.int x1]) (rest := []) ⟨hx, hb, hml, hown, hg⟩ (cX11_checkTold_1 l hl9 K H.size a0 a1 g0 g1 x1 e0 e1) kV_RX11_76 hd_X11_checkTold rfl rfl ⟨(Nat.le_of_ble_eq_true rfl), (Nat.le_of_ble_eq_true rfl)⟩ hK hS hZ hPc hDc hF 0 rfl rfl rfl hl.1 rfl (Nat.le_of_ble_eq_true rfl) dX11_lam_2 ⟨(Nat.le_of_ble_eq_true rfl), (Nat.le_of_ble_eq_true rfl)⟩) (fun ce q9 H locs hS hce hcv hcl => ?_)
  exact z_xout hno hlocks hS hce hcv hcl (Nat.le_of_ble_eq_true rfl) (Nat.le_of_ble_eq_true rfl)
set_option maxHeartbeats 4000000 in
set_option maxRecDepth 100000 in
theorem cL_lam_1 (l : Launch) (hl9 : l.stackTraces = false) (K : zK) (sz : Nat) (a0 : Nat) (a1 : Nat) (a2 : Nat) (g0 : Nat → Value) (g2 : Nat → Value) (x0 : Int32) (x1 : Int32) (e0 : g0 0 = (.ref a2)) (e1 : x1 < (0 : Int32)) : vx_Met l yL_lam (Cond.codeWith yL_lam cL_lam 5 (some .int) [(0, 10, 13, 27), (0, 10, 17, 18), (0, 10, 21, 13)] :: WG) { frames := 8, cells := 1, slots := 6, locals := 125 } (zPre K [(a0, zO 9 9 g0), (a2, zO 7 6 g2)] sz [.ref a0, .int x0, .int x1, .ref a1]) (va_Qi (fun (r : Int32) (_ : Nat → Nat) => r = 1) (zB K (va_A [(a0, zO 9 9 g0), (a2, zO 7 6 g2)] sz) (fun u : Nat → Nat => [])) (va_A [(a0, zO 9 9 g0), (a2, zO 7 6 g2)] sz)) (vx_X (fun _ : Unit => False) (fun _ _ _ => True) (va_A [(a0, zO 9 9 g0), (a2, zO 7 6 g2)] sz)) 1 6 (va_A [(a0, zO 9 9 g0), (a2, zO 7 6 g2)] sz) := by
  refine z_hmet (Qc := fun A => (va_Qi (fun (r : Int32) (_ : Nat → Nat) => r = 1) (zB K A (fun u : Nat → Nat => [])) A)) (XC := fun A => vx_X (fun _ : Unit => False) (fun _ _ _ => True) A) (by decide +kernel) (Nat.le_of_ble_eq_true rfl) ?_
  intro p e s m args below meth c A ls H hx hb hr hg hown hlocks hml hTab hK hP hD hA hS hZ hl
  have hown : s.vm.findClass RL = some m.cls := hown
  have hl : lv_has ls 5 [(0, .ref a0), (1, .int x0), (2, .int x1), (3, .ref a1)] := hl
  refine lv_aload_n hx hb dL_lam_0 rfl (lv_at hl 3 rfl) ?_
  refine lv_iconst (v := 0) hx hb dL_lam_1 (by decide) ?_
  refine lv_aload_n hx hb dL_lam_2 rfl (lv_at hl 0 rfl) ?_
  refine lv_iload_n hx hb dL_lam_3 rfl (lv_at hl 1 rfl) ?_
  refine lv_iload_n hx hb dL_lam_4 rfl (lv_at hl 2 rfl) ?_
  refine z_xcall (EX := zIB) [(a0, zO 9 9 g0), (a2, zO 7 6 g2)] [0, 1] hP hD hS hA rfl (by decide) 1 6 rfl rfl (fun hPc hDc hF => z_xrunV (As := [.int x0, .int x1]) (rest := [.int 0, .ref a1]) ⟨hx, hb, hml, hown, hg⟩ (cX11_lam_1 l hl9 K H.size a0 a2 g0 g2 x0 x1 e0 e1) kV_RL_23 hd_X11_lam rfl rfl ⟨(Nat.le_of_ble_eq_true rfl), (Nat.le_of_ble_eq_true rfl)⟩ hK hS hZ hPc hDc hF 0 rfl rfl rfl hl.1 rfl (Nat.le_of_ble_eq_true rfl) dL_lam_5 ⟨(Nat.le_of_ble_eq_true rfl), (Nat.le_of_ble_eq_true rfl)⟩) (fun ce q9 H locs hS hce hcv hcl => ?_)
  refine vx_catch (own := RL) (name := zIB) (E := zIB) hown [] ⟨0, 10, 13, 27⟩ [⟨0, 10, 17, 18⟩, ⟨0, 10, 21, 13⟩] (by rw [hTab]; rfl) (fun z hz => nomatch hz) (by decide) (by decide) (hg _ mt526) (va_Nw.use rfl hZ.1.1.2.2.2.1) hce hcv hcl ?_
  have hP : va_P K.1 classes [] H := z_P0
  have hD : va_D A [] := z_D0
  refine lv_astore (lv' := [(4, .ref q9), (0, .ref a0), (1, .int x0), (2, .int x1), (3, .ref a1)]) hx hb dL_lam_13 hl (by decide) rfl (fun ls hl => ?_)
  refine lv_iconst (v := 1) hx hb dL_lam_15 (by decide) ?_
  have hP9 : va_P K.1 classes [] H := hP.sub [] rfl
  have hD9 : va_D A [] := hD.sub [] (by decide) rfl
  exact z_iret hx hb hr (fun _ => 0) rfl hP9 hD9 hS (Nat.le_of_ble_eq_true rfl) (Nat.le_of_ble_eq_true rfl) hlocks dL_lam_16
set_option maxHeartbeats 4000000 in
set_option maxRecDepth 100000 in
theorem cX12_isIn_7 (l : Launch) (K : zK) (sz : Nat) (x0 : Int32) (e0 : x0 < (0 : Int32)) : Met l yX12_isIn (Cond.code yX12_isIn cX12_isIn 3 (some .boolean) :: WG) { frames := 0, cells := 0, slots := 0, locals := 0 } (zPre K [] sz [.int x0, .int 0, .int (-1)]) (va_Qi (fun (r : Int32) (_ : Nat → Nat) => r = 0) (zB K (va_A [] sz) (fun u : Nat → Nat => [])) (va_A [] sz)) 0 0 (va_A [] sz) := by
  refine z_met (Qc := fun A => (va_Qi (fun (r : Int32) (_ : Nat → Nat) => r = 0) (zB K A (fun u : Nat → Nat => [])) A)) (by decide +kernel) (Nat.le_of_ble_eq_true rfl) ?_
  intro p e s m args below meth c A ls H hx hb hr hg hown hlocks hml hin hK hP hD hA hS hZ hl
  have hown : s.vm.findClass RX12 = some m.cls := hown
  have hl : lv_has ls 3 [(0, .int x0), (1, .int 0), (2, .int (-1))] := hl
  refine lv_iload_n hx hb dX12_isIn_0 rfl (lv_at hl 0 rfl) ?_
  refine lv_iload_n hx hb dX12_isIn_1 rfl (lv_at hl 1 rfl) ?_
  refine lv_icmp_lt (tgt := 14) hx hb dX12_isIn_2 (by decide) (fun _ => ?_) (fun c => absurd e0 c)
  refine lv_iconst (v := 0) hx hb dX12_isIn_14 (by decide) ?_
  have hP9 : va_P K.1 classes [] H := hP.sub [] rfl
  have hD9 : va_D A [] := hD.sub [] (by decide) rfl
  exact z_zret hx hb hr rfl (fun _ => 0) rfl hP9 hD9 hS (Nat.le_of_ble_eq_true rfl) (Nat.le_of_ble_eq_true rfl) hlocks dX12_isIn_15
set_option maxHeartbeats 4000000 in
set_option maxRecDepth 100000 in
theorem cX12_isNode_1 (l : Launch) (K : zK) (sz : Nat) (a0 : Nat) (g0 : Nat → Value) (x0 : Int32) (e0 : g0 0 = (.int 0)) (e1 : x0 < (0 : Int32)) : Met l yX12_isNode (Cond.code yX12_isNode cX12_isNode 2 (some .boolean) :: WG) { frames := 1, cells := 0, slots := 0, locals := 22 } (zPre K [(a0, zO 10 83 g0)] sz [.ref a0, .int x0]) (va_Qi (fun (r : Int32) (_ : Nat → Nat) => r = 0) (zB K (va_A [(a0, zO 10 83 g0)] sz) (fun u : Nat → Nat => [(a0, zO 10 83 g0)])) (va_A [(a0, zO 10 83 g0)] sz)) 0 0 (va_A [(a0, zO 10 83 g0)] sz) := by
  refine z_met (Qc := fun A => (va_Qi (fun (r : Int32) (_ : Nat → Nat) => r = 0) (zB K A (fun u : Nat → Nat => [(a0, zO 10 83 g0)])) A)) (by decide +kernel) (Nat.le_of_ble_eq_true rfl) ?_
  intro p e s m args below meth c A ls H hx hb hr hg hown hlocks hml hin hK hP hD hA hS hZ hl
  have hown : s.vm.findClass RX12 = some m.cls := hown
  have hl : lv_has ls 2 [(0, .ref a0), (1, .int x0)] := hl
  refine lv_iload_n hx hb dX12_isNode_0 rfl (lv_at hl 1 rfl) ?_
  refine lv_iconst (v := 0) hx hb dX12_isNode_1 (by decide) ?_
  refine lv_aload_n hx hb dX12_isNode_2 rfl (lv_at hl 0 rfl) ?_
  refine z_get (v := .int 0) hx hb hg hown hK hP i_X12 rfl 0 rfl 0 (by decide) mt1280 e0 dX12_isNode_3 ?_
  refine lv_iconst (v := 1) hx hb dX12_isNode_6 (by decide) ?_
  refine lv_isub hx hb dX12_isNode_7 ?_
  refine z_cst (v := (-1)) (by decide +kernel) ?_
  refine z_calli [] [(a0, zO 10 83 g0)] [] [0] hP hD hS hA rfl rfl (by decide) (by decide) (by decide +kernel) 0 0 rfl rfl (fun hPc hDc hF => z_runS (As := [.int x0, .int 0, .int (-1)]) (rest := []) ⟨hx, hb, hml, hown, hg⟩ (cX12_isIn_7 l K H.size x0 e1) kS_RX12_175 hd_X12_isIn rfl rfl ⟨(Nat.le_of_ble_eq_true rfl), (Nat.le_of_ble_eq_true rfl)⟩ hK hS hZ hPc hDc hF rfl hl.1 rfl (Nat.le_of_ble_eq_true rfl) dX12_isNode_8 ⟨(Nat.le_of_ble_eq_true rfl), (Nat.le_of_ble_eq_true rfl)⟩) (fun r3 u1 H locs w2 hP hD hS => ?_)
  subst w2
  have hP : va_P K.1 classes [(a0, zO 10 83 g0)] H := hP
  have hD : va_D A [(a0, zO 10 83 g0)] := hD
  have hP9 : va_P K.1 classes [(a0, zO 10 83 g0)] H := hP.sub [0] rfl
  have hD9 : va_D A [(a0, zO 10 83 g0)] := hD.sub [0] (by decide) rfl
  exact z_zret hx hb hr rfl (fun _ => 0) rfl hP9 hD9 hS (Nat.le_of_ble_eq_true rfl) (Nat.le_of_ble_eq_true rfl) hlocks dX12_isNode_11
set_option maxHeartbeats 4000000 in
set_option maxRecDepth 100000 in
theorem cX12_mayTell_1 (l : Launch) (K : zK) (sz : Nat) (a0 : Nat) (g0 : Nat → Value) : Met l yX12_mayTell (Cond.code yX12_mayTell cX12_mayTell 3 (some .boolean) :: WG) { frames := 1, cells := 0, slots := 0, locals := 21 } (zPre K [(a0, zO 10 83 g0)] sz [.ref a0, .int 0, .int 0]) (va_Qi (fun (r : Int32) (_ : Nat → Nat) => r = 0) (zB K (va_A [(a0, zO 10 83 g0)] sz) (fun u : Nat → Nat => [(a0, zO 10 83 (va_up g0 81 (.int 1)))])) (va_A [(a0, zO 10 83 g0)] sz)) 0 0 (va_A [(a0, zO 10 83 g0)] sz) := by
  refine z_met (Qc := fun A => (va_Qi (fun (r : Int32) (_ : Nat → Nat) => r = 0) (zB K A (fun u : Nat → Nat => [(a0, zO 10 83 (va_up g0 81 (.int 1)))])) A)) (by decide +kernel) (Nat.le_of_ble_eq_true rfl) ?_
  intro p e s m args below meth c A ls H hx hb hr hg hown hlocks hml hin hK hP hD hA hS hZ hl
  have hown : s.vm.findClass RX12 = some m.cls := hown
  have hl : lv_has ls 3 [(0, .ref a0), (1, .int 0), (2, .int 0)] := hl
  refine lv_aload_n hx hb dX12_mayTell_0 rfl (lv_at hl 0 rfl) ?_
  refine lv_iload_n hx hb dX12_mayTell_1 rfl (lv_at hl 1 rfl) ?_
  refine lv_if_ne (tgt := 9) hx hb dX12_mayTell_2 (by decide) (fun c => absurd (by decide) c) (fun _ => ?_)
  refine lv_iconst (v := 1) hx hb dX12_mayTell_5 (by decide) ?_
  refine lv_goto (tgt := 32) hx hb dX12_mayTell_6 (by decide) ?_
  refine z_calli [(a0, zO 10 83 g0)] [] [0] [] hP hD hS hA rfl rfl (by decide) (by decide) (by decide +kernel) 0 0 rfl rfl (fun hPc hDc hF => z_runV (As := [.int 1]) (rest := []) ⟨hx, hb, hml, hown, hg⟩ (cX12_can_2 l K H.size a0 g0) kV_RX12_182 hd_X12_can rfl rfl ⟨(Nat.le_of_ble_eq_true rfl), (Nat.le_of_ble_eq_true rfl)⟩ hK hS hZ hPc hDc hF 0 rfl rfl rfl hl.1 rfl (Nat.le_of_ble_eq_true rfl) dX12_mayTell_32 ⟨(Nat.le_of_ble_eq_true rfl), (Nat.le_of_ble_eq_true rfl)⟩) (fun r3 u1 H locs w2 hP hD hS => ?_)
  subst w2
  have hP : va_P K.1 classes [(a0, zO 10 83 (va_up g0 81 (.int 1)))] H := hP
  have hD : va_D A [(a0, zO 10 83 (va_up g0 81 (.int 1)))] := hD
  have hP9 : va_P K.1 classes [(a0, zO 10 83 (va_up g0 81 (.int 1)))] H := hP.sub [0] rfl
  have hD9 : va_D A [(a0, zO 10 83 (va_up g0 81 (.int 1)))] := hD.sub [0] (by decide) rfl
  exact z_zret hx hb hr rfl (fun _ => 0) rfl hP9 hD9 hS (Nat.le_of_ble_eq_true rfl) (Nat.le_of_ble_eq_true rfl) hlocks dX12_mayTell_35
set_option maxHeartbeats 4000000 in
set_option maxRecDepth 100000 in
theorem cX12_lam_1 (l : Launch) (K : zK) (sz : Nat) (a0 : Nat) (g0 : Nat → Value) (x0 : Int32) (x1 : Int32) (e0 : g0 0 = (.int 0)) (e1 : x1 < (0 : Int32)) (e2 : x0 < (0 : Int32)) : Met l yX12_lam (Cond.code yX12_lam cX12_lam 3 (some .int) :: WG) { frames := 2, cells := 0, slots := 0, locals := 43 } (zPre K [(a0, zO 10 83 g0)] sz [.ref a0, .int x0, .int x1]) (va_Qi (fun (r : Int32) (_ : Nat → Nat) => r = 0) (zB K (va_A [(a0, zO 10 83 g0)] sz) (fun u : Nat → Nat => [(a0, zO 10 83 (va_up g0 81 (.int 1)))])) (va_A [(a0, zO 10 83 g0)] sz)) 0 0 (va_A [(a0, zO 10 83 g0)] sz) := by
  refine z_met (Qc := fun A => (va_Qi (fun (r : Int32) (_ : Nat → Nat) => r = 0) (zB K A (fun u : Nat → Nat => [(a0, zO 10 83 (va_up g0 81 (.int 1)))])) A)) (by decide +kernel) (Nat.le_of_ble_eq_true rfl) ?_
  intro p e s m args below meth c A ls H hx hb hr hg hown hlocks hml hin hK hP hD hA hS hZ hl
  have hown : s.vm.findClass RX12 = some m.cls := hown
  have hl : lv_has ls 3 [(0, .ref a0), (1, .int x0), (2, .int x1)] := hl
  refine lv_aload_n hx hb dX12_lam_0 rfl (lv_at hl 0 rfl) ?_
  refine lv_aload_n hx hb dX12_lam_1 rfl (lv_at hl 0 rfl) ?_
  refine lv_iload_n hx hb dX12_lam_2 rfl (lv_at hl 2 rfl) ?_
  refine z_calli [(a0, zO 10 83 g0)] [] [0] [] hP hD hS hA rfl rfl (by decide) (by decide) (by decide +kernel) 0 0 rfl rfl (fun hPc hDc hF => z_runV (As := [.int x1]) (rest := [.ref a0]) ⟨hx, hb, hml, hown, hg⟩ (cX12_isNode_1 l K H.size a0 g0 x1 e0 e1) kV_RX12_200 hd_X12_isNode rfl rfl ⟨(Nat.le_of_ble_eq_true rfl), (Nat.le_of_ble_eq_true rfl)⟩ hK hS hZ hPc hDc hF 0 rfl rfl rfl hl.1 rfl (Nat.le_of_ble_eq_true rfl) dX12_lam_3 ⟨(Nat.le_of_ble_eq_true rfl), (Nat.le_of_ble_eq_true rfl)⟩) (fun r3 u1 H locs w2 hP hD hS => ?_)
  subst w2
  have hP : va_P K.1 classes [(a0, zO 10 83 g0)] H := hP
  have hD : va_D A [(a0, zO 10 83 g0)] := hD
  refine lv_iload_n hx hb dX12_lam_6 rfl (lv_at hl 1 rfl) ?_
  refine z_calli [] [(a0, zO 10 83 g0)] [] [0] hP hD hS hA rfl rfl (by decide) (by decide) (by decide +kernel) 0 0 rfl rfl (fun hPc hDc hF => z_runS (As := [.int x0]) (rest := [.int 0, .ref a0]) ⟨hx, hb, hml, hown, hg⟩ (cX12_isName_1 l K H.size x0 e2) kS_RX12_190 hd_X12_isName rfl rfl ⟨(Nat.le_of_ble_eq_true rfl), (Nat.le_of_ble_eq_true rfl)⟩ hK hS hZ hPc hDc hF rfl hl.1 rfl (Nat.le_of_ble_eq_true rfl) dX12_lam_7 ⟨(Nat.le_of_ble_eq_true rfl), (Nat.le_of_ble_eq_true rfl)⟩) (fun r6 u4 H locs w5 hP hD hS => ?_)
  subst w5
  have hP : va_P K.1 classes [(a0, zO 10 83 g0)] H := hP
  have hD : va_D A [(a0, zO 10 83 g0)] := hD
  refine z_calli [(a0, zO 10 83 g0)] [] [0] [] hP hD hS hA rfl rfl (by decide) (by decide) (by decide +kernel) 0 0 rfl rfl (fun hPc hDc hF => z_runV (As := [.int 0, .int 0]) (rest := []) ⟨hx, hb, hml, hown, hg⟩ (cX12_mayTell_1 l K H.size a0 g0) kV_RX12_203 hd_X12_mayTell rfl rfl ⟨(Nat.le_of_ble_eq_true rfl), (Nat.le_of_ble_eq_true rfl)⟩ hK hS hZ hPc hDc hF 0 rfl rfl rfl hl.1 rfl (Nat.le_of_ble_eq_true rfl) dX12_lam_10 ⟨(Nat.le_of_ble_eq_true rfl), (Nat.le_of_ble_eq_true rfl)⟩) (fun r9 u7 H locs w8 hP hD hS => ?_)
  subst w8
  have hP : va_P K.1 classes [(a0, zO 10 83 (va_up g0 81 (.int 1)))] H := hP
  have hD : va_D A [(a0, zO 10 83 (va_up g0 81 (.int 1)))] := hD
  refine lv_if_eq (tgt := 29) hx hb dX12_lam_13 (by decide) (fun _ => ?_) (fun c => absurd (by decide) c)
  refine lv_iconst (v := 0) hx hb dX12_lam_29 (by decide) ?_
  have hP9 : va_P K.1 classes [(a0, zO 10 83 (va_up g0 81 (.int 1)))] H := hP.sub [0] rfl
  have hD9 : va_D A [(a0, zO 10 83 (va_up g0 81 (.int 1)))] := hD.sub [0] (by decide) rfl
  exact z_iret hx hb hr (fun _ => 0) rfl hP9 hD9 hS (Nat.le_of_ble_eq_true rfl) (Nat.le_of_ble_eq_true rfl) hlocks dX12_lam_30
set_option maxHeartbeats 4000000 in
set_option maxRecDepth 100000 in
theorem cX11_lam_2 (l : Launch) (hl9 : l.stackTraces = false) (K : zK) (sz : Nat) (a0 : Nat) (a1 : Nat) (g0 : Nat → Value) (g1 : Nat → Value) (j0 : Nat) (hj0 : j0 < 16) (x1 : Int32) (e0 : g0 0 = (.ref a1)) (e1 : x1 < (0 : Int32)) : vx_Met l yX11_lam (Cond.code yX11_lam cX11_lam 3 (some .int) :: WG) { frames := 7, cells := 1, slots := 6, locals := 103 } (zPre K [(a0, zO 9 9 g0), (a1, zO 7 6 g1)] sz [.ref a0, .int (nI j0), .int x1]) (va_Qv (fun _ : Unit => False) (fun _ _ => True) (va_A [(a0, zO 9 9 g0), (a1, zO 7 6 g1)] sz)) (zX (va_A [(a0, zO 9 9 g0), (a1, zO 7 6 g1)] sz) zIB) 1 6 (va_A [(a0, zO 9 9 g0), (a1, zO 7 6 g1)] sz) := by
  refine z_xmet (Qc := fun A => va_Qv (fun _ : Unit => False) (fun _ _ => True) A) (XC := fun A => zX A zIB) (by decide +kernel) (Nat.le_of_ble_eq_true rfl) ?_
  intro p e s m args below meth c A ls H hx hb hr hg hown hlocks hml hno hK hP hD hA hS hZ hl
  have hown : s.vm.findClass RX11 = some m.cls := hown
  have hl : lv_has ls 3 [(0, .ref a0), (1, .int (nI j0)), (2, .int x1)] := hl
  refine lv_aload_n hx hb dX11_lam_0 rfl (lv_at hl 0 rfl) ?_
  refine lv_iload_n hx hb dX11_lam_1 rfl (lv_at hl 2 rfl) ?_
  refine z_xcall (EX := zIB) [(a0, zO 9 9 g0), (a1, zO 7 6 g1)] [0, 1] hP hD hS hA rfl (by decide) 1 6 rfl rfl (fun hPc hDc hF => z_xrunV (As := [.int x1]) (rest := []) ⟨hx, hb, hml, hown, hg⟩ (cX11_checkTold_1 l hl9 K H.size a0 a1 g0 g1 x1 e0 e1) kV_RX11_76 hd_X11_checkTold rfl rfl ⟨(Nat.le_of_ble_eq_true rfl), (Nat.le_of_ble_eq_true rfl)⟩ hK hS hZ hPc hDc hF 0 rfl rfl rfl hl.1 rfl (Nat.le_of_ble_eq_true rfl) dX11_lam_2 ⟨(Nat.le_of_ble_eq_true rfl), (Nat.le_of_ble_eq_true rfl)⟩) (fun ce q9 H locs hS hce hcv hcl => ?_)
  exact z_xout hno hlocks hS hce hcv hcl (Nat.le_of_ble_eq_true rfl) (Nat.le_of_ble_eq_true rfl)
set_option maxHeartbeats 4000000 in
set_option maxRecDepth 100000 in
theorem cL_lam_2 (l : Launch) (hl9 : l.stackTraces = false) (K : zK) (sz : Nat) (a0 : Nat) (a1 : Nat) (a2 : Nat) (g0 : Nat → Value) (g2 : Nat → Value) (j0 : Nat) (hj0 : j0 < 16) (x1 : Int32) (e0 : g0 0 = (.ref a2)) (e1 : x1 < (0 : Int32)) : vx_Met l yL_lam (Cond.codeWith yL_lam cL_lam 5 (some .int) [(0, 10, 13, 27), (0, 10, 17, 18), (0, 10, 21, 13)] :: WG) { frames := 8, cells := 1, slots := 6, locals := 125 } (zPre K [(a0, zO 9 9 g0), (a2, zO 7 6 g2)] sz [.ref a0, .int (nI j0), .int x1, .ref a1]) (va_Qi (fun (r : Int32) (_ : Nat → Nat) => r = 1) (zB K (va_A [(a0, zO 9 9 g0), (a2, zO 7 6 g2)] sz) (fun u : Nat → Nat => [])) (va_A [(a0, zO 9 9 g0), (a2, zO 7 6 g2)] sz)) (vx_X (fun _ : Unit => False) (fun _ _ _ => True) (va_A [(a0, zO 9 9 g0), (a2, zO 7 6 g2)] sz)) 1 6 (va_A [(a0, zO 9 9 g0), (a2, zO 7 6 g2)] sz) := by
  refine z_hmet (Qc := fun A => (va_Qi (fun (r : Int32) (_ : Nat → Nat) => r = 1) (zB K A (fun u : Nat → Nat => [])) A)) (XC := fun A => vx_X (fun _ : Unit => False) (fun _ _ _ => True) A) (by decide +kernel) (Nat.le_of_ble_eq_true rfl) ?_
  intro p e s m args below meth c A ls H hx hb hr hg hown hlocks hml hTab hK hP hD hA hS hZ hl
  have hown : s.vm.findClass RL = some m.cls := hown
  have hl : lv_has ls 5 [(0, .ref a0), (1, .int (nI j0)), (2, .int x1), (3, .ref a1)] := hl
  refine lv_aload_n hx hb dL_lam_0 rfl (lv_at hl 3 rfl) ?_
  refine lv_iconst (v := 0) hx hb dL_lam_1 (by decide) ?_
  refine lv_aload_n hx hb dL_lam_2 rfl (lv_at hl 0 rfl) ?_
  refine lv_iload_n hx hb dL_lam_3 rfl (lv_at hl 1 rfl) ?_
  refine lv_iload_n hx hb dL_lam_4 rfl (lv_at hl 2 rfl) ?_
  refine z_xcall (EX := zIB) [(a0, zO 9 9 g0), (a2, zO 7 6 g2)] [0, 1] hP hD hS hA rfl (by decide) 1 6 rfl rfl (fun hPc hDc hF => z_xrunV (As := [.int (nI j0), .int x1]) (rest := [.int 0, .ref a1]) ⟨hx, hb, hml, hown, hg⟩ (cX11_lam_2 l hl9 K H.size a0 a2 g0 g2 j0 hj0 x1 e0 e1) kV_RL_23 hd_X11_lam rfl rfl ⟨(Nat.le_of_ble_eq_true rfl), (Nat.le_of_ble_eq_true rfl)⟩ hK hS hZ hPc hDc hF 0 rfl rfl rfl hl.1 rfl (Nat.le_of_ble_eq_true rfl) dL_lam_5 ⟨(Nat.le_of_ble_eq_true rfl), (Nat.le_of_ble_eq_true rfl)⟩) (fun ce q9 H locs hS hce hcv hcl => ?_)
  refine vx_catch (own := RL) (name := zIB) (E := zIB) hown [] ⟨0, 10, 13, 27⟩ [⟨0, 10, 17, 18⟩, ⟨0, 10, 21, 13⟩] (by rw [hTab]; rfl) (fun z hz => nomatch hz) (by decide) (by decide) (hg _ mt526) (va_Nw.use rfl hZ.1.1.2.2.2.1) hce hcv hcl ?_
  have hP : va_P K.1 classes [] H := z_P0
  have hD : va_D A [] := z_D0
  refine lv_astore (lv' := [(4, .ref q9), (0, .ref a0), (1, .int (nI j0)), (2, .int x1), (3, .ref a1)]) hx hb dL_lam_13 hl (by decide) rfl (fun ls hl => ?_)
  refine lv_iconst (v := 1) hx hb dL_lam_15 (by decide) ?_
  have hP9 : va_P K.1 classes [] H := hP.sub [] rfl
  have hD9 : va_D A [] := hD.sub [] (by decide) rfl
  exact z_iret hx hb hr (fun _ => 0) rfl hP9 hD9 hS (Nat.le_of_ble_eq_true rfl) (Nat.le_of_ble_eq_true rfl) hlocks dL_lam_16
set_option maxHeartbeats 4000000 in
set_option maxRecDepth 100000 in
theorem cX12_mayTell_2 (l : Launch) (K : zK) (sz : Nat) (a0 : Nat) (g0 : Nat → Value) : Met l yX12_mayTell (Cond.code yX12_mayTell cX12_mayTell 3 (some .boolean) :: WG) { frames := 1, cells := 0, slots := 0, locals := 21 } (zPre K [(a0, zO 10 83 g0)] sz [.ref a0, .int 0, .int 1]) (va_Qi (fun (r : Int32) (_ : Nat → Nat) => r = 0) (zB K (va_A [(a0, zO 10 83 g0)] sz) (fun u : Nat → Nat => [(a0, zO 10 83 (va_up g0 81 (.int 1)))])) (va_A [(a0, zO 10 83 g0)] sz)) 0 0 (va_A [(a0, zO 10 83 g0)] sz) := by
  refine z_met (Qc := fun A => (va_Qi (fun (r : Int32) (_ : Nat → Nat) => r = 0) (zB K A (fun u : Nat → Nat => [(a0, zO 10 83 (va_up g0 81 (.int 1)))])) A)) (by decide +kernel) (Nat.le_of_ble_eq_true rfl) ?_
  intro p e s m args below meth c A ls H hx hb hr hg hown hlocks hml hin hK hP hD hA hS hZ hl
  have hown : s.vm.findClass RX12 = some m.cls := hown
  have hl : lv_has ls 3 [(0, .ref a0), (1, .int 0), (2, .int 1)] := hl
  refine lv_aload_n hx hb dX12_mayTell_0 rfl (lv_at hl 0 rfl) ?_
  refine lv_iload_n hx hb dX12_mayTell_1 rfl (lv_at hl 1 rfl) ?_
  refine lv_if_ne (tgt := 9) hx hb dX12_mayTell_2 (by decide) (fun c => absurd (by decide) c) (fun _ => ?_)
  refine lv_iconst (v := 1) hx hb dX12_mayTell_5 (by decide) ?_
  refine lv_goto (tgt := 32) hx hb dX12_mayTell_6 (by decide) ?_
  refine z_calli [(a0, zO 10 83 g0)] [] [0] [] hP hD hS hA rfl rfl (by decide) (by decide) (by decide +kernel) 0 0 rfl rfl (fun hPc hDc hF => z_runV (As := [.int 1]) (rest := []) ⟨hx, hb, hml, hown, hg⟩ (cX12_can_2 l K H.size a0 g0) kV_RX12_182 hd_X12_can rfl rfl ⟨(Nat.le_of_ble_eq_true rfl), (Nat.le_of_ble_eq_true rfl)⟩ hK hS hZ hPc hDc hF 0 rfl rfl rfl hl.1 rfl (Nat.le_of_ble_eq_true rfl) dX12_mayTell_32 ⟨(Nat.le_of_ble_eq_true rfl), (Nat.le_of_ble_eq_true rfl)⟩) (fun r3 u1 H locs w2 hP hD hS => ?_)
  subst w2
  have hP : va_P K.1 classes [(a0, zO 10 83 (va_up g0 81 (.int 1)))] H := hP
  have hD : va_D A [(a0, zO 10 83 (va_up g0 81 (.int 1)))] := hD
  have hP9 : va_P K.1 classes [(a0, zO 10 83 (va_up g0 81 (.int 1)))] H := hP.sub [0] rfl
  have hD9 : va_D A [(a0, zO 10 83 (va_up g0 81 (.int 1)))] := hD.sub [0] (by decide) rfl
  exact z_zret hx hb hr rfl (fun _ => 0) rfl hP9 hD9 hS (Nat.le_of_ble_eq_true rfl) (Nat.le_of_ble_eq_true rfl) hlocks dX12_mayTell_35
set_option maxHeartbeats 4000000 in
set_option maxRecDepth 100000 in
theorem cX12_lam_2 (l : Launch) (K : zK) (sz : Nat) (a0 : Nat) (g0 : Nat → Value) (j0 : Nat) (hj0 : j0 < 16) (x1 : Int32) (e0 : g0 0 = (.int 0)) (e1 : x1 < (0 : Int32)) : Met l yX12_lam (Cond.code yX12_lam cX12_lam 3 (some .int) :: WG) { frames := 2, cells := 0, slots := 0, locals := 43 } (zPre K [(a0, zO 10 83 g0)] sz [.ref a0, .int (nI j0), .int x1]) (va_Qi (fun (r : Int32) (_ : Nat → Nat) => r = 0) (zB K (va_A [(a0, zO 10 83 g0)] sz) (fun u : Nat → Nat => [(a0, zO 10 83 (va_up g0 81 (.int 1)))])) (va_A [(a0, zO 10 83 g0)] sz)) 0 0 (va_A [(a0, zO 10 83 g0)] sz) := by
  refine z_met (Qc := fun A => (va_Qi (fun (r : Int32) (_ : Nat → Nat) => r = 0) (zB K A (fun u : Nat → Nat => [(a0, zO 10 83 (va_up g0 81 (.int 1)))])) A)) (by decide +kernel) (Nat.le_of_ble_eq_true rfl) ?_
  intro p e s m args below meth c A ls H hx hb hr hg hown hlocks hml hin hK hP hD hA hS hZ hl
  have hown : s.vm.findClass RX12 = some m.cls := hown
  have hl : lv_has ls 3 [(0, .ref a0), (1, .int (nI j0)), (2, .int x1)] := hl
  refine lv_aload_n hx hb dX12_lam_0 rfl (lv_at hl 0 rfl) ?_
  refine lv_aload_n hx hb dX12_lam_1 rfl (lv_at hl 0 rfl) ?_
  refine lv_iload_n hx hb dX12_lam_2 rfl (lv_at hl 2 rfl) ?_
  refine z_calli [(a0, zO 10 83 g0)] [] [0] [] hP hD hS hA rfl rfl (by decide) (by decide) (by decide +kernel) 0 0 rfl rfl (fun hPc hDc hF => z_runV (As := [.int x1]) (rest := [.ref a0]) ⟨hx, hb, hml, hown, hg⟩ (cX12_isNode_1 l K H.size a0 g0 x1 e0 e1) kV_RX12_200 hd_X12_isNode rfl rfl ⟨(Nat.le_of_ble_eq_true rfl), (Nat.le_of_ble_eq_true rfl)⟩ hK hS hZ hPc hDc hF 0 rfl rfl rfl hl.1 rfl (Nat.le_of_ble_eq_true rfl) dX12_lam_3 ⟨(Nat.le_of_ble_eq_true rfl), (Nat.le_of_ble_eq_true rfl)⟩) (fun r3 u1 H locs w2 hP hD hS => ?_)
  subst w2
  have hP : va_P K.1 classes [(a0, zO 10 83 g0)] H := hP
  have hD : va_D A [(a0, zO 10 83 g0)] := hD
  refine lv_iload_n hx hb dX12_lam_6 rfl (lv_at hl 1 rfl) ?_
  refine z_calli [] [(a0, zO 10 83 g0)] [] [0] hP hD hS hA rfl rfl (by decide) (by decide) (by decide +kernel) 0 0 rfl rfl (fun hPc hDc hF => z_runS (As := [.int (nI j0)]) (rest := [.int 0, .ref a0]) ⟨hx, hb, hml, hown, hg⟩ (cX12_isName_2 l K H.size j0 hj0) kS_RX12_190 hd_X12_isName rfl rfl ⟨(Nat.le_of_ble_eq_true rfl), (Nat.le_of_ble_eq_true rfl)⟩ hK hS hZ hPc hDc hF rfl hl.1 rfl (Nat.le_of_ble_eq_true rfl) dX12_lam_7 ⟨(Nat.le_of_ble_eq_true rfl), (Nat.le_of_ble_eq_true rfl)⟩) (fun r6 u4 H locs w5 hP hD hS => ?_)
  subst w5
  have hP : va_P K.1 classes [(a0, zO 10 83 g0)] H := hP
  have hD : va_D A [(a0, zO 10 83 g0)] := hD
  refine z_calli [(a0, zO 10 83 g0)] [] [0] [] hP hD hS hA rfl rfl (by decide) (by decide) (by decide +kernel) 0 0 rfl rfl (fun hPc hDc hF => z_runV (As := [.int 0, .int 1]) (rest := []) ⟨hx, hb, hml, hown, hg⟩ (cX12_mayTell_2 l K H.size a0 g0) kV_RX12_203 hd_X12_mayTell rfl rfl ⟨(Nat.le_of_ble_eq_true rfl), (Nat.le_of_ble_eq_true rfl)⟩ hK hS hZ hPc hDc hF 0 rfl rfl rfl hl.1 rfl (Nat.le_of_ble_eq_true rfl) dX12_lam_10 ⟨(Nat.le_of_ble_eq_true rfl), (Nat.le_of_ble_eq_true rfl)⟩) (fun r9 u7 H locs w8 hP hD hS => ?_)
  subst w8
  have hP : va_P K.1 classes [(a0, zO 10 83 (va_up g0 81 (.int 1)))] H := hP
  have hD : va_D A [(a0, zO 10 83 (va_up g0 81 (.int 1)))] := hD
  refine lv_if_eq (tgt := 29) hx hb dX12_lam_13 (by decide) (fun _ => ?_) (fun c => absurd (by decide) c)
  refine lv_iconst (v := 0) hx hb dX12_lam_29 (by decide) ?_
  have hP9 : va_P K.1 classes [(a0, zO 10 83 (va_up g0 81 (.int 1)))] H := hP.sub [0] rfl
  have hD9 : va_D A [(a0, zO 10 83 (va_up g0 81 (.int 1)))] := hD.sub [0] (by decide) rfl
  exact z_iret hx hb hr (fun _ => 0) rfl hP9 hD9 hS (Nat.le_of_ble_eq_true rfl) (Nat.le_of_ble_eq_true rfl) hlocks dX12_lam_30
set_option maxHeartbeats 4000000 in
set_option maxRecDepth 100000 in
theorem cX12_lam_3 (l : Launch) (K : zK) (sz : Nat) (a0 : Nat) (g0 : Nat → Value) (x0 : Int32) (x1 : Int32) (e0 : g0 0 = (.int 0)) (e1 : x1 < (0 : Int32)) (e2 : ¬ x0 < (0 : Int32)) (e3 : (15 : Int32) < x0) : Met l yX12_lam (Cond.code yX12_lam cX12_lam 3 (some .int) :: WG) { frames := 2, cells := 0, slots := 0, locals := 43 } (zPre K [(a0, zO 10 83 g0)] sz [.ref a0, .int x0, .int x1]) (va_Qi (fun (r : Int32) (_ : Nat → Nat) => r = 0) (zB K (va_A [(a0, zO 10 83 g0)] sz) (fun u : Nat → Nat => [(a0, zO 10 83 (va_up g0 81 (.int 1)))])) (va_A [(a0, zO 10 83 g0)] sz)) 0 0 (va_A [(a0, zO 10 83 g0)] sz) := by
  refine z_met (Qc := fun A => (va_Qi (fun (r : Int32) (_ : Nat → Nat) => r = 0) (zB K A (fun u : Nat → Nat => [(a0, zO 10 83 (va_up g0 81 (.int 1)))])) A)) (by decide +kernel) (Nat.le_of_ble_eq_true rfl) ?_
  intro p e s m args below meth c A ls H hx hb hr hg hown hlocks hml hin hK hP hD hA hS hZ hl
  have hown : s.vm.findClass RX12 = some m.cls := hown
  have hl : lv_has ls 3 [(0, .ref a0), (1, .int x0), (2, .int x1)] := hl
  refine lv_aload_n hx hb dX12_lam_0 rfl (lv_at hl 0 rfl) ?_
  refine lv_aload_n hx hb dX12_lam_1 rfl (lv_at hl 0 rfl) ?_
  refine lv_iload_n hx hb dX12_lam_2 rfl (lv_at hl 2 rfl) ?_
  refine z_calli [(a0, zO 10 83 g0)] [] [0] [] hP hD hS hA rfl rfl (by decide) (by decide) (by decide +kernel) 0 0 rfl rfl (fun hPc hDc hF => z_runV (As := [.int x1]) (rest := [.ref a0]) ⟨hx, hb, hml, hown, hg⟩ (cX12_isNode_1 l K H.size a0 g0 x1 e0 e1) kV_RX12_200 hd_X12_isNode rfl rfl ⟨(Nat.le_of_ble_eq_true rfl), (Nat.le_of_ble_eq_true rfl)⟩ hK hS hZ hPc hDc hF 0 rfl rfl rfl hl.1 rfl (Nat.le_of_ble_eq_true rfl) dX12_lam_3 ⟨(Nat.le_of_ble_eq_true rfl), (Nat.le_of_ble_eq_true rfl)⟩) (fun r3 u1 H locs w2 hP hD hS => ?_)
  subst w2
  have hP : va_P K.1 classes [(a0, zO 10 83 g0)] H := hP
  have hD : va_D A [(a0, zO 10 83 g0)] := hD
  refine lv_iload_n hx hb dX12_lam_6 rfl (lv_at hl 1 rfl) ?_
  refine z_calli [] [(a0, zO 10 83 g0)] [] [0] hP hD hS hA rfl rfl (by decide) (by decide) (by decide +kernel) 0 0 rfl rfl (fun hPc hDc hF => z_runS (As := [.int x0]) (rest := [.int 0, .ref a0]) ⟨hx, hb, hml, hown, hg⟩ (cX12_isName_3 l K H.size x0 e2 e3) kS_RX12_190 hd_X12_isName rfl rfl ⟨(Nat.le_of_ble_eq_true rfl), (Nat.le_of_ble_eq_true rfl)⟩ hK hS hZ hPc hDc hF rfl hl.1 rfl (Nat.le_of_ble_eq_true rfl) dX12_lam_7 ⟨(Nat.le_of_ble_eq_true rfl), (Nat.le_of_ble_eq_true rfl)⟩) (fun r6 u4 H locs w5 hP hD hS => ?_)
  subst w5
  have hP : va_P K.1 classes [(a0, zO 10 83 g0)] H := hP
  have hD : va_D A [(a0, zO 10 83 g0)] := hD
  refine z_calli [(a0, zO 10 83 g0)] [] [0] [] hP hD hS hA rfl rfl (by decide) (by decide) (by decide +kernel) 0 0 rfl rfl (fun hPc hDc hF => z_runV (As := [.int 0, .int 0]) (rest := []) ⟨hx, hb, hml, hown, hg⟩ (cX12_mayTell_1 l K H.size a0 g0) kV_RX12_203 hd_X12_mayTell rfl rfl ⟨(Nat.le_of_ble_eq_true rfl), (Nat.le_of_ble_eq_true rfl)⟩ hK hS hZ hPc hDc hF 0 rfl rfl rfl hl.1 rfl (Nat.le_of_ble_eq_true rfl) dX12_lam_10 ⟨(Nat.le_of_ble_eq_true rfl), (Nat.le_of_ble_eq_true rfl)⟩) (fun r9 u7 H locs w8 hP hD hS => ?_)
  subst w8
  have hP : va_P K.1 classes [(a0, zO 10 83 (va_up g0 81 (.int 1)))] H := hP
  have hD : va_D A [(a0, zO 10 83 (va_up g0 81 (.int 1)))] := hD
  refine lv_if_eq (tgt := 29) hx hb dX12_lam_13 (by decide) (fun _ => ?_) (fun c => absurd (by decide) c)
  refine lv_iconst (v := 0) hx hb dX12_lam_29 (by decide) ?_
  have hP9 : va_P K.1 classes [(a0, zO 10 83 (va_up g0 81 (.int 1)))] H := hP.sub [0] rfl
  have hD9 : va_D A [(a0, zO 10 83 (va_up g0 81 (.int 1)))] := hD.sub [0] (by decide) rfl
  exact z_iret hx hb hr (fun _ => 0) rfl hP9 hD9 hS (Nat.le_of_ble_eq_true rfl) (Nat.le_of_ble_eq_true rfl) hlocks dX12_lam_30
set_option maxHeartbeats 4000000 in
set_option maxRecDepth 100000 in
theorem cX9_has_3 (l : Launch) (K : zK) (sz : Nat) (a0 : Nat) (g0 : Nat → Value) (x0 : Int32) (e0 : ¬ x0 < (0 : Int32)) (e1 : g0 5 = (.int 0)) (e2 : (0 : Int32) ≤ x0) : Met l yX9_has (Cond.code yX9_has cX9_has 2 (some .boolean) :: WG) { frames := 0, cells := 0, slots := 0, locals := 0 } (zPre K [(a0, zO 7 6 g0)] sz [.ref a0, .int x0]) (va_Qi (fun (r : Int32) (_ : Nat → Nat) => r = 0) (zB K (va_A [(a0, zO 7 6 g0)] sz) (fun u : Nat → Nat => [(a0, zO 7 6 g0)])) (va_A [(a0, zO 7 6 g0)] sz)) 0 0 (va_A [(a0, zO 7 6 g0)] sz) := by
  refine z_met (Qc := fun A => (va_Qi (fun (r : Int32) (_ : Nat → Nat) => r = 0) (zB K A (fun u : Nat → Nat => [(a0, zO 7 6 g0)])) A)) (by decide +kernel) (Nat.le_of_ble_eq_true rfl) ?_
  intro p e s m args below meth c A ls H hx hb hr hg hown hlocks hml hin hK hP hD hA hS hZ hl
  have hown : s.vm.findClass RX9 = some m.cls := hown
  have hl : lv_has ls 2 [(0, .ref a0), (1, .int x0)] := hl
  refine lv_iload_n hx hb dX9_has_0 rfl (lv_at hl 1 rfl) ?_
  refine lv_if_lt (tgt := 16) hx hb dX9_has_1 (by decide) (fun c => absurd c e0) (fun _ => ?_)
  refine lv_iload_n hx hb dX9_has_4 rfl (lv_at hl 1 rfl) ?_
  refine lv_aload_n hx hb dX9_has_5 rfl (lv_at hl 0 rfl) ?_
  refine z_get (v := .int 0) hx hb hg hown hK hP i_X9 rfl 0 rfl 5 (by decide) mt42 e1 dX9_has_6 ?_
  refine lv_icmp_ge (tgt := 16) hx hb dX9_has_9 (by decide) (fun _ => ?_) (fun c => absurd e2 c)
  refine lv_iconst (v := 0) hx hb dX9_has_16 (by decide) ?_
  have hP9 : va_P K.1 classes [(a0, zO 7 6 g0)] H := hP.sub [0] rfl
  have hD9 : va_D A [(a0, zO 7 6 g0)] := hD.sub [0] (by decide) rfl
  exact z_zret hx hb hr rfl (fun _ => 0) rfl hP9 hD9 hS (Nat.le_of_ble_eq_true rfl) (Nat.le_of_ble_eq_true rfl) hlocks dX9_has_17
set_option maxHeartbeats 4000000 in
set_option maxRecDepth 100000 in
theorem cX11_checkTold_2 (l : Launch) (hl9 : l.stackTraces = false) (K : zK) (sz : Nat) (a0 : Nat) (a1 : Nat) (g0 : Nat → Value) (g1 : Nat → Value) (x0 : Int32) (e0 : g0 0 = (.ref a1)) (e1 : ¬ x0 < (0 : Int32)) (e2 : g1 5 = (.int 0)) (e3 : (0 : Int32) ≤ x0) : vx_Met l yX11_checkTold (Cond.code yX11_checkTold cX11_checkTold 2 none :: WG) { frames := 6, cells := 1, slots := 6, locals := 82 } (zPre K [(a0, zO 9 9 g0), (a1, zO 7 6 g1)] sz [.ref a0, .int x0]) (va_Qv (fun _ : Unit => False) (fun _ _ => True) (va_A [(a0, zO 9 9 g0), (a1, zO 7 6 g1)] sz)) (zX (va_A [(a0, zO 9 9 g0), (a1, zO 7 6 g1)] sz) zIB) 1 6 (va_A [(a0, zO 9 9 g0), (a1, zO 7 6 g1)] sz) := by
  refine z_xmet (Qc := fun A => va_Qv (fun _ : Unit => False) (fun _ _ => True) A) (XC := fun A => zX A zIB) (by decide +kernel) (Nat.le_of_ble_eq_true rfl) ?_
  intro p e s m args below meth c A ls H hx hb hr hg hown hlocks hml hno hK hP hD hA hS hZ hl
  have hown : s.vm.findClass RX11 = some m.cls := hown
  have hl : lv_has ls 2 [(0, .ref a0), (1, .int x0)] := hl
  refine lv_aload_n hx hb dX11_checkTold_0 rfl (lv_at hl 0 rfl) ?_
  refine z_get (v := .ref a1) hx hb hg hown hK hP i_X11 rfl 0 rfl 0 (by decide) mt304 e0 dX11_checkTold_1 ?_
  refine lv_iload_n hx hb dX11_checkTold_4 rfl (lv_at hl 1 rfl) ?_
  refine z_calli [(a1, zO 7 6 g1)] [(a0, zO 9 9 g0)] [1] [0] hP hD hS hA rfl rfl (by decide) (by decide) (by decide +kernel) 0 0 rfl rfl (fun hPc hDc hF => z_runV (As := [.int x0]) (rest := []) ⟨hx, hb, hml, hown, hg⟩ (cX9_has_3 l K H.size a1 g1 x0 e1 e2 e3) kV_RX11_185 hd_X9_has rfl rfl ⟨(Nat.le_of_ble_eq_true rfl), (Nat.le_of_ble_eq_true rfl)⟩ hK hS hZ hPc hDc hF 0 rfl rfl rfl hl.1 rfl (Nat.le_of_ble_eq_true rfl) dX11_checkTold_5 ⟨(Nat.le_of_ble_eq_true rfl), (Nat.le_of_ble_eq_true rfl)⟩) (fun r3 u1 H locs w2 hP hD hS => ?_)
  subst w2
  have hP : va_P K.1 classes [(a0, zO 9 9 g0), (a1, zO 7 6 g1)] H := hP
  have hD : va_D A [(a0, zO 9 9 g0), (a1, zO 7 6 g1)] := hD
  refine lv_if_ne (tgt := 21) hx hb dX11_checkTold_8 (by decide) (fun c => absurd (by decide) c) (fun _ => ?_)
  exact z_throw (ik := 161) (is := 189) (ic := 165) hx hb hl9 hg hown (by decide +kernel) mt536 mt17 hZ.1.2.2.2.1 (at_zIB hg hZ) ok_zIB hZ hS hl.1 hml dX11_checkTold_11 dX11_checkTold_14 dX11_checkTold_15 dX11_checkTold_17 dX11_checkTold_20 hno hlocks (Nat.le_of_ble_eq_true rfl) (Nat.le_of_ble_eq_true rfl) (Nat.le_of_ble_eq_true rfl) (Nat.le_of_ble_eq_true rfl) (Nat.le_of_ble_eq_true rfl) (Nat.le_of_ble_eq_true rfl)
set_option maxHeartbeats 4000000 in
set_option maxRecDepth 100000 in
theorem cX11_lam_3 (l : Launch) (hl9 : l.stackTraces = false) (K : zK) (sz : Nat) (a0 : Nat) (a1 : Nat) (g0 : Nat → Value) (g1 : Nat → Value) (x0 : Int32) (x1 : Int32) (e0 : g0 0 = (.ref a1)) (e1 : ¬ x1 < (0 : Int32)) (e2 : g1 5 = (.int 0)) (e3 : (0 : Int32) ≤ x1) : vx_Met l yX11_lam (Cond.code yX11_lam cX11_lam 3 (some .int) :: WG) { frames := 7, cells := 1, slots := 6, locals := 103 } (zPre K [(a0, zO 9 9 g0), (a1, zO 7 6 g1)] sz [.ref a0, .int x0, .int x1]) (va_Qv (fun _ : Unit => False) (fun _ _ => True) (va_A [(a0, zO 9 9 g0), (a1, zO 7 6 g1)] sz)) (zX (va_A [(a0, zO 9 9 g0), (a1, zO 7 6 g1)] sz) zIB) 1 6 (va_A [(a0, zO 9 9 g0), (a1, zO 7 6 g1)] sz) := by
  refine z_xmet (Qc := fun A => va_Qv (fun _ : Unit => False) (fun _ _ => True) A) (XC := fun A => zX A zIB) (by decide +kernel) (Nat.le_of_ble_eq_true rfl) ?_
  intro p e s m args below meth c A ls H hx hb hr hg hown hlocks hml hno hK hP hD hA hS hZ hl
  have hown : s.vm.findClass RX11 = some m.cls := hown
  have hl : lv_has ls 3 [(0, .ref a0), (1, .int x0), (2, .int x1)] := hl
  refine lv_aload_n hx hb dX11_lam_0 rfl (lv_at hl 0 rfl) ?_
  refine lv_iload_n hx hb dX11_lam_1 rfl (lv_at hl 2 rfl) ?_
  refine z_xcall (EX := zIB) [(a0, zO 9 9 g0), (a1, zO 7 6 g1)] [0, 1] hP hD hS hA rfl (by decide) 1 6 rfl rfl (fun hPc hDc hF => z_xrunV (As := [.int x1]) (rest := []) ⟨hx, hb, hml, hown, hg⟩ (cX11_checkTold_2 l hl9 K H.size a0 a1 g0 g1 x1 e0 e1 e2 e3) kV_RX11_76 hd_X11_checkTold rfl rfl ⟨(Nat.le_of_ble_eq_true rfl), (Nat.le_of_ble_eq_true rfl)⟩ hK hS hZ hPc hDc hF 0 rfl rfl rfl hl.1 rfl (Nat.le_of_ble_eq_true rfl) dX11_lam_2 ⟨(Nat.le_of_ble_eq_true rfl), (Nat.le_of_ble_eq_true rfl)⟩) (fun ce q9 H locs hS hce hcv hcl => ?_)
  exact z_xout hno hlocks hS hce hcv hcl (Nat.le_of_ble_eq_true rfl) (Nat.le_of_ble_eq_true rfl)
set_option maxHeartbeats 4000000 in
set_option maxRecDepth 100000 in
theorem cL_lam_3 (l : Launch) (hl9 : l.stackTraces = false) (K : zK) (sz : Nat) (a0 : Nat) (a1 : Nat) (a2 : Nat) (g0 : Nat → Value) (g2 : Nat → Value) (x0 : Int32) (x1 : Int32) (e0 : g0 0 = (.ref a2)) (e1 : ¬ x1 < (0 : Int32)) (e2 : g2 5 = (.int 0)) (e3 : (0 : Int32) ≤ x1) : vx_Met l yL_lam (Cond.codeWith yL_lam cL_lam 5 (some .int) [(0, 10, 13, 27), (0, 10, 17, 18), (0, 10, 21, 13)] :: WG) { frames := 8, cells := 1, slots := 6, locals := 125 } (zPre K [(a0, zO 9 9 g0), (a2, zO 7 6 g2)] sz [.ref a0, .int x0, .int x1, .ref a1]) (va_Qi (fun (r : Int32) (_ : Nat → Nat) => r = 1) (zB K (va_A [(a0, zO 9 9 g0), (a2, zO 7 6 g2)] sz) (fun u : Nat → Nat => [])) (va_A [(a0, zO 9 9 g0), (a2, zO 7 6 g2)] sz)) (vx_X (fun _ : Unit => False) (fun _ _ _ => True) (va_A [(a0, zO 9 9 g0), (a2, zO 7 6 g2)] sz)) 1 6 (va_A [(a0, zO 9 9 g0), (a2, zO 7 6 g2)] sz) := by
  refine z_hmet (Qc := fun A => (va_Qi (fun (r : Int32) (_ : Nat → Nat) => r = 1) (zB K A (fun u : Nat → Nat => [])) A)) (XC := fun A => vx_X (fun _ : Unit => False) (fun _ _ _ => True) A) (by decide +kernel) (Nat.le_of_ble_eq_true rfl) ?_
  intro p e s m args below meth c A ls H hx hb hr hg hown hlocks hml hTab hK hP hD hA hS hZ hl
  have hown : s.vm.findClass RL = some m.cls := hown
  have hl : lv_has ls 5 [(0, .ref a0), (1, .int x0), (2, .int x1), (3, .ref a1)] := hl
  refine lv_aload_n hx hb dL_lam_0 rfl (lv_at hl 3 rfl) ?_
  refine lv_iconst (v := 0) hx hb dL_lam_1 (by decide) ?_
  refine lv_aload_n hx hb dL_lam_2 rfl (lv_at hl 0 rfl) ?_
  refine lv_iload_n hx hb dL_lam_3 rfl (lv_at hl 1 rfl) ?_
  refine lv_iload_n hx hb dL_lam_4 rfl (lv_at hl 2 rfl) ?_
  refine z_xcall (EX := zIB) [(a0, zO 9 9 g0), (a2, zO 7 6 g2)] [0, 1] hP hD hS hA rfl (by decide) 1 6 rfl rfl (fun hPc hDc hF => z_xrunV (As := [.int x0, .int x1]) (rest := [.int 0, .ref a1]) ⟨hx, hb, hml, hown, hg⟩ (cX11_lam_3 l hl9 K H.size a0 a2 g0 g2 x0 x1 e0 e1 e2 e3) kV_RL_23 hd_X11_lam rfl rfl ⟨(Nat.le_of_ble_eq_true rfl), (Nat.le_of_ble_eq_true rfl)⟩ hK hS hZ hPc hDc hF 0 rfl rfl rfl hl.1 rfl (Nat.le_of_ble_eq_true rfl) dL_lam_5 ⟨(Nat.le_of_ble_eq_true rfl), (Nat.le_of_ble_eq_true rfl)⟩) (fun ce q9 H locs hS hce hcv hcl => ?_)
  refine vx_catch (own := RL) (name := zIB) (E := zIB) hown [] ⟨0, 10, 13, 27⟩ [⟨0, 10, 17, 18⟩, ⟨0, 10, 21, 13⟩] (by rw [hTab]; rfl) (fun z hz => nomatch hz) (by decide) (by decide) (hg _ mt526) (va_Nw.use rfl hZ.1.1.2.2.2.1) hce hcv hcl ?_
  have hP : va_P K.1 classes [] H := z_P0
  have hD : va_D A [] := z_D0
  refine lv_astore (lv' := [(4, .ref q9), (0, .ref a0), (1, .int x0), (2, .int x1), (3, .ref a1)]) hx hb dL_lam_13 hl (by decide) rfl (fun ls hl => ?_)
  refine lv_iconst (v := 1) hx hb dL_lam_15 (by decide) ?_
  have hP9 : va_P K.1 classes [] H := hP.sub [] rfl
  have hD9 : va_D A [] := hD.sub [] (by decide) rfl
  exact z_iret hx hb hr (fun _ => 0) rfl hP9 hD9 hS (Nat.le_of_ble_eq_true rfl) (Nat.le_of_ble_eq_true rfl) hlocks dL_lam_16
set_option maxHeartbeats 4000000 in
set_option maxRecDepth 100000 in
theorem cX12_isIn_8 (l : Launch) (K : zK) (sz : Nat) (x0 : Int32) (e0 : ¬ x0 < (0 : Int32)) (e1 : (-1 : Int32) < x0) : Met l yX12_isIn (Cond.code yX12_isIn cX12_isIn 3 (some .boolean) :: WG) { frames := 0, cells := 0, slots := 0, locals := 0 } (zPre K [] sz [.int x0, .int 0, .int (-1)]) (va_Qi (fun (r : Int32) (_ : Nat → Nat) => r = 0) (zB K (va_A [] sz) (fun u : Nat → Nat => [])) (va_A [] sz)) 0 0 (va_A [] sz) := by
  refine z_met (Qc := fun A => (va_Qi (fun (r : Int32) (_ : Nat → Nat) => r = 0) (zB K A (fun u : Nat → Nat => [])) A)) (by decide +kernel) (Nat.le_of_ble_eq_true rfl) ?_
  intro p e s m args below meth c A ls H hx hb hr hg hown hlocks hml hin hK hP hD hA hS hZ hl
  have hown : s.vm.findClass RX12 = some m.cls := hown
  have hl : lv_has ls 3 [(0, .int x0), (1, .int 0), (2, .int (-1))] := hl
  refine lv_iload_n hx hb dX12_isIn_0 rfl (lv_at hl 0 rfl) ?_
  refine lv_iload_n hx hb dX12_isIn_1 rfl (lv_at hl 1 rfl) ?_
  refine lv_icmp_lt (tgt := 14) hx hb dX12_isIn_2 (by decide) (fun c => absurd c e0) (fun _ => ?_)
  refine lv_iload_n hx hb dX12_isIn_5 rfl (lv_at hl 0 rfl) ?_
  refine lv_iload_n hx hb dX12_isIn_6 rfl (lv_at hl 2 rfl) ?_
  refine lv_icmp_gt (tgt := 14) hx hb dX12_isIn_7 (by decide) (fun _ => ?_) (fun c => absurd e1 c)
  refine lv_iconst (v := 0) hx hb dX12_isIn_14 (by decide) ?_
  have hP9 : va_P K.1 classes [] H := hP.sub [] rfl
  have hD9 : va_D A [] := hD.sub [] (by decide) rfl
  exact z_zret hx hb hr rfl (fun _ => 0) rfl hP9 hD9 hS (Nat.le_of_ble_eq_true rfl) (Nat.le_of_ble_eq_true rfl) hlocks dX12_isIn_15
set_option maxHeartbeats 4000000 in
set_option maxRecDepth 100000 in
theorem cX12_isNode_2 (l : Launch) (K : zK) (sz : Nat) (a0 : Nat) (g0 : Nat → Value) (x0 : Int32) (e0 : g0 0 = (.int 0)) (e1 : ¬ x0 < (0 : Int32)) (e2 : (-1 : Int32) < x0) : Met l yX12_isNode (Cond.code yX12_isNode cX12_isNode 2 (some .boolean) :: WG) { frames := 1, cells := 0, slots := 0, locals := 22 } (zPre K [(a0, zO 10 83 g0)] sz [.ref a0, .int x0]) (va_Qi (fun (r : Int32) (_ : Nat → Nat) => r = 0) (zB K (va_A [(a0, zO 10 83 g0)] sz) (fun u : Nat → Nat => [(a0, zO 10 83 g0)])) (va_A [(a0, zO 10 83 g0)] sz)) 0 0 (va_A [(a0, zO 10 83 g0)] sz) := by
  refine z_met (Qc := fun A => (va_Qi (fun (r : Int32) (_ : Nat → Nat) => r = 0) (zB K A (fun u : Nat → Nat => [(a0, zO 10 83 g0)])) A)) (by decide +kernel) (Nat.le_of_ble_eq_true rfl) ?_
  intro p e s m args below meth c A ls H hx hb hr hg hown hlocks hml hin hK hP hD hA hS hZ hl
  have hown : s.vm.findClass RX12 = some m.cls := hown
  have hl : lv_has ls 2 [(0, .ref a0), (1, .int x0)] := hl
  refine lv_iload_n hx hb dX12_isNode_0 rfl (lv_at hl 1 rfl) ?_
  refine lv_iconst (v := 0) hx hb dX12_isNode_1 (by decide) ?_
  refine lv_aload_n hx hb dX12_isNode_2 rfl (lv_at hl 0 rfl) ?_
  refine z_get (v := .int 0) hx hb hg hown hK hP i_X12 rfl 0 rfl 0 (by decide) mt1280 e0 dX12_isNode_3 ?_
  refine lv_iconst (v := 1) hx hb dX12_isNode_6 (by decide) ?_
  refine lv_isub hx hb dX12_isNode_7 ?_
  refine z_cst (v := (-1)) (by decide +kernel) ?_
  refine z_calli [] [(a0, zO 10 83 g0)] [] [0] hP hD hS hA rfl rfl (by decide) (by decide) (by decide +kernel) 0 0 rfl rfl (fun hPc hDc hF => z_runS (As := [.int x0, .int 0, .int (-1)]) (rest := []) ⟨hx, hb, hml, hown, hg⟩ (cX12_isIn_8 l K H.size x0 e1 e2) kS_RX12_175 hd_X12_isIn rfl rfl ⟨(Nat.le_of_ble_eq_true rfl), (Nat.le_of_ble_eq_true rfl)⟩ hK hS hZ hPc hDc hF rfl hl.1 rfl (Nat.le_of_ble_eq_true rfl) dX12_isNode_8 ⟨(Nat.le_of_ble_eq_true rfl), (Nat.le_of_ble_eq_true rfl)⟩) (fun r3 u1 H locs w2 hP hD hS => ?_)
  subst w2
  have hP : va_P K.1 classes [(a0, zO 10 83 g0)] H := hP
  have hD : va_D A [(a0, zO 10 83 g0)] := hD
  have hP9 : va_P K.1 classes [(a0, zO 10 83 g0)] H := hP.sub [0] rfl
  have hD9 : va_D A [(a0, zO 10 83 g0)] := hD.sub [0] (by decide) rfl
  exact z_zret hx hb hr rfl (fun _ => 0) rfl hP9 hD9 hS (Nat.le_of_ble_eq_true rfl) (Nat.le_of_ble_eq_true rfl) hlocks dX12_isNode_11
set_option maxHeartbeats 4000000 in
set_option maxRecDepth 100000 in
theorem cX12_lam_4 (l : Launch) (K : zK) (sz : Nat) (a0 : Nat) (g0 : Nat → Value) (x0 : Int32) (x1 : Int32) (e0 : g0 0 = (.int 0)) (e1 : ¬ x1 < (0 : Int32)) (e2 : (-1 : Int32) < x1) (e3 : x0 < (0 : Int32)) : Met l yX12_lam (Cond.code yX12_lam cX12_lam 3 (some .int) :: WG) { frames := 2, cells := 0, slots := 0, locals := 43 } (zPre K [(a0, zO 10 83 g0)] sz [.ref a0, .int x0, .int x1]) (va_Qi (fun (r : Int32) (_ : Nat → Nat) => r = 0) (zB K (va_A [(a0, zO 10 83 g0)] sz) (fun u : Nat → Nat => [(a0, zO 10 83 (va_up g0 81 (.int 1)))])) (va_A [(a0, zO 10 83 g0)] sz)) 0 0 (va_A [(a0, zO 10 83 g0)] sz) := by
  refine z_met (Qc := fun A => (va_Qi (fun (r : Int32) (_ : Nat → Nat) => r = 0) (zB K A (fun u : Nat → Nat => [(a0, zO 10 83 (va_up g0 81 (.int 1)))])) A)) (by decide +kernel) (Nat.le_of_ble_eq_true rfl) ?_
  intro p e s m args below meth c A ls H hx hb hr hg hown hlocks hml hin hK hP hD hA hS hZ hl
  have hown : s.vm.findClass RX12 = some m.cls := hown
  have hl : lv_has ls 3 [(0, .ref a0), (1, .int x0), (2, .int x1)] := hl
  refine lv_aload_n hx hb dX12_lam_0 rfl (lv_at hl 0 rfl) ?_
  refine lv_aload_n hx hb dX12_lam_1 rfl (lv_at hl 0 rfl) ?_
  refine lv_iload_n hx hb dX12_lam_2 rfl (lv_at hl 2 rfl) ?_
  refine z_calli [(a0, zO 10 83 g0)] [] [0] [] hP hD hS hA rfl rfl (by decide) (by decide) (by decide +kernel) 0 0 rfl rfl (fun hPc hDc hF => z_runV (As := [.int x1]) (rest := [.ref a0]) ⟨hx, hb, hml, hown, hg⟩ (cX12_isNode_2 l K H.size a0 g0 x1 e0 e1 e2) kV_RX12_200 hd_X12_isNode rfl rfl ⟨(Nat.le_of_ble_eq_true rfl), (Nat.le_of_ble_eq_true rfl)⟩ hK hS hZ hPc hDc hF 0 rfl rfl rfl hl.1 rfl (Nat.le_of_ble_eq_true rfl) dX12_lam_3 ⟨(Nat.le_of_ble_eq_true rfl), (Nat.le_of_ble_eq_true rfl)⟩) (fun r3 u1 H locs w2 hP hD hS => ?_)
  subst w2
  have hP : va_P K.1 classes [(a0, zO 10 83 g0)] H := hP
  have hD : va_D A [(a0, zO 10 83 g0)] := hD
  refine lv_iload_n hx hb dX12_lam_6 rfl (lv_at hl 1 rfl) ?_
  refine z_calli [] [(a0, zO 10 83 g0)] [] [0] hP hD hS hA rfl rfl (by decide) (by decide) (by decide +kernel) 0 0 rfl rfl (fun hPc hDc hF => z_runS (As := [.int x0]) (rest := [.int 0, .ref a0]) ⟨hx, hb, hml, hown, hg⟩ (cX12_isName_1 l K H.size x0 e3) kS_RX12_190 hd_X12_isName rfl rfl ⟨(Nat.le_of_ble_eq_true rfl), (Nat.le_of_ble_eq_true rfl)⟩ hK hS hZ hPc hDc hF rfl hl.1 rfl (Nat.le_of_ble_eq_true rfl) dX12_lam_7 ⟨(Nat.le_of_ble_eq_true rfl), (Nat.le_of_ble_eq_true rfl)⟩) (fun r6 u4 H locs w5 hP hD hS => ?_)
  subst w5
  have hP : va_P K.1 classes [(a0, zO 10 83 g0)] H := hP
  have hD : va_D A [(a0, zO 10 83 g0)] := hD
  refine z_calli [(a0, zO 10 83 g0)] [] [0] [] hP hD hS hA rfl rfl (by decide) (by decide) (by decide +kernel) 0 0 rfl rfl (fun hPc hDc hF => z_runV (As := [.int 0, .int 0]) (rest := []) ⟨hx, hb, hml, hown, hg⟩ (cX12_mayTell_1 l K H.size a0 g0) kV_RX12_203 hd_X12_mayTell rfl rfl ⟨(Nat.le_of_ble_eq_true rfl), (Nat.le_of_ble_eq_true rfl)⟩ hK hS hZ hPc hDc hF 0 rfl rfl rfl hl.1 rfl (Nat.le_of_ble_eq_true rfl) dX12_lam_10 ⟨(Nat.le_of_ble_eq_true rfl), (Nat.le_of_ble_eq_true rfl)⟩) (fun r9 u7 H locs w8 hP hD hS => ?_)
  subst w8
  have hP : va_P K.1 classes [(a0, zO 10 83 (va_up g0 81 (.int 1)))] H := hP
  have hD : va_D A [(a0, zO 10 83 (va_up g0 81 (.int 1)))] := hD
  refine lv_if_eq (tgt := 29) hx hb dX12_lam_13 (by decide) (fun _ => ?_) (fun c => absurd (by decide) c)
  refine lv_iconst (v := 0) hx hb dX12_lam_29 (by decide) ?_
  have hP9 : va_P K.1 classes [(a0, zO 10 83 (va_up g0 81 (.int 1)))] H := hP.sub [0] rfl
  have hD9 : va_D A [(a0, zO 10 83 (va_up g0 81 (.int 1)))] := hD.sub [0] (by decide) rfl
  exact z_iret hx hb hr (fun _ => 0) rfl hP9 hD9 hS (Nat.le_of_ble_eq_true rfl) (Nat.le_of_ble_eq_true rfl) hlocks dX12_lam_30
set_option maxHeartbeats 4000000 in
set_option maxRecDepth 100000 in
theorem cX11_lam_4 (l : Launch) (hl9 : l.stackTraces = false) (K : zK) (sz : Nat) (a0 : Nat) (a1 : Nat) (g0 : Nat → Value) (g1 : Nat → Value) (j0 : Nat) (hj0 : j0 < 16) (x1 : Int32) (e0 : g0 0 = (.ref a1)) (e1 : ¬ x1 < (0 : Int32)) (e2 : g1 5 = (.int 0)) (e3 : (0 : Int32) ≤ x1) : vx_Met l yX11_lam (Cond.code yX11_lam cX11_lam 3 (some .int) :: WG) { frames := 7, cells := 1, slots := 6, locals := 103 } (zPre K [(a0, zO 9 9 g0), (a1, zO 7 6 g1)] sz [.ref a0, .int (nI j0), .int x1]) (va_Qv (fun _ : Unit => False) (fun _ _ => True) (va_A [(a0, zO 9 9 g0), (a1, zO 7 6 g1)] sz)) (zX (va_A [(a0, zO 9 9 g0), (a1, zO 7 6 g1)] sz) zIB) 1 6 (va_A [(a0, zO 9 9 g0), (a1, zO 7 6 g1)] sz) := by
  refine z_xmet (Qc := fun A => va_Qv (fun _ : Unit => False) (fun _ _ => True) A) (XC := fun A => zX A zIB) (by decide +kernel) (Nat.le_of_ble_eq_true rfl) ?_
  intro p e s m args below meth c A ls H hx hb hr hg hown hlocks hml hno hK hP hD hA hS hZ hl
  have hown : s.vm.findClass RX11 = some m.cls := hown
  have hl : lv_has ls 3 [(0, .ref a0), (1, .int (nI j0)), (2, .int x1)] := hl
  refine lv_aload_n hx hb dX11_lam_0 rfl (lv_at hl 0 rfl) ?_
  refine lv_iload_n hx hb dX11_lam_1 rfl (lv_at hl 2 rfl) ?_
  refine z_xcall (EX := zIB) [(a0, zO 9 9 g0), (a1, zO 7 6 g1)] [0, 1] hP hD hS hA rfl (by decide) 1 6 rfl rfl (fun hPc hDc hF => z_xrunV (As := [.int x1]) (rest := []) ⟨hx, hb, hml, hown, hg⟩ (cX11_checkTold_2 l hl9 K H.size a0 a1 g0 g1 x1 e0 e1 e2 e3) kV_RX11_76 hd_X11_checkTold rfl rfl ⟨(Nat.le_of_ble_eq_true rfl), (Nat.le_of_ble_eq_true rfl)⟩ hK hS hZ hPc hDc hF 0 rfl rfl rfl hl.1 rfl (Nat.le_of_ble_eq_true rfl) dX11_lam_2 ⟨(Nat.le_of_ble_eq_true rfl), (Nat.le_of_ble_eq_true rfl)⟩) (fun ce q9 H locs hS hce hcv hcl => ?_)
  exact z_xout hno hlocks hS hce hcv hcl (Nat.le_of_ble_eq_true rfl) (Nat.le_of_ble_eq_true rfl)
set_option maxHeartbeats 4000000 in
set_option maxRecDepth 100000 in
theorem cL_lam_4 (l : Launch) (hl9 : l.stackTraces = false) (K : zK) (sz : Nat) (a0 : Nat) (a1 : Nat) (a2 : Nat) (g0 : Nat → Value) (g2 : Nat → Value) (j0 : Nat) (hj0 : j0 < 16) (x1 : Int32) (e0 : g0 0 = (.ref a2)) (e1 : ¬ x1 < (0 : Int32)) (e2 : g2 5 = (.int 0)) (e3 : (0 : Int32) ≤ x1) : vx_Met l yL_lam (Cond.codeWith yL_lam cL_lam 5 (some .int) [(0, 10, 13, 27), (0, 10, 17, 18), (0, 10, 21, 13)] :: WG) { frames := 8, cells := 1, slots := 6, locals := 125 } (zPre K [(a0, zO 9 9 g0), (a2, zO 7 6 g2)] sz [.ref a0, .int (nI j0), .int x1, .ref a1]) (va_Qi (fun (r : Int32) (_ : Nat → Nat) => r = 1) (zB K (va_A [(a0, zO 9 9 g0), (a2, zO 7 6 g2)] sz) (fun u : Nat → Nat => [])) (va_A [(a0, zO 9 9 g0), (a2, zO 7 6 g2)] sz)) (vx_X (fun _ : Unit => False) (fun _ _ _ => True) (va_A [(a0, zO 9 9 g0), (a2, zO 7 6 g2)] sz)) 1 6 (va_A [(a0, zO 9 9 g0), (a2, zO 7 6 g2)] sz) := by
  refine z_hmet (Qc := fun A => (va_Qi (fun (r : Int32) (_ : Nat → Nat) => r = 1) (zB K A (fun u : Nat → Nat => [])) A)) (XC := fun A => vx_X (fun _ : Unit => False) (fun _ _ _ => True) A) (by decide +kernel) (Nat.le_of_ble_eq_true rfl) ?_
  intro p e s m args below meth c A ls H hx hb hr hg hown hlocks hml hTab hK hP hD hA hS hZ hl
  have hown : s.vm.findClass RL = some m.cls := hown
  have hl : lv_has ls 5 [(0, .ref a0), (1, .int (nI j0)), (2, .int x1), (3, .ref a1)] := hl
  refine lv_aload_n hx hb dL_lam_0 rfl (lv_at hl 3 rfl) ?_
  refine lv_iconst (v := 0) hx hb dL_lam_1 (by decide) ?_
  refine lv_aload_n hx hb dL_lam_2 rfl (lv_at hl 0 rfl) ?_
  refine lv_iload_n hx hb dL_lam_3 rfl (lv_at hl 1 rfl) ?_
  refine lv_iload_n hx hb dL_lam_4 rfl (lv_at hl 2 rfl) ?_
  refine z_xcall (EX := zIB) [(a0, zO 9 9 g0), (a2, zO 7 6 g2)] [0, 1] hP hD hS hA rfl (by decide) 1 6 rfl rfl (fun hPc hDc hF => z_xrunV (As := [.int (nI j0), .int x1]) (rest := [.int 0, .ref a1]) ⟨hx, hb, hml, hown, hg⟩ (cX11_lam_4 l hl9 K H.size a0 a2 g0 g2 j0 hj0 x1 e0 e1 e2 e3) kV_RL_23 hd_X11_lam rfl rfl ⟨(Nat.le_of_ble_eq_true rfl), (Nat.le_of_ble_eq_true rfl)⟩ hK hS hZ hPc hDc hF 0 rfl rfl rfl hl.1 rfl (Nat.le_of_ble_eq_true rfl) dL_lam_5 ⟨(Nat.le_of_ble_eq_true rfl), (Nat.le_of_ble_eq_true rfl)⟩) (fun ce q9 H locs hS hce hcv hcl => ?_)
  refine vx_catch (own := RL) (name := zIB) (E := zIB) hown [] ⟨0, 10, 13, 27⟩ [⟨0, 10, 17, 18⟩, ⟨0, 10, 21, 13⟩] (by rw [hTab]; rfl) (fun z hz => nomatch hz) (by decide) (by decide) (hg _ mt526) (va_Nw.use rfl hZ.1.1.2.2.2.1) hce hcv hcl ?_
  have hP : va_P K.1 classes [] H := z_P0
  have hD : va_D A [] := z_D0
  refine lv_astore (lv' := [(4, .ref q9), (0, .ref a0), (1, .int (nI j0)), (2, .int x1), (3, .ref a1)]) hx hb dL_lam_13 hl (by decide) rfl (fun ls hl => ?_)
  refine lv_iconst (v := 1) hx hb dL_lam_15 (by decide) ?_
  have hP9 : va_P K.1 classes [] H := hP.sub [] rfl
  have hD9 : va_D A [] := hD.sub [] (by decide) rfl
  exact z_iret hx hb hr (fun _ => 0) rfl hP9 hD9 hS (Nat.le_of_ble_eq_true rfl) (Nat.le_of_ble_eq_true rfl) hlocks dL_lam_16
set_option maxHeartbeats 4000000 in
set_option maxRecDepth 100000 in
theorem cX12_lam_5 (l : Launch) (K : zK) (sz : Nat) (a0 : Nat) (g0 : Nat → Value) (j0 : Nat) (hj0 : j0 < 16) (x1 : Int32) (e0 : g0 0 = (.int 0)) (e1 : ¬ x1 < (0 : Int32)) (e2 : (-1 : Int32) < x1) : Met l yX12_lam (Cond.code yX12_lam cX12_lam 3 (some .int) :: WG) { frames := 2, cells := 0, slots := 0, locals := 43 } (zPre K [(a0, zO 10 83 g0)] sz [.ref a0, .int (nI j0), .int x1]) (va_Qi (fun (r : Int32) (_ : Nat → Nat) => r = 0) (zB K (va_A [(a0, zO 10 83 g0)] sz) (fun u : Nat → Nat => [(a0, zO 10 83 (va_up g0 81 (.int 1)))])) (va_A [(a0, zO 10 83 g0)] sz)) 0 0 (va_A [(a0, zO 10 83 g0)] sz) := by
  refine z_met (Qc := fun A => (va_Qi (fun (r : Int32) (_ : Nat → Nat) => r = 0) (zB K A (fun u : Nat → Nat => [(a0, zO 10 83 (va_up g0 81 (.int 1)))])) A)) (by decide +kernel) (Nat.le_of_ble_eq_true rfl) ?_
  intro p e s m args below meth c A ls H hx hb hr hg hown hlocks hml hin hK hP hD hA hS hZ hl
  have hown : s.vm.findClass RX12 = some m.cls := hown
  have hl : lv_has ls 3 [(0, .ref a0), (1, .int (nI j0)), (2, .int x1)] := hl
  refine lv_aload_n hx hb dX12_lam_0 rfl (lv_at hl 0 rfl) ?_
  refine lv_aload_n hx hb dX12_lam_1 rfl (lv_at hl 0 rfl) ?_
  refine lv_iload_n hx hb dX12_lam_2 rfl (lv_at hl 2 rfl) ?_
  refine z_calli [(a0, zO 10 83 g0)] [] [0] [] hP hD hS hA rfl rfl (by decide) (by decide) (by decide +kernel) 0 0 rfl rfl (fun hPc hDc hF => z_runV (As := [.int x1]) (rest := [.ref a0]) ⟨hx, hb, hml, hown, hg⟩ (cX12_isNode_2 l K H.size a0 g0 x1 e0 e1 e2) kV_RX12_200 hd_X12_isNode rfl rfl ⟨(Nat.le_of_ble_eq_true rfl), (Nat.le_of_ble_eq_true rfl)⟩ hK hS hZ hPc hDc hF 0 rfl rfl rfl hl.1 rfl (Nat.le_of_ble_eq_true rfl) dX12_lam_3 ⟨(Nat.le_of_ble_eq_true rfl), (Nat.le_of_ble_eq_true rfl)⟩) (fun r3 u1 H locs w2 hP hD hS => ?_)
  subst w2
  have hP : va_P K.1 classes [(a0, zO 10 83 g0)] H := hP
  have hD : va_D A [(a0, zO 10 83 g0)] := hD
  refine lv_iload_n hx hb dX12_lam_6 rfl (lv_at hl 1 rfl) ?_
  refine z_calli [] [(a0, zO 10 83 g0)] [] [0] hP hD hS hA rfl rfl (by decide) (by decide) (by decide +kernel) 0 0 rfl rfl (fun hPc hDc hF => z_runS (As := [.int (nI j0)]) (rest := [.int 0, .ref a0]) ⟨hx, hb, hml, hown, hg⟩ (cX12_isName_2 l K H.size j0 hj0) kS_RX12_190 hd_X12_isName rfl rfl ⟨(Nat.le_of_ble_eq_true rfl), (Nat.le_of_ble_eq_true rfl)⟩ hK hS hZ hPc hDc hF rfl hl.1 rfl (Nat.le_of_ble_eq_true rfl) dX12_lam_7 ⟨(Nat.le_of_ble_eq_true rfl), (Nat.le_of_ble_eq_true rfl)⟩) (fun r6 u4 H locs w5 hP hD hS => ?_)
  subst w5
  have hP : va_P K.1 classes [(a0, zO 10 83 g0)] H := hP
  have hD : va_D A [(a0, zO 10 83 g0)] := hD
  refine z_calli [(a0, zO 10 83 g0)] [] [0] [] hP hD hS hA rfl rfl (by decide) (by decide) (by decide +kernel) 0 0 rfl rfl (fun hPc hDc hF => z_runV (As := [.int 0, .int 1]) (rest := []) ⟨hx, hb, hml, hown, hg⟩ (cX12_mayTell_2 l K H.size a0 g0) kV_RX12_203 hd_X12_mayTell rfl rfl ⟨(Nat.le_of_ble_eq_true rfl), (Nat.le_of_ble_eq_true rfl)⟩ hK hS hZ hPc hDc hF 0 rfl rfl rfl hl.1 rfl (Nat.le_of_ble_eq_true rfl) dX12_lam_10 ⟨(Nat.le_of_ble_eq_true rfl), (Nat.le_of_ble_eq_true rfl)⟩) (fun r9 u7 H locs w8 hP hD hS => ?_)
  subst w8
  have hP : va_P K.1 classes [(a0, zO 10 83 (va_up g0 81 (.int 1)))] H := hP
  have hD : va_D A [(a0, zO 10 83 (va_up g0 81 (.int 1)))] := hD
  refine lv_if_eq (tgt := 29) hx hb dX12_lam_13 (by decide) (fun _ => ?_) (fun c => absurd (by decide) c)
  refine lv_iconst (v := 0) hx hb dX12_lam_29 (by decide) ?_
  have hP9 : va_P K.1 classes [(a0, zO 10 83 (va_up g0 81 (.int 1)))] H := hP.sub [0] rfl
  have hD9 : va_D A [(a0, zO 10 83 (va_up g0 81 (.int 1)))] := hD.sub [0] (by decide) rfl
  exact z_iret hx hb hr (fun _ => 0) rfl hP9 hD9 hS (Nat.le_of_ble_eq_true rfl) (Nat.le_of_ble_eq_true rfl) hlocks dX12_lam_30
set_option maxHeartbeats 4000000 in
set_option maxRecDepth 100000 in
theorem cX12_lam_6 (l : Launch) (K : zK) (sz : Nat) (a0 : Nat) (g0 : Nat → Value) (x0 : Int32) (x1 : Int32) (e0 : g0 0 = (.int 0)) (e1 : ¬ x1 < (0 : Int32)) (e2 : (-1 : Int32) < x1) (e3 : ¬ x0 < (0 : Int32)) (e4 : (15 : Int32) < x0) : Met l yX12_lam (Cond.code yX12_lam cX12_lam 3 (some .int) :: WG) { frames := 2, cells := 0, slots := 0, locals := 43 } (zPre K [(a0, zO 10 83 g0)] sz [.ref a0, .int x0, .int x1]) (va_Qi (fun (r : Int32) (_ : Nat → Nat) => r = 0) (zB K (va_A [(a0, zO 10 83 g0)] sz) (fun u : Nat → Nat => [(a0, zO 10 83 (va_up g0 81 (.int 1)))])) (va_A [(a0, zO 10 83 g0)] sz)) 0 0 (va_A [(a0, zO 10 83 g0)] sz) := by
  refine z_met (Qc := fun A => (va_Qi (fun (r : Int32) (_ : Nat → Nat) => r = 0) (zB K A (fun u : Nat → Nat => [(a0, zO 10 83 (va_up g0 81 (.int 1)))])) A)) (by decide +kernel) (Nat.le_of_ble_eq_true rfl) ?_
  intro p e s m args below meth c A ls H hx hb hr hg hown hlocks hml hin hK hP hD hA hS hZ hl
  have hown : s.vm.findClass RX12 = some m.cls := hown
  have hl : lv_has ls 3 [(0, .ref a0), (1, .int x0), (2, .int x1)] := hl
  refine lv_aload_n hx hb dX12_lam_0 rfl (lv_at hl 0 rfl) ?_
  refine lv_aload_n hx hb dX12_lam_1 rfl (lv_at hl 0 rfl) ?_
  refine lv_iload_n hx hb dX12_lam_2 rfl (lv_at hl 2 rfl) ?_
  refine z_calli [(a0, zO 10 83 g0)] [] [0] [] hP hD hS hA rfl rfl (by decide) (by decide) (by decide +kernel) 0 0 rfl rfl (fun hPc hDc hF => z_runV (As := [.int x1]) (rest := [.ref a0]) ⟨hx, hb, hml, hown, hg⟩ (cX12_isNode_2 l K H.size a0 g0 x1 e0 e1 e2) kV_RX12_200 hd_X12_isNode rfl rfl ⟨(Nat.le_of_ble_eq_true rfl), (Nat.le_of_ble_eq_true rfl)⟩ hK hS hZ hPc hDc hF 0 rfl rfl rfl hl.1 rfl (Nat.le_of_ble_eq_true rfl) dX12_lam_3 ⟨(Nat.le_of_ble_eq_true rfl), (Nat.le_of_ble_eq_true rfl)⟩) (fun r3 u1 H locs w2 hP hD hS => ?_)
  subst w2
  have hP : va_P K.1 classes [(a0, zO 10 83 g0)] H := hP
  have hD : va_D A [(a0, zO 10 83 g0)] := hD
  refine lv_iload_n hx hb dX12_lam_6 rfl (lv_at hl 1 rfl) ?_
  refine z_calli [] [(a0, zO 10 83 g0)] [] [0] hP hD hS hA rfl rfl (by decide) (by decide) (by decide +kernel) 0 0 rfl rfl (fun hPc hDc hF => z_runS (As := [.int x0]) (rest := [.int 0, .ref a0]) ⟨hx, hb, hml, hown, hg⟩ (cX12_isName_3 l K H.size x0 e3 e4) kS_RX12_190 hd_X12_isName rfl rfl ⟨(Nat.le_of_ble_eq_true rfl), (Nat.le_of_ble_eq_true rfl)⟩ hK hS hZ hPc hDc hF rfl hl.1 rfl (Nat.le_of_ble_eq_true rfl) dX12_lam_7 ⟨(Nat.le_of_ble_eq_true rfl), (Nat.le_of_ble_eq_true rfl)⟩) (fun r6 u4 H locs w5 hP hD hS => ?_)
  subst w5
  have hP : va_P K.1 classes [(a0, zO 10 83 g0)] H := hP
  have hD : va_D A [(a0, zO 10 83 g0)] := hD
  refine z_calli [(a0, zO 10 83 g0)] [] [0] [] hP hD hS hA rfl rfl (by decide) (by decide) (by decide +kernel) 0 0 rfl rfl (fun hPc hDc hF => z_runV (As := [.int 0, .int 0]) (rest := []) ⟨hx, hb, hml, hown, hg⟩ (cX12_mayTell_1 l K H.size a0 g0) kV_RX12_203 hd_X12_mayTell rfl rfl ⟨(Nat.le_of_ble_eq_true rfl), (Nat.le_of_ble_eq_true rfl)⟩ hK hS hZ hPc hDc hF 0 rfl rfl rfl hl.1 rfl (Nat.le_of_ble_eq_true rfl) dX12_lam_10 ⟨(Nat.le_of_ble_eq_true rfl), (Nat.le_of_ble_eq_true rfl)⟩) (fun r9 u7 H locs w8 hP hD hS => ?_)
  subst w8
  have hP : va_P K.1 classes [(a0, zO 10 83 (va_up g0 81 (.int 1)))] H := hP
  have hD : va_D A [(a0, zO 10 83 (va_up g0 81 (.int 1)))] := hD
  refine lv_if_eq (tgt := 29) hx hb dX12_lam_13 (by decide) (fun _ => ?_) (fun c => absurd (by decide) c)
  refine lv_iconst (v := 0) hx hb dX12_lam_29 (by decide) ?_
  have hP9 : va_P K.1 classes [(a0, zO 10 83 (va_up g0 81 (.int 1)))] H := hP.sub [0] rfl
  have hD9 : va_D A [(a0, zO 10 83 (va_up g0 81 (.int 1)))] := hD.sub [0] (by decide) rfl
  exact z_iret hx hb hr (fun _ => 0) rfl hP9 hD9 hS (Nat.le_of_ble_eq_true rfl) (Nat.le_of_ble_eq_true rfl) hlocks dX12_lam_30
set_option maxHeartbeats 4000000 in
set_option maxRecDepth 100000 in
theorem cX11_app_1 (l : Launch) (hl9 : l.stackTraces = false) (K : zK) (sz : Nat) (a0 : Nat) (a1 : Nat) (g0 : Nat → Value) (g1 : Nat → Value) (x0 : Int32) (x1 : Int32) (e0 : g0 0 = (.ref a1)) (e1 : x0 < (0 : Int32)) : vx_Met l yX11_app (Cond.code yX11_app cX11_app 3 (some .int) :: WG) { frames := 7, cells := 1, slots := 6, locals := 103 } (zPre K [(a0, zO 9 9 g0), (a1, zO 7 6 g1)] sz [.ref a0, .int x0, .int x1]) (va_Qv (fun _ : Unit => False) (fun _ _ => True) (va_A [(a0, zO 9 9 g0), (a1, zO 7 6 g1)] sz)) (zX (va_A [(a0, zO 9 9 g0), (a1, zO 7 6 g1)] sz) zIB) 1 6 (va_A [(a0, zO 9 9 g0), (a1, zO 7 6 g1)] sz) := by
  refine z_xmet (Qc := fun A => va_Qv (fun _ : Unit => False) (fun _ _ => True) A) (XC := fun A => zX A zIB) (by decide +kernel) (Nat.le_of_ble_eq_true rfl) ?_
  intro p e s m args below meth c A ls H hx hb hr hg hown hlocks hml hno hK hP hD hA hS hZ hl
  have hown : s.vm.findClass RX11 = some m.cls := hown
  have hl : lv_has ls 3 [(0, .ref a0), (1, .int x0), (2, .int x1)] := hl
  refine lv_aload_n hx hb dX11_app_0 rfl (lv_at hl 0 rfl) ?_
  refine lv_iload_n hx hb dX11_app_1 rfl (lv_at hl 1 rfl) ?_
  refine z_xcall (EX := zIB) [(a0, zO 9 9 g0), (a1, zO 7 6 g1)] [0, 1] hP hD hS hA rfl (by decide) 1 6 rfl rfl (fun hPc hDc hF => z_xrunV (As := [.int x0]) (rest := []) ⟨hx, hb, hml, hown, hg⟩ (cX11_checkTold_1 l hl9 K H.size a0 a1 g0 g1 x0 e0 e1) kV_RX11_76 hd_X11_checkTold rfl rfl ⟨(Nat.le_of_ble_eq_true rfl), (Nat.le_of_ble_eq_true rfl)⟩ hK hS hZ hPc hDc hF 0 rfl rfl rfl hl.1 rfl (Nat.le_of_ble_eq_true rfl) dX11_app_2 ⟨(Nat.le_of_ble_eq_true rfl), (Nat.le_of_ble_eq_true rfl)⟩) (fun ce q9 H locs hS hce hcv hcl => ?_)
  exact z_xout hno hlocks hS hce hcv hcl (Nat.le_of_ble_eq_true rfl) (Nat.le_of_ble_eq_true rfl)
set_option maxHeartbeats 4000000 in
set_option maxRecDepth 100000 in
theorem cL_app_1 (l : Launch) (hl9 : l.stackTraces = false) (K : zK) (sz : Nat) (a0 : Nat) (a1 : Nat) (a2 : Nat) (g0 : Nat → Value) (g2 : Nat → Value) (x0 : Int32) (x1 : Int32) (e0 : g0 0 = (.ref a2)) (e1 : x0 < (0 : Int32)) : vx_Met l yL_app (Cond.codeWith yL_app cL_app 5 (some .int) [(0, 10, 13, 27), (0, 10, 17, 18), (0, 10, 21, 13)] :: WG) { frames := 8, cells := 1, slots := 6, locals := 125 } (zPre K [(a0, zO 9 9 g0), (a2, zO 7 6 g2)] sz [.ref a0, .int x0, .int x1, .ref a1]) (va_Qi (fun (r : Int32) (_ : Nat → Nat) => r = 1) (zB K (va_A [(a0, zO 9 9 g0), (a2, zO 7 6 g2)] sz) (fun u : Nat → Nat => [])) (va_A [(a0, zO 9 9 g0), (a2, zO 7 6 g2)] sz)) (vx_X (fun _ : Unit => False) (fun _ _ _ => True) (va_A [(a0, zO 9 9 g0), (a2, zO 7 6 g2)] sz)) 1 6 (va_A [(a0, zO 9 9 g0), (a2, zO 7 6 g2)] sz) := by
  refine z_hmet (Qc := fun A => (va_Qi (fun (r : Int32) (_ : Nat → Nat) => r = 1) (zB K A (fun u : Nat → Nat => [])) A)) (XC := fun A => vx_X (fun _ : Unit => False) (fun _ _ _ => True) A) (by decide +kernel) (Nat.le_of_ble_eq_true rfl) ?_
  intro p e s m args below meth c A ls H hx hb hr hg hown hlocks hml hTab hK hP hD hA hS hZ hl
  have hown : s.vm.findClass RL = some m.cls := hown
  have hl : lv_has ls 5 [(0, .ref a0), (1, .int x0), (2, .int x1), (3, .ref a1)] := hl
  refine lv_aload_n hx hb dL_app_0 rfl (lv_at hl 3 rfl) ?_
  refine lv_iconst (v := 0) hx hb dL_app_1 (by decide) ?_
  refine lv_aload_n hx hb dL_app_2 rfl (lv_at hl 0 rfl) ?_
  refine lv_iload_n hx hb dL_app_3 rfl (lv_at hl 1 rfl) ?_
  refine lv_iload_n hx hb dL_app_4 rfl (lv_at hl 2 rfl) ?_
  refine z_xcall (EX := zIB) [(a0, zO 9 9 g0), (a2, zO 7 6 g2)] [0, 1] hP hD hS hA rfl (by decide) 1 6 rfl rfl (fun hPc hDc hF => z_xrunV (As := [.int x0, .int x1]) (rest := [.int 0, .ref a1]) ⟨hx, hb, hml, hown, hg⟩ (cX11_app_1 l hl9 K H.size a0 a2 g0 g2 x0 x1 e0 e1) kV_RL_29 hd_X11_app rfl rfl ⟨(Nat.le_of_ble_eq_true rfl), (Nat.le_of_ble_eq_true rfl)⟩ hK hS hZ hPc hDc hF 0 rfl rfl rfl hl.1 rfl (Nat.le_of_ble_eq_true rfl) dL_app_5 ⟨(Nat.le_of_ble_eq_true rfl), (Nat.le_of_ble_eq_true rfl)⟩) (fun ce q9 H locs hS hce hcv hcl => ?_)
  refine vx_catch (own := RL) (name := zIB) (E := zIB) hown [] ⟨0, 10, 13, 27⟩ [⟨0, 10, 17, 18⟩, ⟨0, 10, 21, 13⟩] (by rw [hTab]; rfl) (fun z hz => nomatch hz) (by decide) (by decide) (hg _ mt526) (va_Nw.use rfl hZ.1.1.2.2.2.1) hce hcv hcl ?_
  have hP : va_P K.1 classes [] H := z_P0
  have hD : va_D A [] := z_D0
  refine lv_astore (lv' := [(4, .ref q9), (0, .ref a0), (1, .int x0), (2, .int x1), (3, .ref a1)]) hx hb dL_app_13 hl (by decide) rfl (fun ls hl => ?_)
  refine lv_iconst (v := 1) hx hb dL_app_15 (by decide) ?_
  have hP9 : va_P K.1 classes [] H := hP.sub [] rfl
  have hD9 : va_D A [] := hD.sub [] (by decide) rfl
  exact z_iret hx hb hr (fun _ => 0) rfl hP9 hD9 hS (Nat.le_of_ble_eq_true rfl) (Nat.le_of_ble_eq_true rfl) hlocks dL_app_16
set_option maxHeartbeats 4000000 in
set_option maxRecDepth 100000 in
theorem cX12_app_1 (l : Launch) (K : zK) (sz : Nat) (a0 : Nat) (g0 : Nat → Value) (x0 : Int32) (x1 : Int32) (e0 : g0 0 = (.int 0)) (e1 : x0 < (0 : Int32)) : Met l yX12_app (Cond.code yX12_app cX12_app 4 (some .int) :: WG) { frames := 2, cells := 0, slots := 0, locals := 43 } (zPre K [(a0, zO 10 83 g0)] sz [.ref a0, .int x0, .int x1]) (va_Qi (fun (r : Int32) (_ : Nat → Nat) => r = 0) (zB K (va_A [(a0, zO 10 83 g0)] sz) (fun u : Nat → Nat => [(a0, zO 10 83 (va_up g0 81 (.int 1)))])) (va_A [(a0, zO 10 83 g0)] sz)) 0 0 (va_A [(a0, zO 10 83 g0)] sz) := by
  refine z_met (Qc := fun A => (va_Qi (fun (r : Int32) (_ : Nat → Nat) => r = 0) (zB K A (fun u : Nat → Nat => [(a0, zO 10 83 (va_up g0 81 (.int 1)))])) A)) (by decide +kernel) (Nat.le_of_ble_eq_true rfl) ?_
  intro p e s m args below meth c A ls H hx hb hr hg hown hlocks hml hin hK hP hD hA hS hZ hl
  have hown : s.vm.findClass RX12 = some m.cls := hown
  have hl : lv_has ls 4 [(0, .ref a0), (1, .int x0), (2, .int x1)] := hl
  refine lv_aload_n hx hb dX12_app_0 rfl (lv_at hl 0 rfl) ?_
  refine lv_iload_n hx hb dX12_app_1 rfl (lv_at hl 1 rfl) ?_
  refine z_calli [(a0, zO 10 83 g0)] [] [0] [] hP hD hS hA rfl rfl (by decide) (by decide) (by decide +kernel) 0 0 rfl rfl (fun hPc hDc hF => z_runV (As := [.int x0]) (rest := []) ⟨hx, hb, hml, hown, hg⟩ (cX12_isNode_1 l K H.size a0 g0 x0 e0 e1) kV_RX12_200 hd_X12_isNode rfl rfl ⟨(Nat.le_of_ble_eq_true rfl), (Nat.le_of_ble_eq_true rfl)⟩ hK hS hZ hPc hDc hF 0 rfl rfl rfl hl.1 rfl (Nat.le_of_ble_eq_true rfl) dX12_app_2 ⟨(Nat.le_of_ble_eq_true rfl), (Nat.le_of_ble_eq_true rfl)⟩) (fun r3 u1 H locs w2 hP hD hS => ?_)
  subst w2
  have hP : va_P K.1 classes [(a0, zO 10 83 g0)] H := hP
  have hD : va_D A [(a0, zO 10 83 g0)] := hD
  refine lv_if_eq (tgt := 20) hx hb dX12_app_5 (by decide) (fun _ => ?_) (fun c => absurd (by decide) c)
  refine lv_iconst (v := 0) hx hb dX12_app_20 (by decide) ?_
  refine lv_istore_n (lv' := [(3, .int 0), (0, .ref a0), (1, .int x0), (2, .int x1)]) hx hb dX12_app_21 rfl hl (by decide) rfl (fun ls hl => ?_)
  refine lv_aload_n hx hb dX12_app_22 rfl (lv_at hl 1 rfl) ?_
  refine lv_iload_n hx hb dX12_app_23 rfl (lv_at hl 0 rfl) ?_
  refine lv_iload_n hx hb dX12_app_24 rfl (lv_at hl 0 rfl) ?_
  refine lv_if_eq (tgt := 40) hx hb dX12_app_25 (by decide) (fun _ => ?_) (fun c => absurd (by decide) c)
  refine lv_iconst (v := 0) hx hb dX12_app_40 (by decide) ?_
  refine z_calli [(a0, zO 10 83 g0)] [] [0] [] hP hD hS hA rfl rfl (by decide) (by decide) (by decide +kernel) 0 0 rfl rfl (fun hPc hDc hF => z_runV (As := [.int 0, .int 0]) (rest := []) ⟨hx, hb, hml, hown, hg⟩ (cX12_mayTell_1 l K H.size a0 g0) kV_RX12_203 hd_X12_mayTell rfl rfl ⟨(Nat.le_of_ble_eq_true rfl), (Nat.le_of_ble_eq_true rfl)⟩ hK hS hZ hPc hDc hF 0 rfl rfl rfl hl.1 rfl (Nat.le_of_ble_eq_true rfl) dX12_app_41 ⟨(Nat.le_of_ble_eq_true rfl), (Nat.le_of_ble_eq_true rfl)⟩) (fun r6 u4 H locs w5 hP hD hS => ?_)
  subst w5
  have hP : va_P K.1 classes [(a0, zO 10 83 (va_up g0 81 (.int 1)))] H := hP
  have hD : va_D A [(a0, zO 10 83 (va_up g0 81 (.int 1)))] := hD
  refine lv_if_eq (tgt := 60) hx hb dX12_app_44 (by decide) (fun _ => ?_) (fun c => absurd (by decide) c)
  refine lv_iconst (v := 0) hx hb dX12_app_60 (by decide) ?_
  have hP9 : va_P K.1 classes [(a0, zO 10 83 (va_up g0 81 (.int 1)))] H := hP.sub [0] rfl
  have hD9 : va_D A [(a0, zO 10 83 (va_up g0 81 (.int 1)))] := hD.sub [0] (by decide) rfl
  exact z_iret hx hb hr (fun _ => 0) rfl hP9 hD9 hS (Nat.le_of_ble_eq_true rfl) (Nat.le_of_ble_eq_true rfl) hlocks dX12_app_61
set_option maxHeartbeats 4000000 in
set_option maxRecDepth 100000 in
theorem cX11_app_2 (l : Launch) (hl9 : l.stackTraces = false) (K : zK) (sz : Nat) (a0 : Nat) (a1 : Nat) (g0 : Nat → Value) (g1 : Nat → Value) (x0 : Int32) (x1 : Int32) (e0 : g0 0 = (.ref a1)) (e1 : ¬ x0 < (0 : Int32)) (e2 : g1 5 = (.int 0)) (e3 : (0 : Int32) ≤ x0) : vx_Met l yX11_app (Cond.code yX11_app cX11_app 3 (some .int) :: WG) { frames := 7, cells := 1, slots := 6, locals := 103 } (zPre K [(a0, zO 9 9 g0), (a1, zO 7 6 g1)] sz [.ref a0, .int x0, .int x1]) (va_Qv (fun _ : Unit => False) (fun _ _ => True) (va_A [(a0, zO 9 9 g0), (a1, zO 7 6 g1)] sz)) (zX (va_A [(a0, zO 9 9 g0), (a1, zO 7 6 g1)] sz) zIB) 1 6 (va_A [(a0, zO 9 9 g0), (a1, zO 7 6 g1)] sz) := by
  refine z_xmet (Qc := fun A => va_Qv (fun _ : Unit => False) (fun _ _ => True) A) (XC := fun A => zX A zIB) (by decide +kernel) (Nat.le_of_ble_eq_true rfl) ?_
  intro p e s m args below meth c A ls H hx hb hr hg hown hlocks hml hno hK hP hD hA hS hZ hl
  have hown : s.vm.findClass RX11 = some m.cls := hown
  have hl : lv_has ls 3 [(0, .ref a0), (1, .int x0), (2, .int x1)] := hl
  refine lv_aload_n hx hb dX11_app_0 rfl (lv_at hl 0 rfl) ?_
  refine lv_iload_n hx hb dX11_app_1 rfl (lv_at hl 1 rfl) ?_
  refine z_xcall (EX := zIB) [(a0, zO 9 9 g0), (a1, zO 7 6 g1)] [0, 1] hP hD hS hA rfl (by decide) 1 6 rfl rfl (fun hPc hDc hF => z_xrunV (As := [.int x0]) (rest := []) ⟨hx, hb, hml, hown, hg⟩ (cX11_checkTold_2 l hl9 K H.size a0 a1 g0 g1 x0 e0 e1 e2 e3) kV_RX11_76 hd_X11_checkTold rfl rfl ⟨(Nat.le_of_ble_eq_true rfl), (Nat.le_of_ble_eq_true rfl)⟩ hK hS hZ hPc hDc hF 0 rfl rfl rfl hl.1 rfl (Nat.le_of_ble_eq_true rfl) dX11_app_2 ⟨(Nat.le_of_ble_eq_true rfl), (Nat.le_of_ble_eq_true rfl)⟩) (fun ce q9 H locs hS hce hcv hcl => ?_)
  exact z_xout hno hlocks hS hce hcv hcl (Nat.le_of_ble_eq_true rfl) (Nat.le_of_ble_eq_true rfl)
set_option maxHeartbeats 4000000 in
set_option maxRecDepth 100000 in
theorem cL_app_2 (l : Launch) (hl9 : l.stackTraces = false) (K : zK) (sz : Nat) (a0 : Nat) (a1 : Nat) (a2 : Nat) (g0 : Nat → Value) (g2 : Nat → Value) (x0 : Int32) (x1 : Int32) (e0 : g0 0 = (.ref a2)) (e1 : ¬ x0 < (0 : Int32)) (e2 : g2 5 = (.int 0)) (e3 : (0 : Int32) ≤ x0) : vx_Met l yL_app (Cond.codeWith yL_app cL_app 5 (some .int) [(0, 10, 13, 27), (0, 10, 17, 18), (0, 10, 21, 13)] :: WG) { frames := 8, cells := 1, slots := 6, locals := 125 } (zPre K [(a0, zO 9 9 g0), (a2, zO 7 6 g2)] sz [.ref a0, .int x0, .int x1, .ref a1]) (va_Qi (fun (r : Int32) (_ : Nat → Nat) => r = 1) (zB K (va_A [(a0, zO 9 9 g0), (a2, zO 7 6 g2)] sz) (fun u : Nat → Nat => [])) (va_A [(a0, zO 9 9 g0), (a2, zO 7 6 g2)] sz)) (vx_X (fun _ : Unit => False) (fun _ _ _ => True) (va_A [(a0, zO 9 9 g0), (a2, zO 7 6 g2)] sz)) 1 6 (va_A [(a0, zO 9 9 g0), (a2, zO 7 6 g2)] sz) := by
  refine z_hmet (Qc := fun A => (va_Qi (fun (r : Int32) (_ : Nat → Nat) => r = 1) (zB K A (fun u : Nat → Nat => [])) A)) (XC := fun A => vx_X (fun _ : Unit => False) (fun _ _ _ => True) A) (by decide +kernel) (Nat.le_of_ble_eq_true rfl) ?_
  intro p e s m args below meth c A ls H hx hb hr hg hown hlocks hml hTab hK hP hD hA hS hZ hl
  have hown : s.vm.findClass RL = some m.cls := hown
  have hl : lv_has ls 5 [(0, .ref a0), (1, .int x0), (2, .int x1), (3, .ref a1)] := hl
  refine lv_aload_n hx hb dL_app_0 rfl (lv_at hl 3 rfl) ?_
  refine lv_iconst (v := 0) hx hb dL_app_1 (by decide) ?_
  refine lv_aload_n hx hb dL_app_2 rfl (lv_at hl 0 rfl) ?_
  refine lv_iload_n hx hb dL_app_3 rfl (lv_at hl 1 rfl) ?_
  refine lv_iload_n hx hb dL_app_4 rfl (lv_at hl 2 rfl) ?_
  refine z_xcall (EX := zIB) [(a0, zO 9 9 g0), (a2, zO 7 6 g2)] [0, 1] hP hD hS hA rfl (by decide) 1 6 rfl rfl (fun hPc hDc hF => z_xrunV (As := [.int x0, .int x1]) (rest := [.int 0, .ref a1]) ⟨hx, hb, hml, hown, hg⟩ (cX11_app_2 l hl9 K H.size a0 a2 g0 g2 x0 x1 e0 e1 e2 e3) kV_RL_29 hd_X11_app rfl rfl ⟨(Nat.le_of_ble_eq_true rfl), (Nat.le_of_ble_eq_true rfl)⟩ hK hS hZ hPc hDc hF 0 rfl rfl rfl hl.1 rfl (Nat.le_of_ble_eq_true rfl) dL_app_5 ⟨(Nat.le_of_ble_eq_true rfl), (Nat.le_of_ble_eq_true rfl)⟩) (fun ce q9 H locs hS hce hcv hcl => ?_)
  refine vx_catch (own := RL) (name := zIB) (E := zIB) hown [] ⟨0, 10, 13, 27⟩ [⟨0, 10, 17, 18⟩, ⟨0, 10, 21, 13⟩] (by rw [hTab]; rfl) (fun z hz => nomatch hz) (by decide) (by decide) (hg _ mt526) (va_Nw.use rfl hZ.1.1.2.2.2.1) hce hcv hcl ?_
  have hP : va_P K.1 classes [] H := z_P0
  have hD : va_D A [] := z_D0
  refine lv_astore (lv' := [(4, .ref q9), (0, .ref a0), (1, .int x0), (2, .int x1), (3, .ref a1)]) hx hb dL_app_13 hl (by decide) rfl (fun ls hl => ?_)
  refine lv_iconst (v := 1) hx hb dL_app_15 (by decide) ?_
  have hP9 : va_P K.1 classes [] H := hP.sub [] rfl
  have hD9 : va_D A [] := hD.sub [] (by decide) rfl
  exact z_iret hx hb hr (fun _ => 0) rfl hP9 hD9 hS (Nat.le_of_ble_eq_true rfl) (Nat.le_of_ble_eq_true rfl) hlocks dL_app_16
set_option maxHeartbeats 4000000 in
set_option maxRecDepth 100000 in
theorem cX12_app_2 (l : Launch) (K : zK) (sz : Nat) (a0 : Nat) (g0 : Nat → Value) (x0 : Int32) (x1 : Int32) (e0 : g0 0 = (.int 0)) (e1 : ¬ x0 < (0 : Int32)) (e2 : (-1 : Int32) < x0) : Met l yX12_app (Cond.code yX12_app cX12_app 4 (some .int) :: WG) { frames := 2, cells := 0, slots := 0, locals := 43 } (zPre K [(a0, zO 10 83 g0)] sz [.ref a0, .int x0, .int x1]) (va_Qi (fun (r : Int32) (_ : Nat → Nat) => r = 0) (zB K (va_A [(a0, zO 10 83 g0)] sz) (fun u : Nat → Nat => [(a0, zO 10 83 (va_up g0 81 (.int 1)))])) (va_A [(a0, zO 10 83 g0)] sz)) 0 0 (va_A [(a0, zO 10 83 g0)] sz) := by
  refine z_met (Qc := fun A => (va_Qi (fun (r : Int32) (_ : Nat → Nat) => r = 0) (zB K A (fun u : Nat → Nat => [(a0, zO 10 83 (va_up g0 81 (.int 1)))])) A)) (by decide +kernel) (Nat.le_of_ble_eq_true rfl) ?_
  intro p e s m args below meth c A ls H hx hb hr hg hown hlocks hml hin hK hP hD hA hS hZ hl
  have hown : s.vm.findClass RX12 = some m.cls := hown
  have hl : lv_has ls 4 [(0, .ref a0), (1, .int x0), (2, .int x1)] := hl
  refine lv_aload_n hx hb dX12_app_0 rfl (lv_at hl 0 rfl) ?_
  refine lv_iload_n hx hb dX12_app_1 rfl (lv_at hl 1 rfl) ?_
  refine z_calli [(a0, zO 10 83 g0)] [] [0] [] hP hD hS hA rfl rfl (by decide) (by decide) (by decide +kernel) 0 0 rfl rfl (fun hPc hDc hF => z_runV (As := [.int x0]) (rest := []) ⟨hx, hb, hml, hown, hg⟩ (cX12_isNode_2 l K H.size a0 g0 x0 e0 e1 e2) kV_RX12_200 hd_X12_isNode rfl rfl ⟨(Nat.le_of_ble_eq_true rfl), (Nat.le_of_ble_eq_true rfl)⟩ hK hS hZ hPc hDc hF 0 rfl rfl rfl hl.1 rfl (Nat.le_of_ble_eq_true rfl) dX12_app_2 ⟨(Nat.le_of_ble_eq_true rfl), (Nat.le_of_ble_eq_true rfl)⟩) (fun r3 u1 H locs w2 hP hD hS => ?_)
  subst w2
  have hP : va_P K.1 classes [(a0, zO 10 83 g0)] H := hP
  have hD : va_D A [(a0, zO 10 83 g0)] := hD
  refine lv_if_eq (tgt := 20) hx hb dX12_app_5 (by decide) (fun _ => ?_) (fun c => absurd (by decide) c)
  refine lv_iconst (v := 0) hx hb dX12_app_20 (by decide) ?_
  refine lv_istore_n (lv' := [(3, .int 0), (0, .ref a0), (1, .int x0), (2, .int x1)]) hx hb dX12_app_21 rfl hl (by decide) rfl (fun ls hl => ?_)
  refine lv_aload_n hx hb dX12_app_22 rfl (lv_at hl 1 rfl) ?_
  refine lv_iload_n hx hb dX12_app_23 rfl (lv_at hl 0 rfl) ?_
  refine lv_iload_n hx hb dX12_app_24 rfl (lv_at hl 0 rfl) ?_
  refine lv_if_eq (tgt := 40) hx hb dX12_app_25 (by decide) (fun _ => ?_) (fun c => absurd (by decide) c)
  refine lv_iconst (v := 0) hx hb dX12_app_40 (by decide) ?_
  refine z_calli [(a0, zO 10 83 g0)] [] [0] [] hP hD hS hA rfl rfl (by decide) (by decide) (by decide +kernel) 0 0 rfl rfl (fun hPc hDc hF => z_runV (As := [.int 0, .int 0]) (rest := []) ⟨hx, hb, hml, hown, hg⟩ (cX12_mayTell_1 l K H.size a0 g0) kV_RX12_203 hd_X12_mayTell rfl rfl ⟨(Nat.le_of_ble_eq_true rfl), (Nat.le_of_ble_eq_true rfl)⟩ hK hS hZ hPc hDc hF 0 rfl rfl rfl hl.1 rfl (Nat.le_of_ble_eq_true rfl) dX12_app_41 ⟨(Nat.le_of_ble_eq_true rfl), (Nat.le_of_ble_eq_true rfl)⟩) (fun r6 u4 H locs w5 hP hD hS => ?_)
  subst w5
  have hP : va_P K.1 classes [(a0, zO 10 83 (va_up g0 81 (.int 1)))] H := hP
  have hD : va_D A [(a0, zO 10 83 (va_up g0 81 (.int 1)))] := hD
  refine lv_if_eq (tgt := 60) hx hb dX12_app_44 (by decide) (fun _ => ?_) (fun c => absurd (by decide) c)
  refine lv_iconst (v := 0) hx hb dX12_app_60 (by decide) ?_
  have hP9 : va_P K.1 classes [(a0, zO 10 83 (va_up g0 81 (.int 1)))] H := hP.sub [0] rfl
  have hD9 : va_D A [(a0, zO 10 83 (va_up g0 81 (.int 1)))] := hD.sub [0] (by decide) rfl
  exact z_iret hx hb hr (fun _ => 0) rfl hP9 hD9 hS (Nat.le_of_ble_eq_true rfl) (Nat.le_of_ble_eq_true rfl) hlocks dX12_app_61
set_option maxHeartbeats 4000000 in
set_option maxRecDepth 100000 in
theorem cX11_let_1 (l : Launch) (hl9 : l.stackTraces = false) (K : zK) (sz : Nat) (a0 : Nat) (a1 : Nat) (g0 : Nat → Value) (g1 : Nat → Value) (x0 : Int32) (x1 : Int32) (x2 : Int32) (e0 : g0 0 = (.ref a1)) (e1 : x1 < (0 : Int32)) : vx_Met l yX11_let (Cond.code yX11_let cX11_let 4 (some .int) :: WG) { frames := 7, cells := 1, slots := 6, locals := 103 } (zPre K [(a0, zO 9 9 g0), (a1, zO 7 6 g1)] sz [.ref a0, .int x0, .int x1, .int x2]) (va_Qv (fun _ : Unit => False) (fun _ _ => True) (va_A [(a0, zO 9 9 g0), (a1, zO 7 6 g1)] sz)) (zX (va_A [(a0, zO 9 9 g0), (a1, zO 7 6 g1)] sz) zIB) 1 6 (va_A [(a0, zO 9 9 g0), (a1, zO 7 6 g1)] sz) := by
  refine z_xmet (Qc := fun A => va_Qv (fun _ : Unit => False) (fun _ _ => True) A) (XC := fun A => zX A zIB) (by decide +kernel) (Nat.le_of_ble_eq_true rfl) ?_
  intro p e s m args below meth c A ls H hx hb hr hg hown hlocks hml hno hK hP hD hA hS hZ hl
  have hown : s.vm.findClass RX11 = some m.cls := hown
  have hl : lv_has ls 4 [(0, .ref a0), (1, .int x0), (2, .int x1), (3, .int x2)] := hl
  refine lv_aload_n hx hb dX11_let_0 rfl (lv_at hl 0 rfl) ?_
  refine lv_iload_n hx hb dX11_let_1 rfl (lv_at hl 2 rfl) ?_
  refine z_xcall (EX := zIB) [(a0, zO 9 9 g0), (a1, zO 7 6 g1)] [0, 1] hP hD hS hA rfl (by decide) 1 6 rfl rfl (fun hPc hDc hF => z_xrunV (As := [.int x1]) (rest := []) ⟨hx, hb, hml, hown, hg⟩ (cX11_checkTold_1 l hl9 K H.size a0 a1 g0 g1 x1 e0 e1) kV_RX11_76 hd_X11_checkTold rfl rfl ⟨(Nat.le_of_ble_eq_true rfl), (Nat.le_of_ble_eq_true rfl)⟩ hK hS hZ hPc hDc hF 0 rfl rfl rfl hl.1 rfl (Nat.le_of_ble_eq_true rfl) dX11_let_2 ⟨(Nat.le_of_ble_eq_true rfl), (Nat.le_of_ble_eq_true rfl)⟩) (fun ce q9 H locs hS hce hcv hcl => ?_)
  exact z_xout hno hlocks hS hce hcv hcl (Nat.le_of_ble_eq_true rfl) (Nat.le_of_ble_eq_true rfl)
set_option maxHeartbeats 4000000 in
set_option maxRecDepth 100000 in
theorem cL_let_1 (l : Launch) (hl9 : l.stackTraces = false) (K : zK) (sz : Nat) (a0 : Nat) (a1 : Nat) (a2 : Nat) (g0 : Nat → Value) (g2 : Nat → Value) (x0 : Int32) (x1 : Int32) (x2 : Int32) (e0 : g0 0 = (.ref a2)) (e1 : x1 < (0 : Int32)) : vx_Met l yL_let (Cond.codeWith yL_let cL_let 6 (some .int) [(0, 12, 15, 27), (0, 12, 19, 18), (0, 12, 23, 13)] :: WG) { frames := 8, cells := 1, slots := 6, locals := 126 } (zPre K [(a0, zO 9 9 g0), (a2, zO 7 6 g2)] sz [.ref a0, .int x0, .int x1, .int x2, .ref a1]) (va_Qi (fun (r : Int32) (_ : Nat → Nat) => r = 1) (zB K (va_A [(a0, zO 9 9 g0), (a2, zO 7 6 g2)] sz) (fun u : Nat → Nat => [])) (va_A [(a0, zO 9 9 g0), (a2, zO 7 6 g2)] sz)) (vx_X (fun _ : Unit => False) (fun _ _ _ => True) (va_A [(a0, zO 9 9 g0), (a2, zO 7 6 g2)] sz)) 1 6 (va_A [(a0, zO 9 9 g0), (a2, zO 7 6 g2)] sz) := by
  refine z_hmet (Qc := fun A => (va_Qi (fun (r : Int32) (_ : Nat → Nat) => r = 1) (zB K A (fun u : Nat → Nat => [])) A)) (XC := fun A => vx_X (fun _ : Unit => False) (fun _ _ _ => True) A) (by decide +kernel) (Nat.le_of_ble_eq_true rfl) ?_
  intro p e s m args below meth c A ls H hx hb hr hg hown hlocks hml hTab hK hP hD hA hS hZ hl
  have hown : s.vm.findClass RL = some m.cls := hown
  have hl : lv_has ls 6 [(0, .ref a0), (1, .int x0), (2, .int x1), (3, .int x2), (4, .ref a1)] := hl
  refine lv_aload hx hb dL_let_0 (lv_at hl 4 rfl) ?_
  refine lv_iconst (v := 0) hx hb dL_let_2 (by decide) ?_
  refine lv_aload_n hx hb dL_let_3 rfl (lv_at hl 0 rfl) ?_
  refine lv_iload_n hx hb dL_let_4 rfl (lv_at hl 1 rfl) ?_
  refine lv_iload_n hx hb dL_let_5 rfl (lv_at hl 2 rfl) ?_
  refine lv_iload_n hx hb dL_let_6 rfl (lv_at hl 3 rfl) ?_
  refine z_xcall (EX := zIB) [(a0, zO 9 9 g0), (a2, zO 7 6 g2)] [0, 1] hP hD hS hA rfl (by decide) 1 6 rfl rfl (fun hPc hDc hF => z_xrunV (As := [.int x0, .int x1, .int x2]) (rest := [.int 0, .ref a1]) ⟨hx, hb, hml, hown, hg⟩ (cX11_let_1 l hl9 K H.size a0 a2 g0 g2 x0 x1 x2 e0 e1) kV_RL_32 hd_X11_let rfl rfl ⟨(Nat.le_of_ble_eq_true rfl), (Nat.le_of_ble_eq_true rfl)⟩ hK hS hZ hPc hDc hF 0 rfl rfl rfl hl.1 rfl (Nat.le_of_ble_eq_true rfl) dL_let_7 ⟨(Nat.le_of_ble_eq_true rfl), (Nat.le_of_ble_eq_true rfl)⟩) (fun ce q9 H locs hS hce hcv hcl => ?_)
  refine vx_catch (own := RL) (name := zIB) (E := zIB) hown [] ⟨0, 12, 15, 27⟩ [⟨0, 12, 19, 18⟩, ⟨0, 12, 23, 13⟩] (by rw [hTab]; rfl) (fun z hz => nomatch hz) (by decide) (by decide) (hg _ mt526) (va_Nw.use rfl hZ.1.1.2.2.2.1) hce hcv hcl ?_
  have hP : va_P K.1 classes [] H := z_P0
  have hD : va_D A [] := z_D0
  refine lv_astore (lv' := [(5, .ref q9), (0, .ref a0), (1, .int x0), (2, .int x1), (3, .int x2), (4, .ref a1)]) hx hb dL_let_15 hl (by decide) rfl (fun ls hl => ?_)
  refine lv_iconst (v := 1) hx hb dL_let_17 (by decide) ?_
  have hP9 : va_P K.1 classes [] H := hP.sub [] rfl
  have hD9 : va_D A [] := hD.sub [] (by decide) rfl
  exact z_iret hx hb hr (fun _ => 0) rfl hP9 hD9 hS (Nat.le_of_ble_eq_true rfl) (Nat.le_of_ble_eq_true rfl) hlocks dL_let_18
set_option maxHeartbeats 4000000 in
set_option maxRecDepth 100000 in
theorem cX12_let_1 (l : Launch) (K : zK) (sz : Nat) (a0 : Nat) (g0 : Nat → Value) (x0 : Int32) (x1 : Int32) (x2 : Int32) (e0 : g0 0 = (.int 0)) (e1 : x1 < (0 : Int32)) (e2 : x0 < (0 : Int32)) : Met l yX12_let (Cond.code yX12_let cX12_let 4 (some .int) :: WG) { frames := 2, cells := 0, slots := 0, locals := 43 } (zPre K [(a0, zO 10 83 g0)] sz [.ref a0, .int x0, .int x1, .int x2]) (va_Qi (fun (r : Int32) (_ : Nat → Nat) => r = 0) (zB K (va_A [(a0, zO 10 83 g0)] sz) (fun u : Nat → Nat => [(a0, zO 10 83 (va_up g0 81 (.int 1)))])) (va_A [(a0, zO 10 83 g0)] sz)) 0 0 (va_A [(a0, zO 10 83 g0)] sz) := by
  refine z_met (Qc := fun A => (va_Qi (fun (r : Int32) (_ : Nat → Nat) => r = 0) (zB K A (fun u : Nat → Nat => [(a0, zO 10 83 (va_up g0 81 (.int 1)))])) A)) (by decide +kernel) (Nat.le_of_ble_eq_true rfl) ?_
  intro p e s m args below meth c A ls H hx hb hr hg hown hlocks hml hin hK hP hD hA hS hZ hl
  have hown : s.vm.findClass RX12 = some m.cls := hown
  have hl : lv_has ls 4 [(0, .ref a0), (1, .int x0), (2, .int x1), (3, .int x2)] := hl
  refine lv_aload_n hx hb dX12_let_0 rfl (lv_at hl 0 rfl) ?_
  refine lv_aload_n hx hb dX12_let_1 rfl (lv_at hl 0 rfl) ?_
  refine lv_iload_n hx hb dX12_let_2 rfl (lv_at hl 2 rfl) ?_
  refine z_calli [(a0, zO 10 83 g0)] [] [0] [] hP hD hS hA rfl rfl (by decide) (by decide) (by decide +kernel) 0 0 rfl rfl (fun hPc hDc hF => z_runV (As := [.int x1]) (rest := [.ref a0]) ⟨hx, hb, hml, hown, hg⟩ (cX12_isNode_1 l K H.size a0 g0 x1 e0 e1) kV_RX12_200 hd_X12_isNode rfl rfl ⟨(Nat.le_of_ble_eq_true rfl), (Nat.le_of_ble_eq_true rfl)⟩ hK hS hZ hPc hDc hF 0 rfl rfl rfl hl.1 rfl (Nat.le_of_ble_eq_true rfl) dX12_let_3 ⟨(Nat.le_of_ble_eq_true rfl), (Nat.le_of_ble_eq_true rfl)⟩) (fun r3 u1 H locs w2 hP hD hS => ?_)
  subst w2
  have hP : va_P K.1 classes [(a0, zO 10 83 g0)] H := hP
  have hD : va_D A [(a0, zO 10 83 g0)] := hD
  refine lv_if_eq (tgt := 21) hx hb dX12_let_6 (by decide) (fun _ => ?_) (fun c => absurd (by decide) c)
  refine lv_iconst (v := 0) hx hb dX12_let_21 (by decide) ?_
  refine lv_iload_n hx hb dX12_let_22 rfl (lv_at hl 1 rfl) ?_
  refine z_calli [] [(a0, zO 10 83 g0)] [] [0] hP hD hS hA rfl rfl (by decide) (by decide) (by decide +kernel) 0 0 rfl rfl (fun hPc hDc hF => z_runS (As := [.int x0]) (rest := [.int 0, .ref a0]) ⟨hx, hb, hml, hown, hg⟩ (cX12_isName_1 l K H.size x0 e2) kS_RX12_190 hd_X12_isName rfl rfl ⟨(Nat.le_of_ble_eq_true rfl), (Nat.le_of_ble_eq_true rfl)⟩ hK hS hZ hPc hDc hF rfl hl.1 rfl (Nat.le_of_ble_eq_true rfl) dX12_let_23 ⟨(Nat.le_of_ble_eq_true rfl), (Nat.le_of_ble_eq_true rfl)⟩) (fun r6 u4 H locs w5 hP hD hS => ?_)
  subst w5
  have hP : va_P K.1 classes [(a0, zO 10 83 g0)] H := hP
  have hD : va_D A [(a0, zO 10 83 g0)] := hD
  refine z_calli [(a0, zO 10 83 g0)] [] [0] [] hP hD hS hA rfl rfl (by decide) (by decide) (by decide +kernel) 0 0 rfl rfl (fun hPc hDc hF => z_runV (As := [.int 0, .int 0]) (rest := []) ⟨hx, hb, hml, hown, hg⟩ (cX12_mayTell_1 l K H.size a0 g0) kV_RX12_203 hd_X12_mayTell rfl rfl ⟨(Nat.le_of_ble_eq_true rfl), (Nat.le_of_ble_eq_true rfl)⟩ hK hS hZ hPc hDc hF 0 rfl rfl rfl hl.1 rfl (Nat.le_of_ble_eq_true rfl) dX12_let_26 ⟨(Nat.le_of_ble_eq_true rfl), (Nat.le_of_ble_eq_true rfl)⟩) (fun r9 u7 H locs w8 hP hD hS => ?_)
  subst w8
  have hP : va_P K.1 classes [(a0, zO 10 83 (va_up g0 81 (.int 1)))] H := hP
  have hD : va_D A [(a0, zO 10 83 (va_up g0 81 (.int 1)))] := hD
  refine lv_if_eq (tgt := 45) hx hb dX12_let_29 (by decide) (fun _ => ?_) (fun c => absurd (by decide) c)
  refine lv_iconst (v := 0) hx hb dX12_let_45 (by decide) ?_
  have hP9 : va_P K.1 classes [(a0, zO 10 83 (va_up g0 81 (.int 1)))] H := hP.sub [0] rfl
  have hD9 : va_D A [(a0, zO 10 83 (va_up g0 81 (.int 1)))] := hD.sub [0] (by decide) rfl
  exact z_iret hx hb hr (fun _ => 0) rfl hP9 hD9 hS (Nat.le_of_ble_eq_true rfl) (Nat.le_of_ble_eq_true rfl) hlocks dX12_let_46
set_option maxHeartbeats 4000000 in
set_option maxRecDepth 100000 in
theorem cX11_let_2 (l : Launch) (hl9 : l.stackTraces = false) (K : zK) (sz : Nat) (a0 : Nat) (a1 : Nat) (g0 : Nat → Value) (g1 : Nat → Value) (j0 : Nat) (hj0 : j0 < 16) (x1 : Int32) (x2 : Int32) (e0 : g0 0 = (.ref a1)) (e1 : x1 < (0 : Int32)) : vx_Met l yX11_let (Cond.code yX11_let cX11_let 4 (some .int) :: WG) { frames := 7, cells := 1, slots := 6, locals := 103 } (zPre K [(a0, zO 9 9 g0), (a1, zO 7 6 g1)] sz [.ref a0, .int (nI j0), .int x1, .int x2]) (va_Qv (fun _ : Unit => False) (fun _ _ => True) (va_A [(a0, zO 9 9 g0), (a1, zO 7 6 g1)] sz)) (zX (va_A [(a0, zO 9 9 g0), (a1, zO 7 6 g1)] sz) zIB) 1 6 (va_A [(a0, zO 9 9 g0), (a1, zO 7 6 g1)] sz) := by
  refine z_xmet (Qc := fun A => va_Qv (fun _ : Unit => False) (fun _ _ => True) A) (XC := fun A => zX A zIB) (by decide +kernel) (Nat.le_of_ble_eq_true rfl) ?_
  intro p e s m args below meth c A ls H hx hb hr hg hown hlocks hml hno hK hP hD hA hS hZ hl
  have hown : s.vm.findClass RX11 = some m.cls := hown
  have hl : lv_has ls 4 [(0, .ref a0), (1, .int (nI j0)), (2, .int x1), (3, .int x2)] := hl
  refine lv_aload_n hx hb dX11_let_0 rfl (lv_at hl 0 rfl) ?_
  refine lv_iload_n hx hb dX11_let_1 rfl (lv_at hl 2 rfl) ?_
  refine z_xcall (EX := zIB) [(a0, zO 9 9 g0), (a1, zO 7 6 g1)] [0, 1] hP hD hS hA rfl (by decide) 1 6 rfl rfl (fun hPc hDc hF => z_xrunV (As := [.int x1]) (rest := []) ⟨hx, hb, hml, hown, hg⟩ (cX11_checkTold_1 l hl9 K H.size a0 a1 g0 g1 x1 e0 e1) kV_RX11_76 hd_X11_checkTold rfl rfl ⟨(Nat.le_of_ble_eq_true rfl), (Nat.le_of_ble_eq_true rfl)⟩ hK hS hZ hPc hDc hF 0 rfl rfl rfl hl.1 rfl (Nat.le_of_ble_eq_true rfl) dX11_let_2 ⟨(Nat.le_of_ble_eq_true rfl), (Nat.le_of_ble_eq_true rfl)⟩) (fun ce q9 H locs hS hce hcv hcl => ?_)
  exact z_xout hno hlocks hS hce hcv hcl (Nat.le_of_ble_eq_true rfl) (Nat.le_of_ble_eq_true rfl)
set_option maxHeartbeats 4000000 in
set_option maxRecDepth 100000 in
theorem cL_let_2 (l : Launch) (hl9 : l.stackTraces = false) (K : zK) (sz : Nat) (a0 : Nat) (a1 : Nat) (a2 : Nat) (g0 : Nat → Value) (g2 : Nat → Value) (j0 : Nat) (hj0 : j0 < 16) (x1 : Int32) (x2 : Int32) (e0 : g0 0 = (.ref a2)) (e1 : x1 < (0 : Int32)) : vx_Met l yL_let (Cond.codeWith yL_let cL_let 6 (some .int) [(0, 12, 15, 27), (0, 12, 19, 18), (0, 12, 23, 13)] :: WG) { frames := 8, cells := 1, slots := 6, locals := 126 } (zPre K [(a0, zO 9 9 g0), (a2, zO 7 6 g2)] sz [.ref a0, .int (nI j0), .int x1, .int x2, .ref a1]) (va_Qi (fun (r : Int32) (_ : Nat → Nat) => r = 1) (zB K (va_A [(a0, zO 9 9 g0), (a2, zO 7 6 g2)] sz) (fun u : Nat → Nat => [])) (va_A [(a0, zO 9 9 g0), (a2, zO 7 6 g2)] sz)) (vx_X (fun _ : Unit => False) (fun _ _ _ => True) (va_A [(a0, zO 9 9 g0), (a2, zO 7 6 g2)] sz)) 1 6 (va_A [(a0, zO 9 9 g0), (a2, zO 7 6 g2)] sz) := by
  refine z_hmet (Qc := fun A => (va_Qi (fun (r : Int32) (_ : Nat → Nat) => r = 1) (zB K A (fun u : Nat → Nat => [])) A)) (XC := fun A => vx_X (fun _ : Unit => False) (fun _ _ _ => True) A) (by decide +kernel) (Nat.le_of_ble_eq_true rfl) ?_
  intro p e s m args below meth c A ls H hx hb hr hg hown hlocks hml hTab hK hP hD hA hS hZ hl
  have hown : s.vm.findClass RL = some m.cls := hown
  have hl : lv_has ls 6 [(0, .ref a0), (1, .int (nI j0)), (2, .int x1), (3, .int x2), (4, .ref a1)] := hl
  refine lv_aload hx hb dL_let_0 (lv_at hl 4 rfl) ?_
  refine lv_iconst (v := 0) hx hb dL_let_2 (by decide) ?_
  refine lv_aload_n hx hb dL_let_3 rfl (lv_at hl 0 rfl) ?_
  refine lv_iload_n hx hb dL_let_4 rfl (lv_at hl 1 rfl) ?_
  refine lv_iload_n hx hb dL_let_5 rfl (lv_at hl 2 rfl) ?_
  refine lv_iload_n hx hb dL_let_6 rfl (lv_at hl 3 rfl) ?_
  refine z_xcall (EX := zIB) [(a0, zO 9 9 g0), (a2, zO 7 6 g2)] [0, 1] hP hD hS hA rfl (by decide) 1 6 rfl rfl (fun hPc hDc hF => z_xrunV (As := [.int (nI j0), .int x1, .int x2]) (rest := [.int 0, .ref a1]) ⟨hx, hb, hml, hown, hg⟩ (cX11_let_2 l hl9 K H.size a0 a2 g0 g2 j0 hj0 x1 x2 e0 e1) kV_RL_32 hd_X11_let rfl rfl ⟨(Nat.le_of_ble_eq_true rfl), (Nat.le_of_ble_eq_true rfl)⟩ hK hS hZ hPc hDc hF 0 rfl rfl rfl hl.1 rfl (Nat.le_of_ble_eq_true rfl) dL_let_7 ⟨(Nat.le_of_ble_eq_true rfl), (Nat.le_of_ble_eq_true rfl)⟩) (fun ce q9 H locs hS hce hcv hcl => ?_)
  refine vx_catch (own := RL) (name := zIB) (E := zIB) hown [] ⟨0, 12, 15, 27⟩ [⟨0, 12, 19, 18⟩, ⟨0, 12, 23, 13⟩] (by rw [hTab]; rfl) (fun z hz => nomatch hz) (by decide) (by decide) (hg _ mt526) (va_Nw.use rfl hZ.1.1.2.2.2.1) hce hcv hcl ?_
  have hP : va_P K.1 classes [] H := z_P0
  have hD : va_D A [] := z_D0
  refine lv_astore (lv' := [(5, .ref q9), (0, .ref a0), (1, .int (nI j0)), (2, .int x1), (3, .int x2), (4, .ref a1)]) hx hb dL_let_15 hl (by decide) rfl (fun ls hl => ?_)
  refine lv_iconst (v := 1) hx hb dL_let_17 (by decide) ?_
  have hP9 : va_P K.1 classes [] H := hP.sub [] rfl
  have hD9 : va_D A [] := hD.sub [] (by decide) rfl
  exact z_iret hx hb hr (fun _ => 0) rfl hP9 hD9 hS (Nat.le_of_ble_eq_true rfl) (Nat.le_of_ble_eq_true rfl) hlocks dL_let_18
set_option maxHeartbeats 4000000 in
set_option maxRecDepth 100000 in
theorem cX12_let_2 (l : Launch) (K : zK) (sz : Nat) (a0 : Nat) (g0 : Nat → Value) (j0 : Nat) (hj0 : j0 < 16) (x1 : Int32) (x2 : Int32) (e0 : g0 0 = (.int 0)) (e1 : x1 < (0 : Int32)) : Met l yX12_let (Cond.code yX12_let cX12_let 4 (some .int) :: WG) { frames := 2, cells := 0, slots := 0, locals := 43 } (zPre K [(a0, zO 10 83 g0)] sz [.ref a0, .int (nI j0), .int x1, .int x2]) (va_Qi (fun (r : Int32) (_ : Nat → Nat) => r = 0) (zB K (va_A [(a0, zO 10 83 g0)] sz) (fun u : Nat → Nat => [(a0, zO 10 83 (va_up g0 81 (.int 1)))])) (va_A [(a0, zO 10 83 g0)] sz)) 0 0 (va_A [(a0, zO 10 83 g0)] sz) := by
  refine z_met (Qc := fun A => (va_Qi (fun (r : Int32) (_ : Nat → Nat) => r = 0) (zB K A (fun u : Nat → Nat => [(a0, zO 10 83 (va_up g0 81 (.int 1)))])) A)) (by decide +kernel) (Nat.le_of_ble_eq_true rfl) ?_
  intro p e s m args below meth c A ls H hx hb hr hg hown hlocks hml hin hK hP hD hA hS hZ hl
  have hown : s.vm.findClass RX12 = some m.cls := hown
  have hl : lv_has ls 4 [(0, .ref a0), (1, .int (nI j0)), (2, .int x1), (3, .int x2)] := hl
  refine lv_aload_n hx hb dX12_let_0 rfl (lv_at hl 0 rfl) ?_
  refine lv_aload_n hx hb dX12_let_1 rfl (lv_at hl 0 rfl) ?_
  refine lv_iload_n hx hb dX12_let_2 rfl (lv_at hl 2 rfl) ?_
  refine z_calli [(a0, zO 10 83 g0)] [] [0] [] hP hD hS hA rfl rfl (by decide) (by decide) (by decide +kernel) 0 0 rfl rfl (fun hPc hDc hF => z_runV (As := [.int x1]) (rest := [.ref a0]) ⟨hx, hb, hml, hown, hg⟩ (cX12_isNode_1 l K H.size a0 g0 x1 e0 e1) kV_RX12_200 hd_X12_isNode rfl rfl ⟨(Nat.le_of_ble_eq_true rfl), (Nat.le_of_ble_eq_true rfl)⟩ hK hS hZ hPc hDc hF 0 rfl rfl rfl hl.1 rfl (Nat.le_of_ble_eq_true rfl) dX12_let_3 ⟨(Nat.le_of_ble_eq_true rfl), (Nat.le_of_ble_eq_true rfl)⟩) (fun r3 u1 H locs w2 hP hD hS => ?_)
  subst w2
  have hP : va_P K.1 classes [(a0, zO 10 83 g0)] H := hP
  have hD : va_D A [(a0, zO 10 83 g0)] := hD
  refine lv_if_eq (tgt := 21) hx hb dX12_let_6 (by decide) (fun _ => ?_) (fun c => absurd (by decide) c)
  refine lv_iconst (v := 0) hx hb dX12_let_21 (by decide) ?_
  refine lv_iload_n hx hb dX12_let_22 rfl (lv_at hl 1 rfl) ?_
  refine z_calli [] [(a0, zO 10 83 g0)] [] [0] hP hD hS hA rfl rfl (by decide) (by decide) (by decide +kernel) 0 0 rfl rfl (fun hPc hDc hF => z_runS (As := [.int (nI j0)]) (rest := [.int 0, .ref a0]) ⟨hx, hb, hml, hown, hg⟩ (cX12_isName_2 l K H.size j0 hj0) kS_RX12_190 hd_X12_isName rfl rfl ⟨(Nat.le_of_ble_eq_true rfl), (Nat.le_of_ble_eq_true rfl)⟩ hK hS hZ hPc hDc hF rfl hl.1 rfl (Nat.le_of_ble_eq_true rfl) dX12_let_23 ⟨(Nat.le_of_ble_eq_true rfl), (Nat.le_of_ble_eq_true rfl)⟩) (fun r6 u4 H locs w5 hP hD hS => ?_)
  subst w5
  have hP : va_P K.1 classes [(a0, zO 10 83 g0)] H := hP
  have hD : va_D A [(a0, zO 10 83 g0)] := hD
  refine z_calli [(a0, zO 10 83 g0)] [] [0] [] hP hD hS hA rfl rfl (by decide) (by decide) (by decide +kernel) 0 0 rfl rfl (fun hPc hDc hF => z_runV (As := [.int 0, .int 1]) (rest := []) ⟨hx, hb, hml, hown, hg⟩ (cX12_mayTell_2 l K H.size a0 g0) kV_RX12_203 hd_X12_mayTell rfl rfl ⟨(Nat.le_of_ble_eq_true rfl), (Nat.le_of_ble_eq_true rfl)⟩ hK hS hZ hPc hDc hF 0 rfl rfl rfl hl.1 rfl (Nat.le_of_ble_eq_true rfl) dX12_let_26 ⟨(Nat.le_of_ble_eq_true rfl), (Nat.le_of_ble_eq_true rfl)⟩) (fun r9 u7 H locs w8 hP hD hS => ?_)
  subst w8
  have hP : va_P K.1 classes [(a0, zO 10 83 (va_up g0 81 (.int 1)))] H := hP
  have hD : va_D A [(a0, zO 10 83 (va_up g0 81 (.int 1)))] := hD
  refine lv_if_eq (tgt := 45) hx hb dX12_let_29 (by decide) (fun _ => ?_) (fun c => absurd (by decide) c)
  refine lv_iconst (v := 0) hx hb dX12_let_45 (by decide) ?_
  have hP9 : va_P K.1 classes [(a0, zO 10 83 (va_up g0 81 (.int 1)))] H := hP.sub [0] rfl
  have hD9 : va_D A [(a0, zO 10 83 (va_up g0 81 (.int 1)))] := hD.sub [0] (by decide) rfl
  exact z_iret hx hb hr (fun _ => 0) rfl hP9 hD9 hS (Nat.le_of_ble_eq_true rfl) (Nat.le_of_ble_eq_true rfl) hlocks dX12_let_46
set_option maxHeartbeats 4000000 in
set_option maxRecDepth 100000 in
theorem cX12_let_3 (l : Launch) (K : zK) (sz : Nat) (a0 : Nat) (g0 : Nat → Value) (x0 : Int32) (x1 : Int32) (x2 : Int32) (e0 : g0 0 = (.int 0)) (e1 : x1 < (0 : Int32)) (e2 : ¬ x0 < (0 : Int32)) (e3 : (15 : Int32) < x0) : Met l yX12_let (Cond.code yX12_let cX12_let 4 (some .int) :: WG) { frames := 2, cells := 0, slots := 0, locals := 43 } (zPre K [(a0, zO 10 83 g0)] sz [.ref a0, .int x0, .int x1, .int x2]) (va_Qi (fun (r : Int32) (_ : Nat → Nat) => r = 0) (zB K (va_A [(a0, zO 10 83 g0)] sz) (fun u : Nat → Nat => [(a0, zO 10 83 (va_up g0 81 (.int 1)))])) (va_A [(a0, zO 10 83 g0)] sz)) 0 0 (va_A [(a0, zO 10 83 g0)] sz) := by
  refine z_met (Qc := fun A => (va_Qi (fun (r : Int32) (_ : Nat → Nat) => r = 0) (zB K A (fun u : Nat → Nat => [(a0, zO 10 83 (va_up g0 81 (.int 1)))])) A)) (by decide +kernel) (Nat.le_of_ble_eq_true rfl) ?_
  intro p e s m args below meth c A ls H hx hb hr hg hown hlocks hml hin hK hP hD hA hS hZ hl
  have hown : s.vm.findClass RX12 = some m.cls := hown
  have hl : lv_has ls 4 [(0, .ref a0), (1, .int x0), (2, .int x1), (3, .int x2)] := hl
  refine lv_aload_n hx hb dX12_let_0 rfl (lv_at hl 0 rfl) ?_
  refine lv_aload_n hx hb dX12_let_1 rfl (lv_at hl 0 rfl) ?_
  refine lv_iload_n hx hb dX12_let_2 rfl (lv_at hl 2 rfl) ?_
  refine z_calli [(a0, zO 10 83 g0)] [] [0] [] hP hD hS hA rfl rfl (by decide) (by decide) (by decide +kernel) 0 0 rfl rfl (fun hPc hDc hF => z_runV (As := [.int x1]) (rest := [.ref a0]) ⟨hx, hb, hml, hown, hg⟩ (cX12_isNode_1 l K H.size a0 g0 x1 e0 e1) kV_RX12_200 hd_X12_isNode rfl rfl ⟨(Nat.le_of_ble_eq_true rfl), (Nat.le_of_ble_eq_true rfl)⟩ hK hS hZ hPc hDc hF 0 rfl rfl rfl hl.1 rfl (Nat.le_of_ble_eq_true rfl) dX12_let_3 ⟨(Nat.le_of_ble_eq_true rfl), (Nat.le_of_ble_eq_true rfl)⟩) (fun r3 u1 H locs w2 hP hD hS => ?_)
  subst w2
  have hP : va_P K.1 classes [(a0, zO 10 83 g0)] H := hP
  have hD : va_D A [(a0, zO 10 83 g0)] := hD
  refine lv_if_eq (tgt := 21) hx hb dX12_let_6 (by decide) (fun _ => ?_) (fun c => absurd (by decide) c)
  refine lv_iconst (v := 0) hx hb dX12_let_21 (by decide) ?_
  refine lv_iload_n hx hb dX12_let_22 rfl (lv_at hl 1 rfl) ?_
  refine z_calli [] [(a0, zO 10 83 g0)] [] [0] hP hD hS hA rfl rfl (by decide) (by decide) (by decide +kernel) 0 0 rfl rfl (fun hPc hDc hF => z_runS (As := [.int x0]) (rest := [.int 0, .ref a0]) ⟨hx, hb, hml, hown, hg⟩ (cX12_isName_3 l K H.size x0 e2 e3) kS_RX12_190 hd_X12_isName rfl rfl ⟨(Nat.le_of_ble_eq_true rfl), (Nat.le_of_ble_eq_true rfl)⟩ hK hS hZ hPc hDc hF rfl hl.1 rfl (Nat.le_of_ble_eq_true rfl) dX12_let_23 ⟨(Nat.le_of_ble_eq_true rfl), (Nat.le_of_ble_eq_true rfl)⟩) (fun r6 u4 H locs w5 hP hD hS => ?_)
  subst w5
  have hP : va_P K.1 classes [(a0, zO 10 83 g0)] H := hP
  have hD : va_D A [(a0, zO 10 83 g0)] := hD
  refine z_calli [(a0, zO 10 83 g0)] [] [0] [] hP hD hS hA rfl rfl (by decide) (by decide) (by decide +kernel) 0 0 rfl rfl (fun hPc hDc hF => z_runV (As := [.int 0, .int 0]) (rest := []) ⟨hx, hb, hml, hown, hg⟩ (cX12_mayTell_1 l K H.size a0 g0) kV_RX12_203 hd_X12_mayTell rfl rfl ⟨(Nat.le_of_ble_eq_true rfl), (Nat.le_of_ble_eq_true rfl)⟩ hK hS hZ hPc hDc hF 0 rfl rfl rfl hl.1 rfl (Nat.le_of_ble_eq_true rfl) dX12_let_26 ⟨(Nat.le_of_ble_eq_true rfl), (Nat.le_of_ble_eq_true rfl)⟩) (fun r9 u7 H locs w8 hP hD hS => ?_)
  subst w8
  have hP : va_P K.1 classes [(a0, zO 10 83 (va_up g0 81 (.int 1)))] H := hP
  have hD : va_D A [(a0, zO 10 83 (va_up g0 81 (.int 1)))] := hD
  refine lv_if_eq (tgt := 45) hx hb dX12_let_29 (by decide) (fun _ => ?_) (fun c => absurd (by decide) c)
  refine lv_iconst (v := 0) hx hb dX12_let_45 (by decide) ?_
  have hP9 : va_P K.1 classes [(a0, zO 10 83 (va_up g0 81 (.int 1)))] H := hP.sub [0] rfl
  have hD9 : va_D A [(a0, zO 10 83 (va_up g0 81 (.int 1)))] := hD.sub [0] (by decide) rfl
  exact z_iret hx hb hr (fun _ => 0) rfl hP9 hD9 hS (Nat.le_of_ble_eq_true rfl) (Nat.le_of_ble_eq_true rfl) hlocks dX12_let_46
set_option maxHeartbeats 4000000 in
set_option maxRecDepth 100000 in
theorem cX11_let_3 (l : Launch) (hl9 : l.stackTraces = false) (K : zK) (sz : Nat) (a0 : Nat) (a1 : Nat) (g0 : Nat → Value) (g1 : Nat → Value) (x0 : Int32) (x1 : Int32) (x2 : Int32) (e0 : g0 0 = (.ref a1)) (e1 : ¬ x1 < (0 : Int32)) (e2 : g1 5 = (.int 0)) (e3 : (0 : Int32) ≤ x1) : vx_Met l yX11_let (Cond.code yX11_let cX11_let 4 (some .int) :: WG) { frames := 7, cells := 1, slots := 6, locals := 103 } (zPre K [(a0, zO 9 9 g0), (a1, zO 7 6 g1)] sz [.ref a0, .int x0, .int x1, .int x2]) (va_Qv (fun _ : Unit => False) (fun _ _ => True) (va_A [(a0, zO 9 9 g0), (a1, zO 7 6 g1)] sz)) (zX (va_A [(a0, zO 9 9 g0), (a1, zO 7 6 g1)] sz) zIB) 1 6 (va_A [(a0, zO 9 9 g0), (a1, zO 7 6 g1)] sz) := by
  refine z_xmet (Qc := fun A => va_Qv (fun _ : Unit => False) (fun _ _ => True) A) (XC := fun A => zX A zIB) (by decide +kernel) (Nat.le_of_ble_eq_true rfl) ?_
  intro p e s m args below meth c A ls H hx hb hr hg hown hlocks hml hno hK hP hD hA hS hZ hl
  have hown : s.vm.findClass RX11 = some m.cls := hown
  have hl : lv_has ls 4 [(0, .ref a0), (1, .int x0), (2, .int x1), (3, .int x2)] := hl
  refine lv_aload_n hx hb dX11_let_0 rfl (lv_at hl 0 rfl) ?_
  refine lv_iload_n hx hb dX11_let_1 rfl (lv_at hl 2 rfl) ?_
  refine z_xcall (EX := zIB) [(a0, zO 9 9 g0), (a1, zO 7 6 g1)] [0, 1] hP hD hS hA rfl (by decide) 1 6 rfl rfl (fun hPc hDc hF => z_xrunV (As := [.int x1]) (rest := []) ⟨hx, hb, hml, hown, hg⟩ (cX11_checkTold_2 l hl9 K H.size a0 a1 g0 g1 x1 e0 e1 e2 e3) kV_RX11_76 hd_X11_checkTold rfl rfl ⟨(Nat.le_of_ble_eq_true rfl), (Nat.le_of_ble_eq_true rfl)⟩ hK hS hZ hPc hDc hF 0 rfl rfl rfl hl.1 rfl (Nat.le_of_ble_eq_true rfl) dX11_let_2 ⟨(Nat.le_of_ble_eq_true rfl), (Nat.le_of_ble_eq_true rfl)⟩) (fun ce q9 H locs hS hce hcv hcl => ?_)
  exact z_xout hno hlocks hS hce hcv hcl (Nat.le_of_ble_eq_true rfl) (Nat.le_of_ble_eq_true rfl)
set_option maxHeartbeats 4000000 in
set_option maxRecDepth 100000 in
theorem cL_let_3 (l : Launch) (hl9 : l.stackTraces = false) (K : zK) (sz : Nat) (a0 : Nat) (a1 : Nat) (a2 : Nat) (g0 : Nat → Value) (g2 : Nat → Value) (x0 : Int32) (x1 : Int32) (x2 : Int32) (e0 : g0 0 = (.ref a2)) (e1 : ¬ x1 < (0 : Int32)) (e2 : g2 5 = (.int 0)) (e3 : (0 : Int32) ≤ x1) : vx_Met l yL_let (Cond.codeWith yL_let cL_let 6 (some .int) [(0, 12, 15, 27), (0, 12, 19, 18), (0, 12, 23, 13)] :: WG) { frames := 8, cells := 1, slots := 6, locals := 126 } (zPre K [(a0, zO 9 9 g0), (a2, zO 7 6 g2)] sz [.ref a0, .int x0, .int x1, .int x2, .ref a1]) (va_Qi (fun (r : Int32) (_ : Nat → Nat) => r = 1) (zB K (va_A [(a0, zO 9 9 g0), (a2, zO 7 6 g2)] sz) (fun u : Nat → Nat => [])) (va_A [(a0, zO 9 9 g0), (a2, zO 7 6 g2)] sz)) (vx_X (fun _ : Unit => False) (fun _ _ _ => True) (va_A [(a0, zO 9 9 g0), (a2, zO 7 6 g2)] sz)) 1 6 (va_A [(a0, zO 9 9 g0), (a2, zO 7 6 g2)] sz) := by
  refine z_hmet (Qc := fun A => (va_Qi (fun (r : Int32) (_ : Nat → Nat) => r = 1) (zB K A (fun u : Nat → Nat => [])) A)) (XC := fun A => vx_X (fun _ : Unit => False) (fun _ _ _ => True) A) (by decide +kernel) (Nat.le_of_ble_eq_true rfl) ?_
  intro p e s m args below meth c A ls H hx hb hr hg hown hlocks hml hTab hK hP hD hA hS hZ hl
  have hown : s.vm.findClass RL = some m.cls := hown
  have hl : lv_has ls 6 [(0, .ref a0), (1, .int x0), (2, .int x1), (3, .int x2), (4, .ref a1)] := hl
  refine lv_aload hx hb dL_let_0 (lv_at hl 4 rfl) ?_
  refine lv_iconst (v := 0) hx hb dL_let_2 (by decide) ?_
  refine lv_aload_n hx hb dL_let_3 rfl (lv_at hl 0 rfl) ?_
  refine lv_iload_n hx hb dL_let_4 rfl (lv_at hl 1 rfl) ?_
  refine lv_iload_n hx hb dL_let_5 rfl (lv_at hl 2 rfl) ?_
  refine lv_iload_n hx hb dL_let_6 rfl (lv_at hl 3 rfl) ?_
  refine z_xcall (EX := zIB) [(a0, zO 9 9 g0), (a2, zO 7 6 g2)] [0, 1] hP hD hS hA rfl (by decide) 1 6 rfl rfl (fun hPc hDc hF => z_xrunV (As := [.int x0, .int x1, .int x2]) (rest := [.int 0, .ref a1]) ⟨hx, hb, hml, hown, hg⟩ (cX11_let_3 l hl9 K H.size a0 a2 g0 g2 x0 x1 x2 e0 e1 e2 e3) kV_RL_32 hd_X11_let rfl rfl ⟨(Nat.le_of_ble_eq_true rfl), (Nat.le_of_ble_eq_true rfl)⟩ hK hS hZ hPc hDc hF 0 rfl rfl rfl hl.1 rfl (Nat.le_of_ble_eq_true rfl) dL_let_7 ⟨(Nat.le_of_ble_eq_true rfl), (Nat.le_of_ble_eq_true rfl)⟩) (fun ce q9 H locs hS hce hcv hcl => ?_)
  refine vx_catch (own := RL) (name := zIB) (E := zIB) hown [] ⟨0, 12, 15, 27⟩ [⟨0, 12, 19, 18⟩, ⟨0, 12, 23, 13⟩] (by rw [hTab]; rfl) (fun z hz => nomatch hz) (by decide) (by decide) (hg _ mt526) (va_Nw.use rfl hZ.1.1.2.2.2.1) hce hcv hcl ?_
  have hP : va_P K.1 classes [] H := z_P0
  have hD : va_D A [] := z_D0
  refine lv_astore (lv' := [(5, .ref q9), (0, .ref a0), (1, .int x0), (2, .int x1), (3, .int x2), (4, .ref a1)]) hx hb dL_let_15 hl (by decide) rfl (fun ls hl => ?_)
  refine lv_iconst (v := 1) hx hb dL_let_17 (by decide) ?_
  have hP9 : va_P K.1 classes [] H := hP.sub [] rfl
  have hD9 : va_D A [] := hD.sub [] (by decide) rfl
  exact z_iret hx hb hr (fun _ => 0) rfl hP9 hD9 hS (Nat.le_of_ble_eq_true rfl) (Nat.le_of_ble_eq_true rfl) hlocks dL_let_18
set_option maxHeartbeats 4000000 in
set_option maxRecDepth 100000 in
theorem cX12_let_4 (l : Launch) (K : zK) (sz : Nat) (a0 : Nat) (g0 : Nat → Value) (x0 : Int32) (x1 : Int32) (x2 : Int32) (e0 : g0 0 = (.int 0)) (e1 : ¬ x1 < (0 : Int32)) (e2 : (-1 : Int32) < x1) (e3 : x0 < (0 : Int32)) : Met l yX12_let (Cond.code yX12_let cX12_let 4 (some .int) :: WG) { frames := 2, cells := 0, slots := 0, locals := 43 } (zPre K [(a0, zO 10 83 g0)] sz [.ref a0, .int x0, .int x1, .int x2]) (va_Qi (fun (r : Int32) (_ : Nat → Nat) => r = 0) (zB K (va_A [(a0, zO 10 83 g0)] sz) (fun u : Nat → Nat => [(a0, zO 10 83 (va_up g0 81 (.int 1)))])) (va_A [(a0, zO 10 83 g0)] sz)) 0 0 (va_A [(a0, zO 10 83 g0)] sz) := by
  refine z_met (Qc := fun A => (va_Qi (fun (r : Int32) (_ : Nat → Nat) => r = 0) (zB K A (fun u : Nat → Nat => [(a0, zO 10 83 (va_up g0 81 (.int 1)))])) A)) (by decide +kernel) (Nat.le_of_ble_eq_true rfl) ?_
  intro p e s m args below meth c A ls H hx hb hr hg hown hlocks hml hin hK hP hD hA hS hZ hl
  have hown : s.vm.findClass RX12 = some m.cls := hown
  have hl : lv_has ls 4 [(0, .ref a0), (1, .int x0), (2, .int x1), (3, .int x2)] := hl
  refine lv_aload_n hx hb dX12_let_0 rfl (lv_at hl 0 rfl) ?_
  refine lv_aload_n hx hb dX12_let_1 rfl (lv_at hl 0 rfl) ?_
  refine lv_iload_n hx hb dX12_let_2 rfl (lv_at hl 2 rfl) ?_
  refine z_calli [(a0, zO 10 83 g0)] [] [0] [] hP hD hS hA rfl rfl (by decide) (by decide) (by decide +kernel) 0 0 rfl rfl (fun hPc hDc hF => z_runV (As := [.int x1]) (rest := [.ref a0]) ⟨hx, hb, hml, hown, hg⟩ (cX12_isNode_2 l K H.size a0 g0 x1 e0 e1 e2) kV_RX12_200 hd_X12_isNode rfl rfl ⟨(Nat.le_of_ble_eq_true rfl), (Nat.le_of_ble_eq_true rfl)⟩ hK hS hZ hPc hDc hF 0 rfl rfl rfl hl.1 rfl (Nat.le_of_ble_eq_true rfl) dX12_let_3 ⟨(Nat.le_of_ble_eq_true rfl), (Nat.le_of_ble_eq_true rfl)⟩) (fun r3 u1 H locs w2 hP hD hS => ?_)
  subst w2
  have hP : va_P K.1 classes [(a0, zO 10 83 g0)] H := hP
  have hD : va_D A [(a0, zO 10 83 g0)] := hD
  refine lv_if_eq (tgt := 21) hx hb dX12_let_6 (by decide) (fun _ => ?_) (fun c => absurd (by decide) c)
  refine lv_iconst (v := 0) hx hb dX12_let_21 (by decide) ?_
  refine lv_iload_n hx hb dX12_let_22 rfl (lv_at hl 1 rfl) ?_
  refine z_calli [] [(a0, zO 10 83 g0)] [] [0] hP hD hS hA rfl rfl (by decide) (by decide) (by decide +kernel) 0 0 rfl rfl (fun hPc hDc hF => z_runS (As := [.int x0]) (rest := [.int 0, .ref a0]) ⟨hx, hb, hml, hown, hg⟩ (cX12_isName_1 l K H.size x0 e3) kS_RX12_190 hd_X12_isName rfl rfl ⟨(Nat.le_of_ble_eq_true rfl), (Nat.le_of_ble_eq_true rfl)⟩ hK hS hZ hPc hDc hF rfl hl.1 rfl (Nat.le_of_ble_eq_true rfl) dX12_let_23 ⟨(Nat.le_of_ble_eq_true rfl), (Nat.le_of_ble_eq_true rfl)⟩) (fun r6 u4 H locs w5 hP hD hS => ?_)
  subst w5
  have hP : va_P K.1 classes [(a0, zO 10 83 g0)] H := hP
  have hD : va_D A [(a0, zO 10 83 g0)] := hD
  refine z_calli [(a0, zO 10 83 g0)] [] [0] [] hP hD hS hA rfl rfl (by decide) (by decide) (by decide +kernel) 0 0 rfl rfl (fun hPc hDc hF => z_runV (As := [.int 0, .int 0]) (rest := []) ⟨hx, hb, hml, hown, hg⟩ (cX12_mayTell_1 l K H.size a0 g0) kV_RX12_203 hd_X12_mayTell rfl rfl ⟨(Nat.le_of_ble_eq_true rfl), (Nat.le_of_ble_eq_true rfl)⟩ hK hS hZ hPc hDc hF 0 rfl rfl rfl hl.1 rfl (Nat.le_of_ble_eq_true rfl) dX12_let_26 ⟨(Nat.le_of_ble_eq_true rfl), (Nat.le_of_ble_eq_true rfl)⟩) (fun r9 u7 H locs w8 hP hD hS => ?_)
  subst w8
  have hP : va_P K.1 classes [(a0, zO 10 83 (va_up g0 81 (.int 1)))] H := hP
  have hD : va_D A [(a0, zO 10 83 (va_up g0 81 (.int 1)))] := hD
  refine lv_if_eq (tgt := 45) hx hb dX12_let_29 (by decide) (fun _ => ?_) (fun c => absurd (by decide) c)
  refine lv_iconst (v := 0) hx hb dX12_let_45 (by decide) ?_
  have hP9 : va_P K.1 classes [(a0, zO 10 83 (va_up g0 81 (.int 1)))] H := hP.sub [0] rfl
  have hD9 : va_D A [(a0, zO 10 83 (va_up g0 81 (.int 1)))] := hD.sub [0] (by decide) rfl
  exact z_iret hx hb hr (fun _ => 0) rfl hP9 hD9 hS (Nat.le_of_ble_eq_true rfl) (Nat.le_of_ble_eq_true rfl) hlocks dX12_let_46
set_option maxHeartbeats 4000000 in
set_option maxRecDepth 100000 in
theorem cX11_let_4 (l : Launch) (hl9 : l.stackTraces = false) (K : zK) (sz : Nat) (a0 : Nat) (a1 : Nat) (g0 : Nat → Value) (g1 : Nat → Value) (j0 : Nat) (hj0 : j0 < 16) (x1 : Int32) (x2 : Int32) (e0 : g0 0 = (.ref a1)) (e1 : ¬ x1 < (0 : Int32)) (e2 : g1 5 = (.int 0)) (e3 : (0 : Int32) ≤ x1) : vx_Met l yX11_let (Cond.code yX11_let cX11_let 4 (some .int) :: WG) { frames := 7, cells := 1, slots := 6, locals := 103 } (zPre K [(a0, zO 9 9 g0), (a1, zO 7 6 g1)] sz [.ref a0, .int (nI j0), .int x1, .int x2]) (va_Qv (fun _ : Unit => False) (fun _ _ => True) (va_A [(a0, zO 9 9 g0), (a1, zO 7 6 g1)] sz)) (zX (va_A [(a0, zO 9 9 g0), (a1, zO 7 6 g1)] sz) zIB) 1 6 (va_A [(a0, zO 9 9 g0), (a1, zO 7 6 g1)] sz) := by
  refine z_xmet (Qc := fun A => va_Qv (fun _ : Unit => False) (fun _ _ => True) A) (XC := fun A => zX A zIB) (by decide +kernel) (Nat.le_of_ble_eq_true rfl) ?_
  intro p e s m args below meth c A ls H hx hb hr hg hown hlocks hml hno hK hP hD hA hS hZ hl
  have hown : s.vm.findClass RX11 = some m.cls := hown
  have hl : lv_has ls 4 [(0, .ref a0), (1, .int (nI j0)), (2, .int x1), (3, .int x2)] := hl
  refine lv_aload_n hx hb dX11_let_0 rfl (lv_at hl 0 rfl) ?_
  refine lv_iload_n hx hb dX11_let_1 rfl (lv_at hl 2 rfl) ?_
  refine z_xcall (EX := zIB) [(a0, zO 9 9 g0), (a1, zO 7 6 g1)] [0, 1] hP hD hS hA rfl (by decide) 1 6 rfl rfl (fun hPc hDc hF => z_xrunV (As := [.int x1]) (rest := []) ⟨hx, hb, hml, hown, hg⟩ (cX11_checkTold_2 l hl9 K H.size a0 a1 g0 g1 x1 e0 e1 e2 e3) kV_RX11_76 hd_X11_checkTold rfl rfl ⟨(Nat.le_of_ble_eq_true rfl), (Nat.le_of_ble_eq_true rfl)⟩ hK hS hZ hPc hDc hF 0 rfl rfl rfl hl.1 rfl (Nat.le_of_ble_eq_true rfl) dX11_let_2 ⟨(Nat.le_of_ble_eq_true rfl), (Nat.le_of_ble_eq_true rfl)⟩) (fun ce q9 H locs hS hce hcv hcl => ?_)
  exact z_xout hno hlocks hS hce hcv hcl (Nat.le_of_ble_eq_true rfl) (Nat.le_of_ble_eq_true rfl)
set_option maxHeartbeats 4000000 in
set_option maxRecDepth 100000 in
theorem cL_let_4 (l : Launch) (hl9 : l.stackTraces = false) (K : zK) (sz : Nat) (a0 : Nat) (a1 : Nat) (a2 : Nat) (g0 : Nat → Value) (g2 : Nat → Value) (j0 : Nat) (hj0 : j0 < 16) (x1 : Int32) (x2 : Int32) (e0 : g0 0 = (.ref a2)) (e1 : ¬ x1 < (0 : Int32)) (e2 : g2 5 = (.int 0)) (e3 : (0 : Int32) ≤ x1) : vx_Met l yL_let (Cond.codeWith yL_let cL_let 6 (some .int) [(0, 12, 15, 27), (0, 12, 19, 18), (0, 12, 23, 13)] :: WG) { frames := 8, cells := 1, slots := 6, locals := 126 } (zPre K [(a0, zO 9 9 g0), (a2, zO 7 6 g2)] sz [.ref a0, .int (nI j0), .int x1, .int x2, .ref a1]) (va_Qi (fun (r : Int32) (_ : Nat → Nat) => r = 1) (zB K (va_A [(a0, zO 9 9 g0), (a2, zO 7 6 g2)] sz) (fun u : Nat → Nat => [])) (va_A [(a0, zO 9 9 g0), (a2, zO 7 6 g2)] sz)) (vx_X (fun _ : Unit => False) (fun _ _ _ => True) (va_A [(a0, zO 9 9 g0), (a2, zO 7 6 g2)] sz)) 1 6 (va_A [(a0, zO 9 9 g0), (a2, zO 7 6 g2)] sz) := by
  refine z_hmet (Qc := fun A => (va_Qi (fun (r : Int32) (_ : Nat → Nat) => r = 1) (zB K A (fun u : Nat → Nat => [])) A)) (XC := fun A => vx_X (fun _ : Unit => False) (fun _ _ _ => True) A) (by decide +kernel) (Nat.le_of_ble_eq_true rfl) ?_
  intro p e s m args below meth c A ls H hx hb hr hg hown hlocks hml hTab hK hP hD hA hS hZ hl
  have hown : s.vm.findClass RL = some m.cls := hown
  have hl : lv_has ls 6 [(0, .ref a0), (1, .int (nI j0)), (2, .int x1), (3, .int x2), (4, .ref a1)] := hl
  refine lv_aload hx hb dL_let_0 (lv_at hl 4 rfl) ?_
  refine lv_iconst (v := 0) hx hb dL_let_2 (by decide) ?_
  refine lv_aload_n hx hb dL_let_3 rfl (lv_at hl 0 rfl) ?_
  refine lv_iload_n hx hb dL_let_4 rfl (lv_at hl 1 rfl) ?_
  refine lv_iload_n hx hb dL_let_5 rfl (lv_at hl 2 rfl) ?_
  refine lv_iload_n hx hb dL_let_6 rfl (lv_at hl 3 rfl) ?_
  refine z_xcall (EX := zIB) [(a0, zO 9 9 g0), (a2, zO 7 6 g2)] [0, 1] hP hD hS hA rfl (by decide) 1 6 rfl rfl (fun hPc hDc hF => z_xrunV (As := [.int (nI j0), .int x1, .int x2]) (rest := [.int 0, .ref a1]) ⟨hx, hb, hml, hown, hg⟩ (cX11_let_4 l hl9 K H.size a0 a2 g0 g2 j0 hj0 x1 x2 e0 e1 e2 e3) kV_RL_32 hd_X11_let rfl rfl ⟨(Nat.le_of_ble_eq_true rfl), (Nat.le_of_ble_eq_true rfl)⟩ hK hS hZ hPc hDc hF 0 rfl rfl rfl hl.1 rfl (Nat.le_of_ble_eq_true rfl) dL_let_7 ⟨(Nat.le_of_ble_eq_true rfl), (Nat.le_of_ble_eq_true rfl)⟩) (fun ce q9 H locs hS hce hcv hcl => ?_)
  refine vx_catch (own := RL) (name := zIB) (E := zIB) hown [] ⟨0, 12, 15, 27⟩ [⟨0, 12, 19, 18⟩, ⟨0, 12, 23, 13⟩] (by rw [hTab]; rfl) (fun z hz => nomatch hz) (by decide) (by decide) (hg _ mt526) (va_Nw.use rfl hZ.1.1.2.2.2.1) hce hcv hcl ?_
  have hP : va_P K.1 classes [] H := z_P0
  have hD : va_D A [] := z_D0
  refine lv_astore (lv' := [(5, .ref q9), (0, .ref a0), (1, .int (nI j0)), (2, .int x1), (3, .int x2), (4, .ref a1)]) hx hb dL_let_15 hl (by decide) rfl (fun ls hl => ?_)
  refine lv_iconst (v := 1) hx hb dL_let_17 (by decide) ?_
  have hP9 : va_P K.1 classes [] H := hP.sub [] rfl
  have hD9 : va_D A [] := hD.sub [] (by decide) rfl
  exact z_iret hx hb hr (fun _ => 0) rfl hP9 hD9 hS (Nat.le_of_ble_eq_true rfl) (Nat.le_of_ble_eq_true rfl) hlocks dL_let_18
set_option maxHeartbeats 4000000 in
set_option maxRecDepth 100000 in
theorem cX12_let_5 (l : Launch) (K : zK) (sz : Nat) (a0 : Nat) (g0 : Nat → Value) (j0 : Nat) (hj0 : j0 < 16) (x1 : Int32) (x2 : Int32) (e0 : g0 0 = (.int 0)) (e1 : ¬ x1 < (0 : Int32)) (e2 : (-1 : Int32) < x1) : Met l yX12_let (Cond.code yX12_let cX12_let 4 (some .int) :: WG) { frames := 2, cells := 0, slots := 0, locals := 43 } (zPre K [(a0, zO 10 83 g0)] sz [.ref a0, .int (nI j0), .int x1, .int x2]) (va_Qi (fun (r : Int32) (_ : Nat → Nat) => r = 0) (zB K (va_A [(a0, zO 10 83 g0)] sz) (fun u : Nat → Nat => [(a0, zO 10 83 (va_up g0 81 (.int 1)))])) (va_A [(a0, zO 10 83 g0)] sz)) 0 0 (va_A [(a0, zO 10 83 g0)] sz) := by
  refine z_met (Qc := fun A => (va_Qi (fun (r : Int32) (_ : Nat → Nat) => r = 0) (zB K A (fun u : Nat → Nat => [(a0, zO 10 83 (va_up g0 81 (.int 1)))])) A)) (by decide +kernel) (Nat.le_of_ble_eq_true rfl) ?_
  intro p e s m args below meth c A ls H hx hb hr hg hown hlocks hml hin hK hP hD hA hS hZ hl
  have hown : s.vm.findClass RX12 = some m.cls := hown
  have hl : lv_has ls 4 [(0, .ref a0), (1, .int (nI j0)), (2, .int x1), (3, .int x2)] := hl
  refine lv_aload_n hx hb dX12_let_0 rfl (lv_at hl 0 rfl) ?_
  refine lv_aload_n hx hb dX12_let_1 rfl (lv_at hl 0 rfl) ?_
  refine lv_iload_n hx hb dX12_let_2 rfl (lv_at hl 2 rfl) ?_
  refine z_calli [(a0, zO 10 83 g0)] [] [0] [] hP hD hS hA rfl rfl (by decide) (by decide) (by decide +kernel) 0 0 rfl rfl (fun hPc hDc hF => z_runV (As := [.int x1]) (rest := [.ref a0]) ⟨hx, hb, hml, hown, hg⟩ (cX12_isNode_2 l K H.size a0 g0 x1 e0 e1 e2) kV_RX12_200 hd_X12_isNode rfl rfl ⟨(Nat.le_of_ble_eq_true rfl), (Nat.le_of_ble_eq_true rfl)⟩ hK hS hZ hPc hDc hF 0 rfl rfl rfl hl.1 rfl (Nat.le_of_ble_eq_true rfl) dX12_let_3 ⟨(Nat.le_of_ble_eq_true rfl), (Nat.le_of_ble_eq_true rfl)⟩) (fun r3 u1 H locs w2 hP hD hS => ?_)
  subst w2
  have hP : va_P K.1 classes [(a0, zO 10 83 g0)] H := hP
  have hD : va_D A [(a0, zO 10 83 g0)] := hD
  refine lv_if_eq (tgt := 21) hx hb dX12_let_6 (by decide) (fun _ => ?_) (fun c => absurd (by decide) c)
  refine lv_iconst (v := 0) hx hb dX12_let_21 (by decide) ?_
  refine lv_iload_n hx hb dX12_let_22 rfl (lv_at hl 1 rfl) ?_
  refine z_calli [] [(a0, zO 10 83 g0)] [] [0] hP hD hS hA rfl rfl (by decide) (by decide) (by decide +kernel) 0 0 rfl rfl (fun hPc hDc hF => z_runS (As := [.int (nI j0)]) (rest := [.int 0, .ref a0]) ⟨hx, hb, hml, hown, hg⟩ (cX12_isName_2 l K H.size j0 hj0) kS_RX12_190 hd_X12_isName rfl rfl ⟨(Nat.le_of_ble_eq_true rfl), (Nat.le_of_ble_eq_true rfl)⟩ hK hS hZ hPc hDc hF rfl hl.1 rfl (Nat.le_of_ble_eq_true rfl) dX12_let_23 ⟨(Nat.le_of_ble_eq_true rfl), (Nat.le_of_ble_eq_true rfl)⟩) (fun r6 u4 H locs w5 hP hD hS => ?_)
  subst w5
  have hP : va_P K.1 classes [(a0, zO 10 83 g0)] H := hP
  have hD : va_D A [(a0, zO 10 83 g0)] := hD
  refine z_calli [(a0, zO 10 83 g0)] [] [0] [] hP hD hS hA rfl rfl (by decide) (by decide) (by decide +kernel) 0 0 rfl rfl (fun hPc hDc hF => z_runV (As := [.int 0, .int 1]) (rest := []) ⟨hx, hb, hml, hown, hg⟩ (cX12_mayTell_2 l K H.size a0 g0) kV_RX12_203 hd_X12_mayTell rfl rfl ⟨(Nat.le_of_ble_eq_true rfl), (Nat.le_of_ble_eq_true rfl)⟩ hK hS hZ hPc hDc hF 0 rfl rfl rfl hl.1 rfl (Nat.le_of_ble_eq_true rfl) dX12_let_26 ⟨(Nat.le_of_ble_eq_true rfl), (Nat.le_of_ble_eq_true rfl)⟩) (fun r9 u7 H locs w8 hP hD hS => ?_)
  subst w8
  have hP : va_P K.1 classes [(a0, zO 10 83 (va_up g0 81 (.int 1)))] H := hP
  have hD : va_D A [(a0, zO 10 83 (va_up g0 81 (.int 1)))] := hD
  refine lv_if_eq (tgt := 45) hx hb dX12_let_29 (by decide) (fun _ => ?_) (fun c => absurd (by decide) c)
  refine lv_iconst (v := 0) hx hb dX12_let_45 (by decide) ?_
  have hP9 : va_P K.1 classes [(a0, zO 10 83 (va_up g0 81 (.int 1)))] H := hP.sub [0] rfl
  have hD9 : va_D A [(a0, zO 10 83 (va_up g0 81 (.int 1)))] := hD.sub [0] (by decide) rfl
  exact z_iret hx hb hr (fun _ => 0) rfl hP9 hD9 hS (Nat.le_of_ble_eq_true rfl) (Nat.le_of_ble_eq_true rfl) hlocks dX12_let_46
set_option maxHeartbeats 4000000 in
set_option maxRecDepth 100000 in
theorem cX12_let_6 (l : Launch) (K : zK) (sz : Nat) (a0 : Nat) (g0 : Nat → Value) (x0 : Int32) (x1 : Int32) (x2 : Int32) (e0 : g0 0 = (.int 0)) (e1 : ¬ x1 < (0 : Int32)) (e2 : (-1 : Int32) < x1) (e3 : ¬ x0 < (0 : Int32)) (e4 : (15 : Int32) < x0) : Met l yX12_let (Cond.code yX12_let cX12_let 4 (some .int) :: WG) { frames := 2, cells := 0, slots := 0, locals := 43 } (zPre K [(a0, zO 10 83 g0)] sz [.ref a0, .int x0, .int x1, .int x2]) (va_Qi (fun (r : Int32) (_ : Nat → Nat) => r = 0) (zB K (va_A [(a0, zO 10 83 g0)] sz) (fun u : Nat → Nat => [(a0, zO 10 83 (va_up g0 81 (.int 1)))])) (va_A [(a0, zO 10 83 g0)] sz)) 0 0 (va_A [(a0, zO 10 83 g0)] sz) := by
  refine z_met (Qc := fun A => (va_Qi (fun (r : Int32) (_ : Nat → Nat) => r = 0) (zB K A (fun u : Nat → Nat => [(a0, zO 10 83 (va_up g0 81 (.int 1)))])) A)) (by decide +kernel) (Nat.le_of_ble_eq_true rfl) ?_
  intro p e s m args below meth c A ls H hx hb hr hg hown hlocks hml hin hK hP hD hA hS hZ hl
  have hown : s.vm.findClass RX12 = some m.cls := hown
  have hl : lv_has ls 4 [(0, .ref a0), (1, .int x0), (2, .int x1), (3, .int x2)] := hl
  refine lv_aload_n hx hb dX12_let_0 rfl (lv_at hl 0 rfl) ?_
  refine lv_aload_n hx hb dX12_let_1 rfl (lv_at hl 0 rfl) ?_
  refine lv_iload_n hx hb dX12_let_2 rfl (lv_at hl 2 rfl) ?_
  refine z_calli [(a0, zO 10 83 g0)] [] [0] [] hP hD hS hA rfl rfl (by decide) (by decide) (by decide +kernel) 0 0 rfl rfl (fun hPc hDc hF => z_runV (As := [.int x1]) (rest := [.ref a0]) ⟨hx, hb, hml, hown, hg⟩ (cX12_isNode_2 l K H.size a0 g0 x1 e0 e1 e2) kV_RX12_200 hd_X12_isNode rfl rfl ⟨(Nat.le_of_ble_eq_true rfl), (Nat.le_of_ble_eq_true rfl)⟩ hK hS hZ hPc hDc hF 0 rfl rfl rfl hl.1 rfl (Nat.le_of_ble_eq_true rfl) dX12_let_3 ⟨(Nat.le_of_ble_eq_true rfl), (Nat.le_of_ble_eq_true rfl)⟩) (fun r3 u1 H locs w2 hP hD hS => ?_)
  subst w2
  have hP : va_P K.1 classes [(a0, zO 10 83 g0)] H := hP
  have hD : va_D A [(a0, zO 10 83 g0)] := hD
  refine lv_if_eq (tgt := 21) hx hb dX12_let_6 (by decide) (fun _ => ?_) (fun c => absurd (by decide) c)
  refine lv_iconst (v := 0) hx hb dX12_let_21 (by decide) ?_
  refine lv_iload_n hx hb dX12_let_22 rfl (lv_at hl 1 rfl) ?_
  refine z_calli [] [(a0, zO 10 83 g0)] [] [0] hP hD hS hA rfl rfl (by decide) (by decide) (by decide +kernel) 0 0 rfl rfl (fun hPc hDc hF => z_runS (As := [.int x0]) (rest := [.int 0, .ref a0]) ⟨hx, hb, hml, hown, hg⟩ (cX12_isName_3 l K H.size x0 e3 e4) kS_RX12_190 hd_X12_isName rfl rfl ⟨(Nat.le_of_ble_eq_true rfl), (Nat.le_of_ble_eq_true rfl)⟩ hK hS hZ hPc hDc hF rfl hl.1 rfl (Nat.le_of_ble_eq_true rfl) dX12_let_23 ⟨(Nat.le_of_ble_eq_true rfl), (Nat.le_of_ble_eq_true rfl)⟩) (fun r6 u4 H locs w5 hP hD hS => ?_)
  subst w5
  have hP : va_P K.1 classes [(a0, zO 10 83 g0)] H := hP
  have hD : va_D A [(a0, zO 10 83 g0)] := hD
  refine z_calli [(a0, zO 10 83 g0)] [] [0] [] hP hD hS hA rfl rfl (by decide) (by decide) (by decide +kernel) 0 0 rfl rfl (fun hPc hDc hF => z_runV (As := [.int 0, .int 0]) (rest := []) ⟨hx, hb, hml, hown, hg⟩ (cX12_mayTell_1 l K H.size a0 g0) kV_RX12_203 hd_X12_mayTell rfl rfl ⟨(Nat.le_of_ble_eq_true rfl), (Nat.le_of_ble_eq_true rfl)⟩ hK hS hZ hPc hDc hF 0 rfl rfl rfl hl.1 rfl (Nat.le_of_ble_eq_true rfl) dX12_let_26 ⟨(Nat.le_of_ble_eq_true rfl), (Nat.le_of_ble_eq_true rfl)⟩) (fun r9 u7 H locs w8 hP hD hS => ?_)
  subst w8
  have hP : va_P K.1 classes [(a0, zO 10 83 (va_up g0 81 (.int 1)))] H := hP
  have hD : va_D A [(a0, zO 10 83 (va_up g0 81 (.int 1)))] := hD
  refine lv_if_eq (tgt := 45) hx hb dX12_let_29 (by decide) (fun _ => ?_) (fun c => absurd (by decide) c)
  refine lv_iconst (v := 0) hx hb dX12_let_45 (by decide) ?_
  have hP9 : va_P K.1 classes [(a0, zO 10 83 (va_up g0 81 (.int 1)))] H := hP.sub [0] rfl
  have hD9 : va_D A [(a0, zO 10 83 (va_up g0 81 (.int 1)))] := hD.sub [0] (by decide) rfl
  exact z_iret hx hb hr (fun _ => 0) rfl hP9 hD9 hS (Nat.le_of_ble_eq_true rfl) (Nat.le_of_ble_eq_true rfl) hlocks dX12_let_46
set_option maxHeartbeats 4000000 in
set_option maxRecDepth 100000 in
theorem cX11_checkRange_7 (l : Launch) (hl9 : l.stackTraces = false) (K : zK) (sz : Nat) (a0 : Nat) (g0 : Nat → Value) (x0 : Int32) (e0 : x0 < (0 : Int32)) : vx_Met l yX11_checkRange (Cond.code yX11_checkRange cX11_checkRange 3 none :: WG) { frames := 6, cells := 1, slots := 6, locals := 82 } (zPre K [(a0, zO 9 9 g0)] sz [.ref a0, .int x0, .int 4]) (va_Qv (fun _ : Unit => False) (fun _ _ => True) (va_A [(a0, zO 9 9 g0)] sz)) (zX (va_A [(a0, zO 9 9 g0)] sz) zIA) 1 6 (va_A [(a0, zO 9 9 g0)] sz) := by
  refine z_xmet (Qc := fun A => va_Qv (fun _ : Unit => False) (fun _ _ => True) A) (XC := fun A => zX A zIA) (by decide +kernel) (Nat.le_of_ble_eq_true rfl) ?_
  intro p e s m args below meth c A ls H hx hb hr hg hown hlocks hml hno hK hP hD hA hS hZ hl
  have hown : s.vm.findClass RX11 = some m.cls := hown
  have hl : lv_has ls 3 [(0, .ref a0), (1, .int x0), (2, .int 4)] := hl
  refine lv_iload_n hx hb dX11_checkRange_0 rfl (lv_at hl 1 rfl) ?_
  refine lv_if_lt (tgt := 9) hx hb dX11_checkRange_1 (by decide) (fun _ => ?_) (fun c => absurd e0 c)
  exact z_throw (ik := 82) (is := 183) (ic := 86) hx hb hl9 hg hown (by decide +kernel) mt500 mt16 hZ.1.2.2.1 (at_zIA hg hZ) ok_zIA hZ hS hl.1 hml dX11_checkRange_9 dX11_checkRange_12 dX11_checkRange_13 dX11_checkRange_15 dX11_checkRange_18 hno hlocks (Nat.le_of_ble_eq_true rfl) (Nat.le_of_ble_eq_true rfl) (Nat.le_of_ble_eq_true rfl) (Nat.le_of_ble_eq_true rfl) (Nat.le_of_ble_eq_true rfl) (Nat.le_of_ble_eq_true rfl)
set_option maxHeartbeats 4000000 in
set_option maxRecDepth 100000 in
theorem cX11_con_1 (l : Launch) (hl9 : l.stackTraces = false) (K : zK) (sz : Nat) (a0 : Nat) (g0 : Nat → Value) (x0 : Int32) (e0 : x0 < (0 : Int32)) : vx_Met l yX11_con (Cond.code yX11_con cX11_con 4 (some .int) :: WG) { frames := 7, cells := 1, slots := 6, locals := 104 } (zPre K [(a0, zO 9 9 g0)] sz [.ref a0, .int x0, .int (-1), .int (-1)]) (va_Qv (fun _ : Unit => False) (fun _ _ => True) (va_A [(a0, zO 9 9 g0)] sz)) (zX (va_A [(a0, zO 9 9 g0)] sz) zIA) 1 6 (va_A [(a0, zO 9 9 g0)] sz) := by
  refine z_xmet (Qc := fun A => va_Qv (fun _ : Unit => False) (fun _ _ => True) A) (XC := fun A => zX A zIA) (by decide +kernel) (Nat.le_of_ble_eq_true rfl) ?_
  intro p e s m args below meth c A ls H hx hb hr hg hown hlocks hml hno hK hP hD hA hS hZ hl
  have hown : s.vm.findClass RX11 = some m.cls := hown
  have hl : lv_has ls 4 [(0, .ref a0), (1, .int x0), (2, .int (-1)), (3, .int (-1))] := hl
  refine lv_iload_n hx hb dX11_con_0 rfl (lv_at hl 2 rfl) ?_
  refine lv_iconst (v := (-1)) hx hb dX11_con_1 (by decide) ?_
  refine lv_icmp_eq (tgt := 10) hx hb dX11_con_2 (by decide) (fun _ => ?_) (fun c => absurd (by decide) c)
  refine lv_iload_n hx hb dX11_con_10 rfl (lv_at hl 3 rfl) ?_
  refine lv_iconst (v := (-1)) hx hb dX11_con_11 (by decide) ?_
  refine lv_icmp_eq (tgt := 20) hx hb dX11_con_12 (by decide) (fun _ => ?_) (fun c => absurd (by decide) c)
  refine lv_aload_n hx hb dX11_con_20 rfl (lv_at hl 0 rfl) ?_
  refine lv_iload_n hx hb dX11_con_21 rfl (lv_at hl 1 rfl) ?_
  refine lv_iconst (v := 4) hx hb dX11_con_22 (by decide) ?_
  refine z_xcall (EX := zIA) [(a0, zO 9 9 g0)] [0] hP hD hS hA rfl (by decide) 1 6 rfl rfl (fun hPc hDc hF => z_xrunV (As := [.int x0, .int 4]) (rest := []) ⟨hx, hb, hml, hown, hg⟩ (cX11_checkRange_7 l hl9 K H.size a0 g0 x0 e0) kV_RX11_72 hd_X11_checkRange rfl rfl ⟨(Nat.le_of_ble_eq_true rfl), (Nat.le_of_ble_eq_true rfl)⟩ hK hS hZ hPc hDc hF 0 rfl rfl rfl hl.1 rfl (Nat.le_of_ble_eq_true rfl) dX11_con_23 ⟨(Nat.le_of_ble_eq_true rfl), (Nat.le_of_ble_eq_true rfl)⟩) (fun ce q9 H locs hS hce hcv hcl => ?_)
  exact z_xout hno hlocks hS hce hcv hcl (Nat.le_of_ble_eq_true rfl) (Nat.le_of_ble_eq_true rfl)
set_option maxHeartbeats 4000000 in
set_option maxRecDepth 100000 in
theorem cL_con_1 (l : Launch) (hl9 : l.stackTraces = false) (K : zK) (sz : Nat) (a0 : Nat) (a1 : Nat) (g0 : Nat → Value) (x0 : Int32) (e0 : x0 < (0 : Int32)) : vx_Met l yL_con (Cond.codeWith yL_con cL_con 6 (some .int) [(0, 12, 15, 27), (0, 12, 19, 18), (0, 12, 23, 13)] :: WG) { frames := 8, cells := 1, slots := 6, locals := 127 } (zPre K [(a0, zO 9 9 g0)] sz [.ref a0, .int x0, .int (-1), .int (-1), .ref a1]) (va_Qi (fun (r : Int32) (_ : Nat → Nat) => r = 2) (zB K (va_A [(a0, zO 9 9 g0)] sz) (fun u : Nat → Nat => [])) (va_A [(a0, zO 9 9 g0)] sz)) (vx_X (fun _ : Unit => False) (fun _ _ _ => True) (va_A [(a0, zO 9 9 g0)] sz)) 1 6 (va_A [(a0, zO 9 9 g0)] sz) := by
  refine z_hmet (Qc := fun A => (va_Qi (fun (r : Int32) (_ : Nat → Nat) => r = 2) (zB K A (fun u : Nat → Nat => [])) A)) (XC := fun A => vx_X (fun _ : Unit => False) (fun _ _ _ => True) A) (by decide +kernel) (Nat.le_of_ble_eq_true rfl) ?_
  intro p e s m args below meth c A ls H hx hb hr hg hown hlocks hml hTab hK hP hD hA hS hZ hl
  have hown : s.vm.findClass RL = some m.cls := hown
  have hl : lv_has ls 6 [(0, .ref a0), (1, .int x0), (2, .int (-1)), (3, .int (-1)), (4, .ref a1)] := hl
  refine lv_aload hx hb dL_con_0 (lv_at hl 4 rfl) ?_
  refine lv_iconst (v := 0) hx hb dL_con_2 (by decide) ?_
  refine lv_aload_n hx hb dL_con_3 rfl (lv_at hl 0 rfl) ?_
  refine lv_iload_n hx hb dL_con_4 rfl (lv_at hl 1 rfl) ?_
  refine lv_iload_n hx hb dL_con_5 rfl (lv_at hl 2 rfl) ?_
  refine lv_iload_n hx hb dL_con_6 rfl (lv_at hl 3 rfl) ?_
  refine z_xcall (EX := zIA) [(a0, zO 9 9 g0)] [0] hP hD hS hA rfl (by decide) 1 6 rfl rfl (fun hPc hDc hF => z_xrunV (As := [.int x0, .int (-1), .int (-1)]) (rest := [.int 0, .ref a1]) ⟨hx, hb, hml, hown, hg⟩ (cX11_con_1 l hl9 K H.size a0 g0 x0 e0) kV_RL_36 hd_X11_con rfl rfl ⟨(Nat.le_of_ble_eq_true rfl), (Nat.le_of_ble_eq_true rfl)⟩ hK hS hZ hPc hDc hF 0 rfl rfl rfl hl.1 rfl (Nat.le_of_ble_eq_true rfl) dL_con_7 ⟨(Nat.le_of_ble_eq_true rfl), (Nat.le_of_ble_eq_true rfl)⟩) (fun ce q9 H locs hS hce hcv hcl => ?_)
  refine vx_catch (own := RL) (name := zIA) (E := zIA) hown [⟨0, 12, 15, 27⟩] ⟨0, 12, 19, 18⟩ [⟨0, 12, 23, 13⟩] (by rw [hTab]; rfl) (zP1 (Or.inr ⟨by decide, zIB, hg _ mt526, hZ.1.2.1.1⟩) zP0) (by decide) (by decide) (hg _ mt491) (va_Nw.use rfl hZ.1.1.2.1) hce hcv hcl ?_
  have hP : va_P K.1 classes [] H := z_P0
  have hD : va_D A [] := z_D0
  refine lv_astore (lv' := [(5, .ref q9), (0, .ref a0), (1, .int x0), (2, .int (-1)), (3, .int (-1)), (4, .ref a1)]) hx hb dL_con_19 hl (by decide) rfl (fun ls hl => ?_)
  refine lv_iconst (v := 2) hx hb dL_con_21 (by decide) ?_
  have hP9 : va_P K.1 classes [] H := hP.sub [] rfl
  have hD9 : va_D A [] := hD.sub [] (by decide) rfl
  exact z_iret hx hb hr (fun _ => 0) rfl hP9 hD9 hS (Nat.le_of_ble_eq_true rfl) (Nat.le_of_ble_eq_true rfl) hlocks dL_con_22
set_option maxHeartbeats 4000000 in
set_option maxRecDepth 100000 in
theorem cX12_isIn_9 (l : Launch) (K : zK) (sz : Nat) (x0 : Int32) (e0 : x0 < (0 : Int32)) : Met l yX12_isIn (Cond.code yX12_isIn cX12_isIn 3 (some .boolean) :: WG) { frames := 0, cells := 0, slots := 0, locals := 0 } (zPre K [] sz [.int x0, .int 0, .int 3]) (va_Qi (fun (r : Int32) (_ : Nat → Nat) => r = 0) (zB K (va_A [] sz) (fun u : Nat → Nat => [])) (va_A [] sz)) 0 0 (va_A [] sz) := by
  refine z_met (Qc := fun A => (va_Qi (fun (r : Int32) (_ : Nat → Nat) => r = 0) (zB K A (fun u : Nat → Nat => [])) A)) (by decide +kernel) (Nat.le_of_ble_eq_true rfl) ?_
  intro p e s m args below meth c A ls H hx hb hr hg hown hlocks hml hin hK hP hD hA hS hZ hl
  have hown : s.vm.findClass RX12 = some m.cls := hown
  have hl : lv_has ls 3 [(0, .int x0), (1, .int 0), (2, .int 3)] := hl
  refine lv_iload_n hx hb dX12_isIn_0 rfl (lv_at hl 0 rfl) ?_
  refine lv_iload_n hx hb dX12_isIn_1 rfl (lv_at hl 1 rfl) ?_
  refine lv_icmp_lt (tgt := 14) hx hb dX12_isIn_2 (by decide) (fun _ => ?_) (fun c => absurd e0 c)
  refine lv_iconst (v := 0) hx hb dX12_isIn_14 (by decide) ?_
  have hP9 : va_P K.1 classes [] H := hP.sub [] rfl
  have hD9 : va_D A [] := hD.sub [] (by decide) rfl
  exact z_zret hx hb hr rfl (fun _ => 0) rfl hP9 hD9 hS (Nat.le_of_ble_eq_true rfl) (Nat.le_of_ble_eq_true rfl) hlocks dX12_isIn_15
set_option maxHeartbeats 4000000 in
set_option maxRecDepth 100000 in
theorem cX12_can_3 (l : Launch) (K : zK) (sz : Nat) (a0 : Nat) (g0 : Nat → Value) : Met l yX12_can (Cond.code yX12_can cX12_can 2 (some .boolean) :: WG) { frames := 0, cells := 0, slots := 0, locals := 0 } (zPre K [(a0, zO 10 83 g0)] sz [.ref a0, .int 2]) (va_Qi (fun (r : Int32) (_ : Nat → Nat) => r = 0) (zB K (va_A [(a0, zO 10 83 g0)] sz) (fun u : Nat → Nat => [(a0, zO 10 83 (va_up g0 81 (.int 2)))])) (va_A [(a0, zO 10 83 g0)] sz)) 0 0 (va_A [(a0, zO 10 83 g0)] sz) := by
  refine z_met (Qc := fun A => (va_Qi (fun (r : Int32) (_ : Nat → Nat) => r = 0) (zB K A (fun u : Nat → Nat => [(a0, zO 10 83 (va_up g0 81 (.int 2)))])) A)) (by decide +kernel) (Nat.le_of_ble_eq_true rfl) ?_
  intro p e s m args below meth c A ls H hx hb hr hg hown hlocks hml hin hK hP hD hA hS hZ hl
  have hown : s.vm.findClass RX12 = some m.cls := hown
  have hl : lv_has ls 2 [(0, .ref a0), (1, .int 2)] := hl
  refine lv_aload_n hx hb dX12_can_0 rfl (lv_at hl 0 rfl) ?_
  refine lv_iload_n hx hb dX12_can_1 rfl (lv_at hl 1 rfl) ?_
  refine z_put hx hb hg hown hK hP hD hS i_X12 rfl tyX12_ok nmX12 0 rfl 81 (by decide) mt1361 rfl rfl rfl dX12_can_2 (fun gg1 H locs y2 hP hD hS => ?_)
  have hP : va_P K.1 classes [(a0, zO 10 83 gg1)] H := hP
  have hD : va_D A [(a0, zO 10 83 gg1)] := hD
  refine lv_iload_n hx hb dX12_can_5 rfl (lv_at hl 1 rfl) ?_
  refine lv_if_ne (tgt := 13) hx hb dX12_can_6 (by decide) (fun _ => ?_) (fun c => absurd c (by decide))
  refine lv_iconst (v := 0) hx hb dX12_can_13 (by decide) ?_
  subst y2
  have hP9 : va_P K.1 classes [(a0, zO 10 83 (va_up g0 81 (.int 2)))] H := hP.sub [0] rfl
  have hD9 : va_D A [(a0, zO 10 83 (va_up g0 81 (.int 2)))] := hD.sub [0] (by decide) rfl
  exact z_zret hx hb hr rfl (fun _ => 0) rfl hP9 hD9 hS (Nat.le_of_ble_eq_true rfl) (Nat.le_of_ble_eq_true rfl) hlocks dX12_can_14
set_option maxHeartbeats 4000000 in
set_option maxRecDepth 100000 in
theorem cX12_mayTell_3 (l : Launch) (K : zK) (sz : Nat) (a0 : Nat) (g0 : Nat → Value) : Met l yX12_mayTell (Cond.code yX12_mayTell cX12_mayTell 3 (some .boolean) :: WG) { frames := 1, cells := 0, slots := 0, locals := 21 } (zPre K [(a0, zO 10 83 g0)] sz [.ref a0, .int 1, .int 0]) (va_Qi (fun (r : Int32) (_ : Nat → Nat) => r = 0) (zB K (va_A [(a0, zO 10 83 g0)] sz) (fun u : Nat → Nat => [(a0, zO 10 83 (va_up g0 81 (.int 2)))])) (va_A [(a0, zO 10 83 g0)] sz)) 0 0 (va_A [(a0, zO 10 83 g0)] sz) := by
  refine z_met (Qc := fun A => (va_Qi (fun (r : Int32) (_ : Nat → Nat) => r = 0) (zB K A (fun u : Nat → Nat => [(a0, zO 10 83 (va_up g0 81 (.int 2)))])) A)) (by decide +kernel) (Nat.le_of_ble_eq_true rfl) ?_
  intro p e s m args below meth c A ls H hx hb hr hg hown hlocks hml hin hK hP hD hA hS hZ hl
  have hown : s.vm.findClass RX12 = some m.cls := hown
  have hl : lv_has ls 3 [(0, .ref a0), (1, .int 1), (2, .int 0)] := hl
  refine lv_aload_n hx hb dX12_mayTell_0 rfl (lv_at hl 0 rfl) ?_
  refine lv_iload_n hx hb dX12_mayTell_1 rfl (lv_at hl 1 rfl) ?_
  refine lv_if_ne (tgt := 9) hx hb dX12_mayTell_2 (by decide) (fun _ => ?_) (fun c => absurd c (by decide))
  refine lv_iload_n hx hb dX12_mayTell_9 rfl (lv_at hl 2 rfl) ?_
  refine lv_if_ne (tgt := 17) hx hb dX12_mayTell_10 (by decide) (fun c => absurd (by decide) c) (fun _ => ?_)
  refine lv_iconst (v := 2) hx hb dX12_mayTell_13 (by decide) ?_
  refine lv_goto (tgt := 32) hx hb dX12_mayTell_14 (by decide) ?_
  refine z_calli [(a0, zO 10 83 g0)] [] [0] [] hP hD hS hA rfl rfl (by decide) (by decide) (by decide +kernel) 0 0 rfl rfl (fun hPc hDc hF => z_runV (As := [.int 2]) (rest := []) ⟨hx, hb, hml, hown, hg⟩ (cX12_can_3 l K H.size a0 g0) kV_RX12_182 hd_X12_can rfl rfl ⟨(Nat.le_of_ble_eq_true rfl), (Nat.le_of_ble_eq_true rfl)⟩ hK hS hZ hPc hDc hF 0 rfl rfl rfl hl.1 rfl (Nat.le_of_ble_eq_true rfl) dX12_mayTell_32 ⟨(Nat.le_of_ble_eq_true rfl), (Nat.le_of_ble_eq_true rfl)⟩) (fun r3 u1 H locs w2 hP hD hS => ?_)
  subst w2
  have hP : va_P K.1 classes [(a0, zO 10 83 (va_up g0 81 (.int 2)))] H := hP
  have hD : va_D A [(a0, zO 10 83 (va_up g0 81 (.int 2)))] := hD
  have hP9 : va_P K.1 classes [(a0, zO 10 83 (va_up g0 81 (.int 2)))] H := hP.sub [0] rfl
  have hD9 : va_D A [(a0, zO 10 83 (va_up g0 81 (.int 2)))] := hD.sub [0] (by decide) rfl
  exact z_zret hx hb hr rfl (fun _ => 0) rfl hP9 hD9 hS (Nat.le_of_ble_eq_true rfl) (Nat.le_of_ble_eq_true rfl) hlocks dX12_mayTell_35
set_option maxHeartbeats 4000000 in
set_option maxRecDepth 100000 in
theorem cX12_con_1 (l : Launch) (K : zK) (sz : Nat) (a0 : Nat) (g0 : Nat → Value) (x0 : Int32) (e0 : x0 < (0 : Int32)) : Met l yX12_con (Cond.code yX12_con cX12_con 6 (some .int) :: WG) { frames := 2, cells := 0, slots := 0, locals := 43 } (zPre K [(a0, zO 10 83 g0)] sz [.ref a0, .int x0, .int (-1), .int (-1)]) (va_Qi (fun (r : Int32) (_ : Nat → Nat) => r = 0) (zB K (va_A [(a0, zO 10 83 g0)] sz) (fun u : Nat → Nat => [(a0, zO 10 83 (va_up g0 81 (.int 2)))])) (va_A [(a0, zO 10 83 g0)] sz)) 0 0 (va_A [(a0, zO 10 83 g0)] sz) := by
  refine z_met (Qc := fun A => (va_Qi (fun (r : Int32) (_ : Nat → Nat) => r = 0) (zB K A (fun u : Nat → Nat => [(a0, zO 10 83 (va_up g0 81 (.int 2)))])) A)) (by decide +kernel) (Nat.le_of_ble_eq_true rfl) ?_
  intro p e s m args below meth c A ls H hx hb hr hg hown hlocks hml hin hK hP hD hA hS hZ hl
  have hown : s.vm.findClass RX12 = some m.cls := hown
  have hl : lv_has ls 6 [(0, .ref a0), (1, .int x0), (2, .int (-1)), (3, .int (-1))] := hl
  refine lv_iload_n hx hb dX12_con_0 rfl (lv_at hl 2 rfl) ?_
  refine lv_iconst (v := (-1)) hx hb dX12_con_1 (by decide) ?_
  refine lv_icmp_eq (tgt := 13) hx hb dX12_con_2 (by decide) (fun _ => ?_) (fun c => absurd (by decide) c)
  refine lv_iload_n hx hb dX12_con_13 rfl (lv_at hl 3 rfl) ?_
  refine lv_iconst (v := (-1)) hx hb dX12_con_14 (by decide) ?_
  refine lv_icmp_eq (tgt := 26) hx hb dX12_con_15 (by decide) (fun _ => ?_) (fun c => absurd (by decide) c)
  refine lv_iconst (v := 1) hx hb dX12_con_26 (by decide) ?_
  refine lv_goto (tgt := 31) hx hb dX12_con_27 (by decide) ?_
  refine lv_istore (lv' := [(4, .int 1), (0, .ref a0), (1, .int x0), (2, .int (-1)), (3, .int (-1))]) hx hb dX12_con_31 hl (by decide) rfl (fun ls hl => ?_)
  refine lv_iload hx hb dX12_con_33 (lv_at hl 0 rfl) ?_
  refine lv_if_eq (tgt := 85) hx hb dX12_con_35 (by decide) (fun c => absurd c (by decide)) (fun _ => ?_)
  refine lv_iload_n hx hb dX12_con_38 rfl (lv_at hl 2 rfl) ?_
  refine lv_iconst (v := 0) hx hb dX12_con_39 (by decide) ?_
  refine lv_iconst (v := 3) hx hb dX12_con_40 (by decide) ?_
  refine z_calli [] [(a0, zO 10 83 g0)] [] [0] hP hD hS hA rfl rfl (by decide) (by decide) (by decide +kernel) 0 0 rfl rfl (fun hPc hDc hF => z_runS (As := [.int x0, .int 0, .int 3]) (rest := []) ⟨hx, hb, hml, hown, hg⟩ (cX12_isIn_9 l K H.size x0 e0) kS_RX12_175 hd_X12_isIn rfl rfl ⟨(Nat.le_of_ble_eq_true rfl), (Nat.le_of_ble_eq_true rfl)⟩ hK hS hZ hPc hDc hF rfl hl.1 rfl (Nat.le_of_ble_eq_true rfl) dX12_con_41 ⟨(Nat.le_of_ble_eq_true rfl), (Nat.le_of_ble_eq_true rfl)⟩) (fun r3 u1 H locs w2 hP hD hS => ?_)
  subst w2
  have hP : va_P K.1 classes [(a0, zO 10 83 g0)] H := hP
  have hD : va_D A [(a0, zO 10 83 g0)] := hD
  refine lv_if_eq (tgt := 85) hx hb dX12_con_44 (by decide) (fun _ => ?_) (fun c => absurd (by decide) c)
  refine lv_iconst (v := 0) hx hb dX12_con_85 (by decide) ?_
  refine lv_istore (lv' := [(5, .int 0), (4, .int 1), (0, .ref a0), (1, .int x0), (2, .int (-1)), (3, .int (-1))]) hx hb dX12_con_86 hl (by decide) rfl (fun ls hl => ?_)
  refine lv_aload_n hx hb dX12_con_88 rfl (lv_at hl 2 rfl) ?_
  refine lv_iload hx hb dX12_con_89 (lv_at hl 1 rfl) ?_
  refine lv_iload hx hb dX12_con_91 (lv_at hl 0 rfl) ?_
  refine z_calli [(a0, zO 10 83 g0)] [] [0] [] hP hD hS hA rfl rfl (by decide) (by decide) (by decide +kernel) 0 0 rfl rfl (fun hPc hDc hF => z_runV (As := [.int 1, .int 0]) (rest := []) ⟨hx, hb, hml, hown, hg⟩ (cX12_mayTell_3 l K H.size a0 g0) kV_RX12_203 hd_X12_mayTell rfl rfl ⟨(Nat.le_of_ble_eq_true rfl), (Nat.le_of_ble_eq_true rfl)⟩ hK hS hZ hPc hDc hF 0 rfl rfl rfl hl.1 rfl (Nat.le_of_ble_eq_true rfl) dX12_con_93 ⟨(Nat.le_of_ble_eq_true rfl), (Nat.le_of_ble_eq_true rfl)⟩) (fun r6 u4 H locs w5 hP hD hS => ?_)
  subst w5
  have hP : va_P K.1 classes [(a0, zO 10 83 (va_up g0 81 (.int 2)))] H := hP
  have hD : va_D A [(a0, zO 10 83 (va_up g0 81 (.int 2)))] := hD
  refine lv_if_eq (tgt := 113) hx hb dX12_con_96 (by decide) (fun _ => ?_) (fun c => absurd (by decide) c)
  refine lv_iconst (v := 0) hx hb dX12_con_113 (by decide) ?_
  have hP9 : va_P K.1 classes [(a0, zO 10 83 (va_up g0 81 (.int 2)))] H := hP.sub [0] rfl
  have hD9 : va_D A [(a0, zO 10 83 (va_up g0 81 (.int 2)))] := hD.sub [0] (by decide) rfl
  exact z_iret hx hb hr (fun _ => 0) rfl hP9 hD9 hS (Nat.le_of_ble_eq_true rfl) (Nat.le_of_ble_eq_true rfl) hlocks dX12_con_114
set_option maxHeartbeats 4000000 in
set_option maxRecDepth 100000 in
theorem cX12_thrown_3 (l : Launch) (K : zK) (sz : Nat) (a0 : Nat) (g0 : Nat → Value) (e0 : g0 81 = (.int 2)) : Met l yX12_thrown (Cond.code yX12_thrown cX12_thrown 1 (some .int) :: WG) { frames := 0, cells := 0, slots := 0, locals := 0 } (zPre K [(a0, zO 10 83 g0)] sz [.ref a0]) (va_Qi (fun (r : Int32) (_ : Nat → Nat) => r = 2) (zB K (va_A [(a0, zO 10 83 g0)] sz) (fun u : Nat → Nat => [(a0, zO 10 83 g0)])) (va_A [(a0, zO 10 83 g0)] sz)) 0 0 (va_A [(a0, zO 10 83 g0)] sz) := by
  refine z_met (Qc := fun A => (va_Qi (fun (r : Int32) (_ : Nat → Nat) => r = 2) (zB K A (fun u : Nat → Nat => [(a0, zO 10 83 g0)])) A)) (by decide +kernel) (Nat.le_of_ble_eq_true rfl) ?_
  intro p e s m args below meth c A ls H hx hb hr hg hown hlocks hml hin hK hP hD hA hS hZ hl
  have hown : s.vm.findClass RX12 = some m.cls := hown
  have hl : lv_has ls 1 [(0, .ref a0)] := hl
  refine lv_aload_n hx hb dX12_thrown_0 rfl (lv_at hl 0 rfl) ?_
  refine z_get (v := .int 2) hx hb hg hown hK hP i_X12 rfl 0 rfl 81 (by decide) mt1361 e0 dX12_thrown_1 ?_
  have hP9 : va_P K.1 classes [(a0, zO 10 83 g0)] H := hP.sub [0] rfl
  have hD9 : va_D A [(a0, zO 10 83 g0)] := hD.sub [0] (by decide) rfl
  exact z_iret hx hb hr (fun _ => 0) rfl hP9 hD9 hS (Nat.le_of_ble_eq_true rfl) (Nat.le_of_ble_eq_true rfl) hlocks dX12_thrown_4
set_option maxHeartbeats 4000000 in
set_option maxRecDepth 100000 in
theorem cX11_checkRange_8 (l : Launch) (K : zK) (sz : Nat) (a0 : Nat) (g0 : Nat → Value) (j0 : Nat) (hj0 : j0 < 4) : Met l yX11_checkRange (Cond.code yX11_checkRange cX11_checkRange 3 none :: WG) { frames := 0, cells := 0, slots := 0, locals := 0 } (zPre K [(a0, zO 9 9 g0)] sz [.ref a0, .int (nI j0), .int 4]) (va_Qv (fun _ : Nat → Nat => True) (zB K (va_A [(a0, zO 9 9 g0)] sz) (fun u : Nat → Nat => [(a0, zO 9 9 g0)])) (va_A [(a0, zO 9 9 g0)] sz)) 0 0 (va_A [(a0, zO 9 9 g0)] sz) := by
  refine z_met (Qc := fun A => (va_Qv (fun _ : Nat → Nat => True) (zB K A (fun u : Nat → Nat => [(a0, zO 9 9 g0)])) A)) (by decide +kernel) (Nat.le_of_ble_eq_true rfl) ?_
  intro p e s m args below meth c A ls H hx hb hr hg hown hlocks hml hin hK hP hD hA hS hZ hl
  have hown : s.vm.findClass RX11 = some m.cls := hown
  have hl : lv_has ls 3 [(0, .ref a0), (1, .int (nI j0)), (2, .int 4)] := hl
  refine lv_iload_n hx hb dX11_checkRange_0 rfl (lv_at hl 1 rfl) ?_
  refine lv_if_lt (tgt := 9) hx hb dX11_checkRange_1 (by decide) (fun c => absurd c ((by decide : ∀ j, j < 4 → ¬ ((nI j) < (0 : Int32))) j0 hj0)) (fun _ => ?_)
  refine lv_iload_n hx hb dX11_checkRange_4 rfl (lv_at hl 1 rfl) ?_
  refine lv_iload_n hx hb dX11_checkRange_5 rfl (lv_at hl 2 rfl) ?_
  refine lv_icmp_lt (tgt := 19) hx hb dX11_checkRange_6 (by decide) (fun _ => ?_) (fun c => absurd ((by decide : ∀ j, j < 4 → ((nI j) < (4 : Int32))) j0 hj0) c)
  have hP9 : va_P K.1 classes [(a0, zO 9 9 g0)] H := hP.sub [0] rfl
  have hD9 : va_D A [(a0, zO 9 9 g0)] := hD.sub [0] (by decide) rfl
  exact z_vret hx hb hr (fun _ => 0) trivial hP9 hD9 hS (Nat.le_of_ble_eq_true rfl) (Nat.le_of_ble_eq_true rfl) hlocks dX11_checkRange_19
set_option maxHeartbeats 4000000 in
set_option maxRecDepth 100000 in
theorem cX9_set_4 (l : Launch) (K : zK) (sz : Nat) (a0 : Nat) (a1 : Nat) (a2 : Nat) (a3 : Nat) (a4 : Nat) (a5 : Nat) (g0 : Nat → Value) (f1 : Nat → Int32) (f2 : Nat → Int32) (f3 : Nat → Int32) (f4 : Nat → Int32) (f5 : Nat → Int32) (j0 : Nat) (hj0 : j0 < 4) (e0 : g0 5 = (.int 1)) (e1 : g0 0 = (.ref a1)) (e2 : g0 1 = (.ref a2)) (e3 : g0 2 = (.ref a3)) (e4 : g0 3 = (.ref a4)) (e5 : g0 4 = (.ref a5)) : Met l yX9_set (Cond.code yX9_set cX9_set 6 none :: WG) { frames := 1, cells := 0, slots := 0, locals := 21 } (zPre K [(a0, zO 7 6 g0), (a1, zI K 200 f1), (a2, zI K 200 f2), (a3, zI K 200 f3), (a4, zI K 200 f4), (a5, zI K 600 f5)] sz [.ref a0, .int 0, .int 7, .int (nI j0), .int 0, .int 0]) (va_Qv (fun _ : Nat → Nat => True) (zB K (va_A [(a0, zO 7 6 g0), (a1, zI K 200 f1), (a2, zI K 200 f2), (a3, zI K 200 f3), (a4, zI K 200 f4), (a5, zI K 600 f5)] sz) (fun u : Nat → Nat => [(a0, zO 7 6 g0), (a1, zI K 200 (va_up f1 0 7)), (a2, zI K 200 (va_up f2 0 (nI j0))), (a3, zI K 200 (va_up f3 0 0)), (a4, zI K 200 (va_up f4 0 0)), (a5, zI K 600 (va_up (va_up (va_up f5 0 (-1)) 1 (-1)) 2 (-1)))])) (va_A [(a0, zO 7 6 g0), (a1, zI K 200 f1), (a2, zI K 200 f2), (a3, zI K 200 f3), (a4, zI K 200 f4), (a5, zI K 600 f5)] sz)) 0 0 (va_A [(a0, zO 7 6 g0), (a1, zI K 200 f1), (a2, zI K 200 f2), (a3, zI K 200 f3), (a4, zI K 200 f4), (a5, zI K 600 f5)] sz) := by
  refine z_met (Qc := fun A => (va_Qv (fun _ : Nat → Nat => True) (zB K A (fun u : Nat → Nat => [(a0, zO 7 6 g0), (a1, zI K 200 (va_up f1 0 7)), (a2, zI K 200 (va_up f2 0 (nI j0))), (a3, zI K 200 (va_up f3 0 0)), (a4, zI K 200 (va_up f4 0 0)), (a5, zI K 600 (va_up (va_up (va_up f5 0 (-1)) 1 (-1)) 2 (-1)))])) A)) (by decide +kernel) (Nat.le_of_ble_eq_true rfl) ?_
  intro p e s m args below meth c A ls H hx hb hr hg hown hlocks hml hin hK hP hD hA hS hZ hl
  have hown : s.vm.findClass RX9 = some m.cls := hown
  have hl : lv_has ls 6 [(0, .ref a0), (1, .int 0), (2, .int 7), (3, .int (nI j0)), (4, .int 0), (5, .int 0)] := hl
  refine lv_aload_n hx hb dX9_set_0 rfl (lv_at hl 0 rfl) ?_
  refine lv_iload_n hx hb dX9_set_1 rfl (lv_at hl 1 rfl) ?_
  refine z_calli [(a0, zO 7 6 g0)] [(a1, zI K 200 f1), (a2, zI K 200 f2), (a3, zI K 200 f3), (a4, zI K 200 f4), (a5, zI K 600 f5)] [0] [1, 2, 3, 4, 5] hP hD hS hA rfl rfl (by decide) (by decide) (by decide +kernel) 0 0 rfl rfl (fun hPc hDc hF => z_runV (As := [.int 0]) (rest := []) ⟨hx, hb, hml, hown, hg⟩ (cX9_has_1 l K H.size a0 g0 e0) kV_RX9_31 hd_X9_has rfl rfl ⟨(Nat.le_of_ble_eq_true rfl), (Nat.le_of_ble_eq_true rfl)⟩ hK hS hZ hPc hDc hF 0 rfl rfl rfl hl.1 rfl (Nat.le_of_ble_eq_true rfl) dX9_set_2 ⟨(Nat.le_of_ble_eq_true rfl), (Nat.le_of_ble_eq_true rfl)⟩) (fun r3 u1 H locs w2 hP hD hS => ?_)
  subst w2
  have hP : va_P K.1 classes [(a1, zI K 200 f1), (a2, zI K 200 f2), (a3, zI K 200 f3), (a4, zI K 200 f4), (a5, zI K 600 f5), (a0, zO 7 6 g0)] H := hP
  have hD : va_D A [(a1, zI K 200 f1), (a2, zI K 200 f2), (a3, zI K 200 f3), (a4, zI K 200 f4), (a5, zI K 600 f5), (a0, zO 7 6 g0)] := hD
  refine lv_if_eq (tgt := 69) hx hb dX9_set_5 (by decide) (fun c => absurd c (by decide)) (fun _ => ?_)
  refine lv_aload_n hx hb dX9_set_8 rfl (lv_at hl 0 rfl) ?_
  refine z_get (v := .ref a1) hx hb hg hown hK hP i_X9 rfl 5 rfl 0 (by decide) mt37 e1 dX9_set_9 ?_
  refine lv_iload_n hx hb dX9_set_12 rfl (lv_at hl 1 rfl) ?_
  refine lv_iload_n hx hb dX9_set_13 rfl (lv_at hl 2 rfl) ?_
  refine z_iast (j := 0) hx hb hK hP hD hS 0 rfl rfl (Nat.le_of_ble_eq_true rfl) (Nat.le_of_ble_eq_true rfl) dX9_set_14 (fun ff4 H locs y5 hP hD hS => ?_)
  have hP : va_P K.1 classes [(a1, zI K 200 ff4), (a2, zI K 200 f2), (a3, zI K 200 f3), (a4, zI K 200 f4), (a5, zI K 600 f5), (a0, zO 7 6 g0)] H := hP
  have hD : va_D A [(a1, zI K 200 ff4), (a2, zI K 200 f2), (a3, zI K 200 f3), (a4, zI K 200 f4), (a5, zI K 600 f5), (a0, zO 7 6 g0)] := hD
  refine lv_aload_n hx hb dX9_set_15 rfl (lv_at hl 0 rfl) ?_
  refine z_get (v := .ref a2) hx hb hg hown hK hP i_X9 rfl 5 rfl 1 (by decide) mt38 e2 dX9_set_16 ?_
  refine lv_iload_n hx hb dX9_set_19 rfl (lv_at hl 1 rfl) ?_
  refine lv_iload_n hx hb dX9_set_20 rfl (lv_at hl 3 rfl) ?_
  refine z_iast (j := 0) hx hb hK hP hD hS 1 rfl rfl (Nat.le_of_ble_eq_true rfl) (Nat.le_of_ble_eq_true rfl) dX9_set_21 (fun ff6 H locs y7 hP hD hS => ?_)
  have hP : va_P K.1 classes [(a1, zI K 200 ff4), (a2, zI K 200 ff6), (a3, zI K 200 f3), (a4, zI K 200 f4), (a5, zI K 600 f5), (a0, zO 7 6 g0)] H := hP
  have hD : va_D A [(a1, zI K 200 ff4), (a2, zI K 200 ff6), (a3, zI K 200 f3), (a4, zI K 200 f4), (a5, zI K 600 f5), (a0, zO 7 6 g0)] := hD
  refine lv_aload_n hx hb dX9_set_22 rfl (lv_at hl 0 rfl) ?_
  refine z_get (v := .ref a3) hx hb hg hown hK hP i_X9 rfl 5 rfl 2 (by decide) mt39 e3 dX9_set_23 ?_
  refine lv_iload_n hx hb dX9_set_26 rfl (lv_at hl 1 rfl) ?_
  refine lv_iload hx hb dX9_set_27 (lv_at hl 4 rfl) ?_
  refine z_iast (j := 0) hx hb hK hP hD hS 2 rfl rfl (Nat.le_of_ble_eq_true rfl) (Nat.le_of_ble_eq_true rfl) dX9_set_29 (fun ff8 H locs y9 hP hD hS => ?_)
  have hP : va_P K.1 classes [(a1, zI K 200 ff4), (a2, zI K 200 ff6), (a3, zI K 200 ff8), (a4, zI K 200 f4), (a5, zI K 600 f5), (a0, zO 7 6 g0)] H := hP
  have hD : va_D A [(a1, zI K 200 ff4), (a2, zI K 200 ff6), (a3, zI K 200 ff8), (a4, zI K 200 f4), (a5, zI K 600 f5), (a0, zO 7 6 g0)] := hD
  refine lv_aload_n hx hb dX9_set_30 rfl (lv_at hl 0 rfl) ?_
  refine z_get (v := .ref a4) hx hb hg hown hK hP i_X9 rfl 5 rfl 3 (by decide) mt40 e4 dX9_set_31 ?_
  refine lv_iload_n hx hb dX9_set_34 rfl (lv_at hl 1 rfl) ?_
  refine lv_iload hx hb dX9_set_35 (lv_at hl 5 rfl) ?_
  refine z_iast (j := 0) hx hb hK hP hD hS 3 rfl rfl (Nat.le_of_ble_eq_true rfl) (Nat.le_of_ble_eq_true rfl) dX9_set_37 (fun ff10 H locs y11 hP hD hS => ?_)
  have hP : va_P K.1 classes [(a1, zI K 200 ff4), (a2, zI K 200 ff6), (a3, zI K 200 ff8), (a4, zI K 200 ff10), (a5, zI K 600 f5), (a0, zO 7 6 g0)] H := hP
  have hD : va_D A [(a1, zI K 200 ff4), (a2, zI K 200 ff6), (a3, zI K 200 ff8), (a4, zI K 200 ff10), (a5, zI K 600 f5), (a0, zO 7 6 g0)] := hD
  refine lv_aload_n hx hb dX9_set_38 rfl (lv_at hl 0 rfl) ?_
  refine z_get (v := .ref a5) hx hb hg hown hK hP i_X9 rfl 5 rfl 4 (by decide) mt41 e5 dX9_set_39 ?_
  refine lv_iconst (v := 3) hx hb dX9_set_42 (by decide) ?_
  refine lv_iload_n hx hb dX9_set_43 rfl (lv_at hl 1 rfl) ?_
  refine lv_imul hx hb dX9_set_44 ?_
  refine z_cst (v := 0) (by decide +kernel) ?_
  refine lv_iconst (v := (-1)) hx hb dX9_set_45 (by decide) ?_
  refine z_iast (j := 0) hx hb hK hP hD hS 4 rfl rfl (Nat.le_of_ble_eq_true rfl) (Nat.le_of_ble_eq_true rfl) dX9_set_46 (fun ff12 H locs y13 hP hD hS => ?_)
  have hP : va_P K.1 classes [(a1, zI K 200 ff4), (a2, zI K 200 ff6), (a3, zI K 200 ff8), (a4, zI K 200 ff10), (a5, zI K 600 ff12), (a0, zO 7 6 g0)] H := hP
  have hD : va_D A [(a1, zI K 200 ff4), (a2, zI K 200 ff6), (a3, zI K 200 ff8), (a4, zI K 200 ff10), (a5, zI K 600 ff12), (a0, zO 7 6 g0)] := hD
  refine lv_aload_n hx hb dX9_set_47 rfl (lv_at hl 0 rfl) ?_
  refine z_get (v := .ref a5) hx hb hg hown hK hP i_X9 rfl 5 rfl 4 (by decide) mt41 e5 dX9_set_48 ?_
  refine lv_iconst (v := 3) hx hb dX9_set_51 (by decide) ?_
  refine lv_iload_n hx hb dX9_set_52 rfl (lv_at hl 1 rfl) ?_
  refine lv_imul hx hb dX9_set_53 ?_
  refine z_cst (v := 0) (by decide +kernel) ?_
  refine lv_iconst (v := 1) hx hb dX9_set_54 (by decide) ?_
  refine lv_iadd hx hb dX9_set_55 ?_
  refine z_cst (v := 1) (by decide +kernel) ?_
  refine lv_iconst (v := (-1)) hx hb dX9_set_56 (by decide) ?_
  refine z_iast (j := 1) hx hb hK hP hD hS 4 rfl rfl (Nat.le_of_ble_eq_true rfl) (Nat.le_of_ble_eq_true rfl) dX9_set_57 (fun ff14 H locs y15 hP hD hS => ?_)
  have hP : va_P K.1 classes [(a1, zI K 200 ff4), (a2, zI K 200 ff6), (a3, zI K 200 ff8), (a4, zI K 200 ff10), (a5, zI K 600 ff14), (a0, zO 7 6 g0)] H := hP
  have hD : va_D A [(a1, zI K 200 ff4), (a2, zI K 200 ff6), (a3, zI K 200 ff8), (a4, zI K 200 ff10), (a5, zI K 600 ff14), (a0, zO 7 6 g0)] := hD
  refine lv_aload_n hx hb dX9_set_58 rfl (lv_at hl 0 rfl) ?_
  refine z_get (v := .ref a5) hx hb hg hown hK hP i_X9 rfl 5 rfl 4 (by decide) mt41 e5 dX9_set_59 ?_
  refine lv_iconst (v := 3) hx hb dX9_set_62 (by decide) ?_
  refine lv_iload_n hx hb dX9_set_63 rfl (lv_at hl 1 rfl) ?_
  refine lv_imul hx hb dX9_set_64 ?_
  refine z_cst (v := 0) (by decide +kernel) ?_
  refine lv_iconst (v := 2) hx hb dX9_set_65 (by decide) ?_
  refine lv_iadd hx hb dX9_set_66 ?_
  refine z_cst (v := 2) (by decide +kernel) ?_
  refine lv_iconst (v := (-1)) hx hb dX9_set_67 (by decide) ?_
  refine z_iast (j := 2) hx hb hK hP hD hS 4 rfl rfl (Nat.le_of_ble_eq_true rfl) (Nat.le_of_ble_eq_true rfl) dX9_set_68 (fun ff16 H locs y17 hP hD hS => ?_)
  have hP : va_P K.1 classes [(a1, zI K 200 ff4), (a2, zI K 200 ff6), (a3, zI K 200 ff8), (a4, zI K 200 ff10), (a5, zI K 600 ff16), (a0, zO 7 6 g0)] H := hP
  have hD : va_D A [(a1, zI K 200 ff4), (a2, zI K 200 ff6), (a3, zI K 200 ff8), (a4, zI K 200 ff10), (a5, zI K 600 ff16), (a0, zO 7 6 g0)] := hD
  subst y17
  subst y15
  subst y13
  subst y11
  subst y9
  subst y7
  subst y5
  have hP9 : va_P K.1 classes [(a0, zO 7 6 g0), (a1, zI K 200 (va_up f1 0 7)), (a2, zI K 200 (va_up f2 0 (nI j0))), (a3, zI K 200 (va_up f3 0 0)), (a4, zI K 200 (va_up f4 0 0)), (a5, zI K 600 (va_up (va_up (va_up f5 0 (-1)) 1 (-1)) 2 (-1)))] H := hP.sub [5, 0, 1, 2, 3, 4] rfl
  have hD9 : va_D A [(a0, zO 7 6 g0), (a1, zI K 200 (va_up f1 0 7)), (a2, zI K 200 (va_up f2 0 (nI j0))), (a3, zI K 200 (va_up f3 0 0)), (a4, zI K 200 (va_up f4 0 0)), (a5, zI K 600 (va_up (va_up (va_up f5 0 (-1)) 1 (-1)) 2 (-1)))] := hD.sub [5, 0, 1, 2, 3, 4] (by decide) rfl
  exact z_vret hx hb hr (fun _ => 0) trivial hP9 hD9 hS (Nat.le_of_ble_eq_true rfl) (Nat.le_of_ble_eq_true rfl) hlocks dX9_set_69
