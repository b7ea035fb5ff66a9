/-! calls of the law's cases [19] (printed by wip/p1/walk.py) -/
set_option maxHeartbeats 4000000 in
set_option maxRecDepth 100000 in
theorem cX12_reaches_9 (l : Launch) (K : zK) (sz : Nat) (a0 : Nat) (a1 : Nat) (a2 : Nat) (g0 : Nat → Value) (f1 : Nat → Int32) (f2 : Nat → Int32) (e0 : g0 52 = (.ref a1)) (e1 : f1 8 = (-1)) (e2 : g0 53 = (.ref a2)) (e3 : g0 54 = (.int 8)) : Met l yX12_reaches (Cond.code yX12_reaches cX12_reaches 2 none :: WG) { frames := 0, cells := 0, slots := 0, locals := 0 } (zPre K [(a0, zO 10 83 g0), (a1, zI K 210000 f1), (a2, zI K 210000 f2)] sz [.ref a0, .int 8]) (va_Qv (fun _ : Nat → Nat => True) (zB K (va_A [(a0, zO 10 83 g0), (a1, zI K 210000 f1), (a2, zI K 210000 f2)] sz) (fun u : Nat → Nat => [(a0, zO 10 83 (va_up g0 54 (.int 9))), (a1, zI K 210000 (va_up f1 8 0)), (a2, zI K 210000 (va_up f2 8 8))])) (va_A [(a0, zO 10 83 g0), (a1, zI K 210000 f1), (a2, zI K 210000 f2)] sz)) 0 0 (va_A [(a0, zO 10 83 g0), (a1, zI K 210000 f1), (a2, zI K 210000 f2)] sz) := by
  refine z_met (Qc := fun A => (va_Qv (fun _ : Nat → Nat => True) (zB K A (fun u : Nat → Nat => [(a0, zO 10 83 (va_up g0 54 (.int 9))), (a1, zI K 210000 (va_up f1 8 0)), (a2, zI K 210000 (va_up f2 8 8))])) A)) (by decide +kernel) (Nat.le_of_ble_eq_true rfl) ?_
  intro p e s m args below meth c A ls H hx hb hr hg hown hlocks hml hin hK hP hD hA hS hZ hl
  have hown : s.vm.findClass RX12 = some m.cls := hown
  have hl : lv_has ls 2 [(0, .ref a0), (1, .int 8)] := hl
  refine lv_iload_n hx hb dX12_reaches_0 rfl (lv_at hl 1 rfl) ?_
  refine lv_iconst (v := (-1)) hx hb dX12_reaches_1 (by decide) ?_
  refine lv_icmp_eq (tgt := 42) hx hb dX12_reaches_2 (by decide) (fun c => absurd c (by decide)) (fun _ => ?_)
  refine lv_aload_n hx hb dX12_reaches_5 rfl (lv_at hl 0 rfl) ?_
  refine z_get (v := .ref a1) hx hb hg hown hK hP i_X12 rfl 0 rfl 52 (by decide) mt1332 e0 dX12_reaches_6 ?_
  refine lv_iload_n hx hb dX12_reaches_9 rfl (lv_at hl 1 rfl) ?_
  refine z_iald (v := (-1)) (j := 8) hx hb hK hP 1 rfl rfl (Nat.le_of_ble_eq_true rfl) (Nat.le_of_ble_eq_true rfl) e1 dX12_reaches_10 ?_
  refine lv_iconst (v := (-1)) hx hb dX12_reaches_11 (by decide) ?_
  refine lv_icmp_ne (tgt := 42) hx hb dX12_reaches_12 (by decide) (fun c => absurd (by decide) c) (fun _ => ?_)
  refine lv_aload_n hx hb dX12_reaches_15 rfl (lv_at hl 0 rfl) ?_
  refine z_get (v := .ref a1) hx hb hg hown hK hP i_X12 rfl 0 rfl 52 (by decide) mt1332 e0 dX12_reaches_16 ?_
  refine lv_iload_n hx hb dX12_reaches_19 rfl (lv_at hl 1 rfl) ?_
  refine lv_iconst (v := 0) hx hb dX12_reaches_20 (by decide) ?_
  refine z_iast (j := 8) hx hb hK hP hD hS 1 rfl rfl (Nat.le_of_ble_eq_true rfl) (Nat.le_of_ble_eq_true rfl) dX12_reaches_21 (fun ff1 H locs y2 hP hD hS => ?_)
  have hP : va_P K.1 classes [(a0, zO 10 83 g0), (a1, zI K 210000 ff1), (a2, zI K 210000 f2)] H := hP
  have hD : va_D A [(a0, zO 10 83 g0), (a1, zI K 210000 ff1), (a2, zI K 210000 f2)] := hD
  refine lv_aload_n hx hb dX12_reaches_22 rfl (lv_at hl 0 rfl) ?_
  refine z_get (v := .ref a2) hx hb hg hown hK hP i_X12 rfl 0 rfl 53 (by decide) mt1333 e2 dX12_reaches_23 ?_
  refine lv_aload_n hx hb dX12_reaches_26 rfl (lv_at hl 0 rfl) ?_
  refine z_get (v := .int 8) hx hb hg hown hK hP i_X12 rfl 0 rfl 54 (by decide) mt1334 e3 dX12_reaches_27 ?_
  refine lv_iload_n hx hb dX12_reaches_30 rfl (lv_at hl 1 rfl) ?_
  refine z_iast (j := 8) hx hb hK hP hD hS 2 rfl rfl (Nat.le_of_ble_eq_true rfl) (Nat.le_of_ble_eq_true rfl) dX12_reaches_31 (fun ff3 H locs y4 hP hD hS => ?_)
  have hP : va_P K.1 classes [(a0, zO 10 83 g0), (a1, zI K 210000 ff1), (a2, zI K 210000 ff3)] H := hP
  have hD : va_D A [(a0, zO 10 83 g0), (a1, zI K 210000 ff1), (a2, zI K 210000 ff3)] := hD
  refine lv_aload_n hx hb dX12_reaches_32 rfl (lv_at hl 0 rfl) ?_
  refine lv_dup hx hb dX12_reaches_33 rfl ?_
  refine z_get (v := .int 8) hx hb hg hown hK hP i_X12 rfl 0 rfl 54 (by decide) mt1334 e3 dX12_reaches_34 ?_
  refine lv_iconst (v := 1) hx hb dX12_reaches_37 (by decide) ?_
  refine lv_iadd hx hb dX12_reaches_38 ?_
  refine z_cst (v := 9) (by decide +kernel) ?_
  refine z_put hx hb hg hown hK hP hD hS i_X12 rfl tyX12_ok nmX12 0 rfl 54 (by decide) mt1334 rfl rfl rfl dX12_reaches_39 (fun gg5 H locs y6 hP hD hS => ?_)
  have hP : va_P K.1 classes [(a0, zO 10 83 gg5), (a1, zI K 210000 ff1), (a2, zI K 210000 ff3)] H := hP
  have hD : va_D A [(a0, zO 10 83 gg5), (a1, zI K 210000 ff1), (a2, zI K 210000 ff3)] := hD
  subst y6
  subst y4
  subst y2
  have hP9 : va_P K.1 classes [(a0, zO 10 83 (va_up g0 54 (.int 9))), (a1, zI K 210000 (va_up f1 8 0)), (a2, zI K 210000 (va_up f2 8 8))] H := hP.sub [0, 1, 2] rfl
  have hD9 : va_D A [(a0, zO 10 83 (va_up g0 54 (.int 9))), (a1, zI K 210000 (va_up f1 8 0)), (a2, zI K 210000 (va_up f2 8 8))] := hD.sub [0, 1, 2] (by decide) rfl
  exact z_vret hx hb hr (fun _ => 0) trivial hP9 hD9 hS (Nat.le_of_ble_eq_true rfl) (Nat.le_of_ble_eq_true rfl) hlocks dX12_reaches_42
set_option maxHeartbeats 4000000 in
set_option maxRecDepth 100000 in
theorem cX12_reaches_10 (l : Launch) (K : zK) (sz : Nat) (a0 : Nat) (a1 : Nat) (a2 : Nat) (g0 : Nat → Value) (f1 : Nat → Int32) (f2 : Nat → Int32) (e0 : g0 52 = (.ref a1)) (e1 : f1 9 = (-1)) (e2 : g0 53 = (.ref a2)) (e3 : g0 54 = (.int 9)) : Met l yX12_reaches (Cond.code yX12_reaches cX12_reaches 2 none :: WG) { frames := 0, cells := 0, slots := 0, locals := 0 } (zPre K [(a0, zO 10 83 g0), (a1, zI K 210000 f1), (a2, zI K 210000 f2)] sz [.ref a0, .int 9]) (va_Qv (fun _ : Nat → Nat => True) (zB K (va_A [(a0, zO 10 83 g0), (a1, zI K 210000 f1), (a2, zI K 210000 f2)] sz) (fun u : Nat → Nat => [(a0, zO 10 83 (va_up g0 54 (.int 10))), (a1, zI K 210000 (va_up f1 9 0)), (a2, zI K 210000 (va_up f2 9 9))])) (va_A [(a0, zO 10 83 g0), (a1, zI K 210000 f1), (a2, zI K 210000 f2)] sz)) 0 0 (va_A [(a0, zO 10 83 g0), (a1, zI K 210000 f1), (a2, zI K 210000 f2)] sz) := by
  refine z_met (Qc := fun A => (va_Qv (fun _ : Nat → Nat => True) (zB K A (fun u : Nat → Nat => [(a0, zO 10 83 (va_up g0 54 (.int 10))), (a1, zI K 210000 (va_up f1 9 0)), (a2, zI K 210000 (va_up f2 9 9))])) A)) (by decide +kernel) (Nat.le_of_ble_eq_true rfl) ?_
  intro p e s m args below meth c A ls H hx hb hr hg hown hlocks hml hin hK hP hD hA hS hZ hl
  have hown : s.vm.findClass RX12 = some m.cls := hown
  have hl : lv_has ls 2 [(0, .ref a0), (1, .int 9)] := hl
  refine lv_iload_n hx hb dX12_reaches_0 rfl (lv_at hl 1 rfl) ?_
  refine lv_iconst (v := (-1)) hx hb dX12_reaches_1 (by decide) ?_
  refine lv_icmp_eq (tgt := 42) hx hb dX12_reaches_2 (by decide) (fun c => absurd c (by decide)) (fun _ => ?_)
  refine lv_aload_n hx hb dX12_reaches_5 rfl (lv_at hl 0 rfl) ?_
  refine z_get (v := .ref a1) hx hb hg hown hK hP i_X12 rfl 0 rfl 52 (by decide) mt1332 e0 dX12_reaches_6 ?_
  refine lv_iload_n hx hb dX12_reaches_9 rfl (lv_at hl 1 rfl) ?_
  refine z_iald (v := (-1)) (j := 9) hx hb hK hP 1 rfl rfl (Nat.le_of_ble_eq_true rfl) (Nat.le_of_ble_eq_true rfl) e1 dX12_reaches_10 ?_
  refine lv_iconst (v := (-1)) hx hb dX12_reaches_11 (by decide) ?_
  refine lv_icmp_ne (tgt := 42) hx hb dX12_reaches_12 (by decide) (fun c => absurd (by decide) c) (fun _ => ?_)
  refine lv_aload_n hx hb dX12_reaches_15 rfl (lv_at hl 0 rfl) ?_
  refine z_get (v := .ref a1) hx hb hg hown hK hP i_X12 rfl 0 rfl 52 (by decide) mt1332 e0 dX12_reaches_16 ?_
  refine lv_iload_n hx hb dX12_reaches_19 rfl (lv_at hl 1 rfl) ?_
  refine lv_iconst (v := 0) hx hb dX12_reaches_20 (by decide) ?_
  refine z_iast (j := 9) hx hb hK hP hD hS 1 rfl rfl (Nat.le_of_ble_eq_true rfl) (Nat.le_of_ble_eq_true rfl) dX12_reaches_21 (fun ff1 H locs y2 hP hD hS => ?_)
  have hP : va_P K.1 classes [(a0, zO 10 83 g0), (a1, zI K 210000 ff1), (a2, zI K 210000 f2)] H := hP
  have hD : va_D A [(a0, zO 10 83 g0), (a1, zI K 210000 ff1), (a2, zI K 210000 f2)] := hD
  refine lv_aload_n hx hb dX12_reaches_22 rfl (lv_at hl 0 rfl) ?_
  refine z_get (v := .ref a2) hx hb hg hown hK hP i_X12 rfl 0 rfl 53 (by decide) mt1333 e2 dX12_reaches_23 ?_
  refine lv_aload_n hx hb dX12_reaches_26 rfl (lv_at hl 0 rfl) ?_
  refine z_get (v := .int 9) hx hb hg hown hK hP i_X12 rfl 0 rfl 54 (by decide) mt1334 e3 dX12_reaches_27 ?_
  refine lv_iload_n hx hb dX12_reaches_30 rfl (lv_at hl 1 rfl) ?_
  refine z_iast (j := 9) hx hb hK hP hD hS 2 rfl rfl (Nat.le_of_ble_eq_true rfl) (Nat.le_of_ble_eq_true rfl) dX12_reaches_31 (fun ff3 H locs y4 hP hD hS => ?_)
  have hP : va_P K.1 classes [(a0, zO 10 83 g0), (a1, zI K 210000 ff1), (a2, zI K 210000 ff3)] H := hP
  have hD : va_D A [(a0, zO 10 83 g0), (a1, zI K 210000 ff1), (a2, zI K 210000 ff3)] := hD
  refine lv_aload_n hx hb dX12_reaches_32 rfl (lv_at hl 0 rfl) ?_
  refine lv_dup hx hb dX12_reaches_33 rfl ?_
  refine z_get (v := .int 9) hx hb hg hown hK hP i_X12 rfl 0 rfl 54 (by decide) mt1334 e3 dX12_reaches_34 ?_
  refine lv_iconst (v := 1) hx hb dX12_reaches_37 (by decide) ?_
  refine lv_iadd hx hb dX12_reaches_38 ?_
  refine z_cst (v := 10) (by decide +kernel) ?_
  refine z_put hx hb hg hown hK hP hD hS i_X12 rfl tyX12_ok nmX12 0 rfl 54 (by decide) mt1334 rfl rfl rfl dX12_reaches_39 (fun gg5 H locs y6 hP hD hS => ?_)
  have hP : va_P K.1 classes [(a0, zO 10 83 gg5), (a1, zI K 210000 ff1), (a2, zI K 210000 ff3)] H := hP
  have hD : va_D A [(a0, zO 10 83 gg5), (a1, zI K 210000 ff1), (a2, zI K 210000 ff3)] := hD
  subst y6
  subst y4
  subst y2
  have hP9 : va_P K.1 classes [(a0, zO 10 83 (va_up g0 54 (.int 10))), (a1, zI K 210000 (va_up f1 9 0)), (a2, zI K 210000 (va_up f2 9 9))] H := hP.sub [0, 1, 2] rfl
  have hD9 : va_D A [(a0, zO 10 83 (va_up g0 54 (.int 10))), (a1, zI K 210000 (va_up f1 9 0)), (a2, zI K 210000 (va_up f2 9 9))] := hD.sub [0, 1, 2] (by decide) rfl
  exact z_vret hx hb hr (fun _ => 0) trivial hP9 hD9 hS (Nat.le_of_ble_eq_true rfl) (Nat.le_of_ble_eq_true rfl) hlocks dX12_reaches_42
set_option maxHeartbeats 4000000 in
set_option maxRecDepth 100000 in
theorem cX12_reaches_11 (l : Launch) (K : zK) (sz : Nat) (a0 : Nat) (a1 : Nat) (a2 : Nat) (g0 : Nat → Value) (f1 : Nat → Int32) (f2 : Nat → Int32) (e0 : g0 52 = (.ref a1)) (e1 : f1 10 = (-1)) (e2 : g0 53 = (.ref a2)) (e3 : g0 54 = (.int 10)) : Met l yX12_reaches (Cond.code yX12_reaches cX12_reaches 2 none :: WG) { frames := 0, cells := 0, slots := 0, locals := 0 } (zPre K [(a0, zO 10 83 g0), (a1, zI K 210000 f1), (a2, zI K 210000 f2)] sz [.ref a0, .int 10]) (va_Qv (fun _ : Nat → Nat => True) (zB K (va_A [(a0, zO 10 83 g0), (a1, zI K 210000 f1), (a2, zI K 210000 f2)] sz) (fun u : Nat → Nat => [(a0, zO 10 83 (va_up g0 54 (.int 11))), (a1, zI K 210000 (va_up f1 10 0)), (a2, zI K 210000 (va_up f2 10 10))])) (va_A [(a0, zO 10 83 g0), (a1, zI K 210000 f1), (a2, zI K 210000 f2)] sz)) 0 0 (va_A [(a0, zO 10 83 g0), (a1, zI K 210000 f1), (a2, zI K 210000 f2)] sz) := by
  refine z_met (Qc := fun A => (va_Qv (fun _ : Nat → Nat => True) (zB K A (fun u : Nat → Nat => [(a0, zO 10 83 (va_up g0 54 (.int 11))), (a1, zI K 210000 (va_up f1 10 0)), (a2, zI K 210000 (va_up f2 10 10))])) A)) (by decide +kernel) (Nat.le_of_ble_eq_true rfl) ?_
  intro p e s m args below meth c A ls H hx hb hr hg hown hlocks hml hin hK hP hD hA hS hZ hl
  have hown : s.vm.findClass RX12 = some m.cls := hown
  have hl : lv_has ls 2 [(0, .ref a0), (1, .int 10)] := hl
  refine lv_iload_n hx hb dX12_reaches_0 rfl (lv_at hl 1 rfl) ?_
  refine lv_iconst (v := (-1)) hx hb dX12_reaches_1 (by decide) ?_
  refine lv_icmp_eq (tgt := 42) hx hb dX12_reaches_2 (by decide) (fun c => absurd c (by decide)) (fun _ => ?_)
  refine lv_aload_n hx hb dX12_reaches_5 rfl (lv_at hl 0 rfl) ?_
  refine z_get (v := .ref a1) hx hb hg hown hK hP i_X12 rfl 0 rfl 52 (by decide) mt1332 e0 dX12_reaches_6 ?_
  refine lv_iload_n hx hb dX12_reaches_9 rfl (lv_at hl 1 rfl) ?_
  refine z_iald (v := (-1)) (j := 10) hx hb hK hP 1 rfl rfl (Nat.le_of_ble_eq_true rfl) (Nat.le_of_ble_eq_true rfl) e1 dX12_reaches_10 ?_
  refine lv_iconst (v := (-1)) hx hb dX12_reaches_11 (by decide) ?_
  refine lv_icmp_ne (tgt := 42) hx hb dX12_reaches_12 (by decide) (fun c => absurd (by decide) c) (fun _ => ?_)
  refine lv_aload_n hx hb dX12_reaches_15 rfl (lv_at hl 0 rfl) ?_
  refine z_get (v := .ref a1) hx hb hg hown hK hP i_X12 rfl 0 rfl 52 (by decide) mt1332 e0 dX12_reaches_16 ?_
  refine lv_iload_n hx hb dX12_reaches_19 rfl (lv_at hl 1 rfl) ?_
  refine lv_iconst (v := 0) hx hb dX12_reaches_20 (by decide) ?_
  refine z_iast (j := 10) hx hb hK hP hD hS 1 rfl rfl (Nat.le_of_ble_eq_true rfl) (Nat.le_of_ble_eq_true rfl) dX12_reaches_21 (fun ff1 H locs y2 hP hD hS => ?_)
  have hP : va_P K.1 classes [(a0, zO 10 83 g0), (a1, zI K 210000 ff1), (a2, zI K 210000 f2)] H := hP
  have hD : va_D A [(a0, zO 10 83 g0), (a1, zI K 210000 ff1), (a2, zI K 210000 f2)] := hD
  refine lv_aload_n hx hb dX12_reaches_22 rfl (lv_at hl 0 rfl) ?_
  refine z_get (v := .ref a2) hx hb hg hown hK hP i_X12 rfl 0 rfl 53 (by decide) mt1333 e2 dX12_reaches_23 ?_
  refine lv_aload_n hx hb dX12_reaches_26 rfl (lv_at hl 0 rfl) ?_
  refine z_get (v := .int 10) hx hb hg hown hK hP i_X12 rfl 0 rfl 54 (by decide) mt1334 e3 dX12_reaches_27 ?_
  refine lv_iload_n hx hb dX12_reaches_30 rfl (lv_at hl 1 rfl) ?_
  refine z_iast (j := 10) hx hb hK hP hD hS 2 rfl rfl (Nat.le_of_ble_eq_true rfl) (Nat.le_of_ble_eq_true rfl) dX12_reaches_31 (fun ff3 H locs y4 hP hD hS => ?_)
  have hP : va_P K.1 classes [(a0, zO 10 83 g0), (a1, zI K 210000 ff1), (a2, zI K 210000 ff3)] H := hP
  have hD : va_D A [(a0, zO 10 83 g0), (a1, zI K 210000 ff1), (a2, zI K 210000 ff3)] := hD
  refine lv_aload_n hx hb dX12_reaches_32 rfl (lv_at hl 0 rfl) ?_
  refine lv_dup hx hb dX12_reaches_33 rfl ?_
  refine z_get (v := .int 10) hx hb hg hown hK hP i_X12 rfl 0 rfl 54 (by decide) mt1334 e3 dX12_reaches_34 ?_
  refine lv_iconst (v := 1) hx hb dX12_reaches_37 (by decide) ?_
  refine lv_iadd hx hb dX12_reaches_38 ?_
  refine z_cst (v := 11) (by decide +kernel) ?_
  refine z_put hx hb hg hown hK hP hD hS i_X12 rfl tyX12_ok nmX12 0 rfl 54 (by decide) mt1334 rfl rfl rfl dX12_reaches_39 (fun gg5 H locs y6 hP hD hS => ?_)
  have hP : va_P K.1 classes [(a0, zO 10 83 gg5), (a1, zI K 210000 ff1), (a2, zI K 210000 ff3)] H := hP
  have hD : va_D A [(a0, zO 10 83 gg5), (a1, zI K 210000 ff1), (a2, zI K 210000 ff3)] := hD
  subst y6
  subst y4
  subst y2
  have hP9 : va_P K.1 classes [(a0, zO 10 83 (va_up g0 54 (.int 11))), (a1, zI K 210000 (va_up f1 10 0)), (a2, zI K 210000 (va_up f2 10 10))] H := hP.sub [0, 1, 2] rfl
  have hD9 : va_D A [(a0, zO 10 83 (va_up g0 54 (.int 11))), (a1, zI K 210000 (va_up f1 10 0)), (a2, zI K 210000 (va_up f2 10 10))] := hD.sub [0, 1, 2] (by decide) rfl
  exact z_vret hx hb hr (fun _ => 0) trivial hP9 hD9 hS (Nat.le_of_ble_eq_true rfl) (Nat.le_of_ble_eq_true rfl) hlocks dX12_reaches_42
set_option maxHeartbeats 4000000 in
set_option maxRecDepth 100000 in
theorem cX12_reaches_12 (l : Launch) (K : zK) (sz : Nat) (a0 : Nat) (a1 : Nat) (a2 : Nat) (g0 : Nat → Value) (f1 : Nat → Int32) (f2 : Nat → Int32) (e0 : g0 52 = (.ref a1)) (e1 : f1 11 = (-1)) (e2 : g0 53 = (.ref a2)) (e3 : g0 54 = (.int 11)) : Met l yX12_reaches (Cond.code yX12_reaches cX12_reaches 2 none :: WG) { frames := 0, cells := 0, slots := 0, locals := 0 } (zPre K [(a0, zO 10 83 g0), (a1, zI K 210000 f1), (a2, zI K 210000 f2)] sz [.ref a0, .int 11]) (va_Qv (fun _ : Nat → Nat => True) (zB K (va_A [(a0, zO 10 83 g0), (a1, zI K 210000 f1), (a2, zI K 210000 f2)] sz) (fun u : Nat → Nat => [(a0, zO 10 83 (va_up g0 54 (.int 12))), (a1, zI K 210000 (va_up f1 11 0)), (a2, zI K 210000 (va_up f2 11 11))])) (va_A [(a0, zO 10 83 g0), (a1, zI K 210000 f1), (a2, zI K 210000 f2)] sz)) 0 0 (va_A [(a0, zO 10 83 g0), (a1, zI K 210000 f1), (a2, zI K 210000 f2)] sz) := by
  refine z_met (Qc := fun A => (va_Qv (fun _ : Nat → Nat => True) (zB K A (fun u : Nat → Nat => [(a0, zO 10 83 (va_up g0 54 (.int 12))), (a1, zI K 210000 (va_up f1 11 0)), (a2, zI K 210000 (va_up f2 11 11))])) A)) (by decide +kernel) (Nat.le_of_ble_eq_true rfl) ?_
  intro p e s m args below meth c A ls H hx hb hr hg hown hlocks hml hin hK hP hD hA hS hZ hl
  have hown : s.vm.findClass RX12 = some m.cls := hown
  have hl : lv_has ls 2 [(0, .ref a0), (1, .int 11)] := hl
  refine lv_iload_n hx hb dX12_reaches_0 rfl (lv_at hl 1 rfl) ?_
  refine lv_iconst (v := (-1)) hx hb dX12_reaches_1 (by decide) ?_
  refine lv_icmp_eq (tgt := 42) hx hb dX12_reaches_2 (by decide) (fun c => absurd c (by decide)) (fun _ => ?_)
  refine lv_aload_n hx hb dX12_reaches_5 rfl (lv_at hl 0 rfl) ?_
  refine z_get (v := .ref a1) hx hb hg hown hK hP i_X12 rfl 0 rfl 52 (by decide) mt1332 e0 dX12_reaches_6 ?_
  refine lv_iload_n hx hb dX12_reaches_9 rfl (lv_at hl 1 rfl) ?_
  refine z_iald (v := (-1)) (j := 11) hx hb hK hP 1 rfl rfl (Nat.le_of_ble_eq_true rfl) (Nat.le_of_ble_eq_true rfl) e1 dX12_reaches_10 ?_
  refine lv_iconst (v := (-1)) hx hb dX12_reaches_11 (by decide) ?_
  refine lv_icmp_ne (tgt := 42) hx hb dX12_reaches_12 (by decide) (fun c => absurd (by decide) c) (fun _ => ?_)
  refine lv_aload_n hx hb dX12_reaches_15 rfl (lv_at hl 0 rfl) ?_
  refine z_get (v := .ref a1) hx hb hg hown hK hP i_X12 rfl 0 rfl 52 (by decide) mt1332 e0 dX12_reaches_16 ?_
  refine lv_iload_n hx hb dX12_reaches_19 rfl (lv_at hl 1 rfl) ?_
  refine lv_iconst (v := 0) hx hb dX12_reaches_20 (by decide) ?_
  refine z_iast (j := 11) hx hb hK hP hD hS 1 rfl rfl (Nat.le_of_ble_eq_true rfl) (Nat.le_of_ble_eq_true rfl) dX12_reaches_21 (fun ff1 H locs y2 hP hD hS => ?_)
  have hP : va_P K.1 classes [(a0, zO 10 83 g0), (a1, zI K 210000 ff1), (a2, zI K 210000 f2)] H := hP
  have hD : va_D A [(a0, zO 10 83 g0), (a1, zI K 210000 ff1), (a2, zI K 210000 f2)] := hD
  refine lv_aload_n hx hb dX12_reaches_22 rfl (lv_at hl 0 rfl) ?_
  refine z_get (v := .ref a2) hx hb hg hown hK hP i_X12 rfl 0 rfl 53 (by decide) mt1333 e2 dX12_reaches_23 ?_
  refine lv_aload_n hx hb dX12_reaches_26 rfl (lv_at hl 0 rfl) ?_
  refine z_get (v := .int 11) hx hb hg hown hK hP i_X12 rfl 0 rfl 54 (by decide) mt1334 e3 dX12_reaches_27 ?_
  refine lv_iload_n hx hb dX12_reaches_30 rfl (lv_at hl 1 rfl) ?_
  refine z_iast (j := 11) hx hb hK hP hD hS 2 rfl rfl (Nat.le_of_ble_eq_true rfl) (Nat.le_of_ble_eq_true rfl) dX12_reaches_31 (fun ff3 H locs y4 hP hD hS => ?_)
  have hP : va_P K.1 classes [(a0, zO 10 83 g0), (a1, zI K 210000 ff1), (a2, zI K 210000 ff3)] H := hP
  have hD : va_D A [(a0, zO 10 83 g0), (a1, zI K 210000 ff1), (a2, zI K 210000 ff3)] := hD
  refine lv_aload_n hx hb dX12_reaches_32 rfl (lv_at hl 0 rfl) ?_
  refine lv_dup hx hb dX12_reaches_33 rfl ?_
  refine z_get (v := .int 11) hx hb hg hown hK hP i_X12 rfl 0 rfl 54 (by decide) mt1334 e3 dX12_reaches_34 ?_
  refine lv_iconst (v := 1) hx hb dX12_reaches_37 (by decide) ?_
  refine lv_iadd hx hb dX12_reaches_38 ?_
  refine z_cst (v := 12) (by decide +kernel) ?_
  refine z_put hx hb hg hown hK hP hD hS i_X12 rfl tyX12_ok nmX12 0 rfl 54 (by decide) mt1334 rfl rfl rfl dX12_reaches_39 (fun gg5 H locs y6 hP hD hS => ?_)
  have hP : va_P K.1 classes [(a0, zO 10 83 gg5), (a1, zI K 210000 ff1), (a2, zI K 210000 ff3)] H := hP
  have hD : va_D A [(a0, zO 10 83 gg5), (a1, zI K 210000 ff1), (a2, zI K 210000 ff3)] := hD
  subst y6
  subst y4
  subst y2
  have hP9 : va_P K.1 classes [(a0, zO 10 83 (va_up g0 54 (.int 12))), (a1, zI K 210000 (va_up f1 11 0)), (a2, zI K 210000 (va_up f2 11 11))] H := hP.sub [0, 1, 2] rfl
  have hD9 : va_D A [(a0, zO 10 83 (va_up g0 54 (.int 12))), (a1, zI K 210000 (va_up f1 11 0)), (a2, zI K 210000 (va_up f2 11 11))] := hD.sub [0, 1, 2] (by decide) rfl
  exact z_vret hx hb hr (fun _ => 0) trivial hP9 hD9 hS (Nat.le_of_ble_eq_true rfl) (Nat.le_of_ble_eq_true rfl) hlocks dX12_reaches_42
set_option maxHeartbeats 4000000 in
set_option maxRecDepth 100000 in
theorem cX12_reaches_13 (l : Launch) (K : zK) (sz : Nat) (a0 : Nat) (a1 : Nat) (a2 : Nat) (g0 : Nat → Value) (f1 : Nat → Int32) (f2 : Nat → Int32) (e0 : g0 52 = (.ref a1)) (e1 : f1 12 = (-1)) (e2 : g0 53 = (.ref a2)) (e3 : g0 54 = (.int 12)) : Met l yX12_reaches (Cond.code yX12_reaches cX12_reaches 2 none :: WG) { frames := 0, cells := 0, slots := 0, locals := 0 } (zPre K [(a0, zO 10 83 g0), (a1, zI K 210000 f1), (a2, zI K 210000 f2)] sz [.ref a0, .int 12]) (va_Qv (fun _ : Nat → Nat => True) (zB K (va_A [(a0, zO 10 83 g0), (a1, zI K 210000 f1), (a2, zI K 210000 f2)] sz) (fun u : Nat → Nat => [(a0, zO 10 83 (va_up g0 54 (.int 13))), (a1, zI K 210000 (va_up f1 12 0)), (a2, zI K 210000 (va_up f2 12 12))])) (va_A [(a0, zO 10 83 g0), (a1, zI K 210000 f1), (a2, zI K 210000 f2)] sz)) 0 0 (va_A [(a0, zO 10 83 g0), (a1, zI K 210000 f1), (a2, zI K 210000 f2)] sz) := by
  refine z_met (Qc := fun A => (va_Qv (fun _ : Nat → Nat => True) (zB K A (fun u : Nat → Nat => [(a0, zO 10 83 (va_up g0 54 (.int 13))), (a1, zI K 210000 (va_up f1 12 0)), (a2, zI K 210000 (va_up f2 12 12))])) A)) (by decide +kernel) (Nat.le_of_ble_eq_true rfl) ?_
  intro p e s m args below meth c A ls H hx hb hr hg hown hlocks hml hin hK hP hD hA hS hZ hl
  have hown : s.vm.findClass RX12 = some m.cls := hown
  have hl : lv_has ls 2 [(0, .ref a0), (1, .int 12)] := hl
  refine lv_iload_n hx hb dX12_reaches_0 rfl (lv_at hl 1 rfl) ?_
  refine lv_iconst (v := (-1)) hx hb dX12_reaches_1 (by decide) ?_
  refine lv_icmp_eq (tgt := 42) hx hb dX12_reaches_2 (by decide) (fun c => absurd c (by decide)) (fun _ => ?_)
  refine lv_aload_n hx hb dX12_reaches_5 rfl (lv_at hl 0 rfl) ?_
  refine z_get (v := .ref a1) hx hb hg hown hK hP i_X12 rfl 0 rfl 52 (by decide) mt1332 e0 dX12_reaches_6 ?_
  refine lv_iload_n hx hb dX12_reaches_9 rfl (lv_at hl 1 rfl) ?_
  refine z_iald (v := (-1)) (j := 12) hx hb hK hP 1 rfl rfl (Nat.le_of_ble_eq_true rfl) (Nat.le_of_ble_eq_true rfl) e1 dX12_reaches_10 ?_
  refine lv_iconst (v := (-1)) hx hb dX12_reaches_11 (by decide) ?_
  refine lv_icmp_ne (tgt := 42) hx hb dX12_reaches_12 (by decide) (fun c => absurd (by decide) c) (fun _ => ?_)
  refine lv_aload_n hx hb dX12_reaches_15 rfl (lv_at hl 0 rfl) ?_
  refine z_get (v := .ref a1) hx hb hg hown hK hP i_X12 rfl 0 rfl 52 (by decide) mt1332 e0 dX12_reaches_16 ?_
  refine lv_iload_n hx hb dX12_reaches_19 rfl (lv_at hl 1 rfl) ?_
  refine lv_iconst (v := 0) hx hb dX12_reaches_20 (by decide) ?_
  refine z_iast (j := 12) hx hb hK hP hD hS 1 rfl rfl (Nat.le_of_ble_eq_true rfl) (Nat.le_of_ble_eq_true rfl) dX12_reaches_21 (fun ff1 H locs y2 hP hD hS => ?_)
  have hP : va_P K.1 classes [(a0, zO 10 83 g0), (a1, zI K 210000 ff1), (a2, zI K 210000 f2)] H := hP
  have hD : va_D A [(a0, zO 10 83 g0), (a1, zI K 210000 ff1), (a2, zI K 210000 f2)] := hD
  refine lv_aload_n hx hb dX12_reaches_22 rfl (lv_at hl 0 rfl) ?_
  refine z_get (v := .ref a2) hx hb hg hown hK hP i_X12 rfl 0 rfl 53 (by decide) mt1333 e2 dX12_reaches_23 ?_
  refine lv_aload_n hx hb dX12_reaches_26 rfl (lv_at hl 0 rfl) ?_
  refine z_get (v := .int 12) hx hb hg hown hK hP i_X12 rfl 0 rfl 54 (by decide) mt1334 e3 dX12_reaches_27 ?_
  refine lv_iload_n hx hb dX12_reaches_30 rfl (lv_at hl 1 rfl) ?_
  refine z_iast (j := 12) hx hb hK hP hD hS 2 rfl rfl (Nat.le_of_ble_eq_true rfl) (Nat.le_of_ble_eq_true rfl) dX12_reaches_31 (fun ff3 H locs y4 hP hD hS => ?_)
  have hP : va_P K.1 classes [(a0, zO 10 83 g0), (a1, zI K 210000 ff1), (a2, zI K 210000 ff3)] H := hP
  have hD : va_D A [(a0, zO 10 83 g0), (a1, zI K 210000 ff1), (a2, zI K 210000 ff3)] := hD
  refine lv_aload_n hx hb dX12_reaches_32 rfl (lv_at hl 0 rfl) ?_
  refine lv_dup hx hb dX12_reaches_33 rfl ?_
  refine z_get (v := .int 12) hx hb hg hown hK hP i_X12 rfl 0 rfl 54 (by decide) mt1334 e3 dX12_reaches_34 ?_
  refine lv_iconst (v := 1) hx hb dX12_reaches_37 (by decide) ?_
  refine lv_iadd hx hb dX12_reaches_38 ?_
  refine z_cst (v := 13) (by decide +kernel) ?_
  refine z_put hx hb hg hown hK hP hD hS i_X12 rfl tyX12_ok nmX12 0 rfl 54 (by decide) mt1334 rfl rfl rfl dX12_reaches_39 (fun gg5 H locs y6 hP hD hS => ?_)
  have hP : va_P K.1 classes [(a0, zO 10 83 gg5), (a1, zI K 210000 ff1), (a2, zI K 210000 ff3)] H := hP
  have hD : va_D A [(a0, zO 10 83 gg5), (a1, zI K 210000 ff1), (a2, zI K 210000 ff3)] := hD
  subst y6
  subst y4
  subst y2
  have hP9 : va_P K.1 classes [(a0, zO 10 83 (va_up g0 54 (.int 13))), (a1, zI K 210000 (va_up f1 12 0)), (a2, zI K 210000 (va_up f2 12 12))] H := hP.sub [0, 1, 2] rfl
  have hD9 : va_D A [(a0, zO 10 83 (va_up g0 54 (.int 13))), (a1, zI K 210000 (va_up f1 12 0)), (a2, zI K 210000 (va_up f2 12 12))] := hD.sub [0, 1, 2] (by decide) rfl
  exact z_vret hx hb hr (fun _ => 0) trivial hP9 hD9 hS (Nat.le_of_ble_eq_true rfl) (Nat.le_of_ble_eq_true rfl) hlocks dX12_reaches_42
set_option maxHeartbeats 4000000 in
set_option maxRecDepth 100000 in
theorem cX12_reaches_14 (l : Launch) (K : zK) (sz : Nat) (a0 : Nat) (a1 : Nat) (a2 : Nat) (g0 : Nat → Value) (f1 : Nat → Int32) (f2 : Nat → Int32) (e0 : g0 52 = (.ref a1)) (e1 : f1 13 = (-1)) (e2 : g0 53 = (.ref a2)) (e3 : g0 54 = (.int 13)) : Met l yX12_reaches (Cond.code yX12_reaches cX12_reaches 2 none :: WG) { frames := 0, cells := 0, slots := 0, locals := 0 } (zPre K [(a0, zO 10 83 g0), (a1, zI K 210000 f1), (a2, zI K 210000 f2)] sz [.ref a0, .int 13]) (va_Qv (fun _ : Nat → Nat => True) (zB K (va_A [(a0, zO 10 83 g0), (a1, zI K 210000 f1), (a2, zI K 210000 f2)] sz) (fun u : Nat → Nat => [(a0, zO 10 83 (va_up g0 54 (.int 14))), (a1, zI K 210000 (va_up f1 13 0)), (a2, zI K 210000 (va_up f2 13 13))])) (va_A [(a0, zO 10 83 g0), (a1, zI K 210000 f1), (a2, zI K 210000 f2)] sz)) 0 0 (va_A [(a0, zO 10 83 g0), (a1, zI K 210000 f1), (a2, zI K 210000 f2)] sz) := by
  refine z_met (Qc := fun A => (va_Qv (fun _ : Nat → Nat => True) (zB K A (fun u : Nat → Nat => [(a0, zO 10 83 (va_up g0 54 (.int 14))), (a1, zI K 210000 (va_up f1 13 0)), (a2, zI K 210000 (va_up f2 13 13))])) A)) (by decide +kernel) (Nat.le_of_ble_eq_true rfl) ?_
  intro p e s m args below meth c A ls H hx hb hr hg hown hlocks hml hin hK hP hD hA hS hZ hl
  have hown : s.vm.findClass RX12 = some m.cls := hown
  have hl : lv_has ls 2 [(0, .ref a0), (1, .int 13)] := hl
  refine lv_iload_n hx hb dX12_reaches_0 rfl (lv_at hl 1 rfl) ?_
  refine lv_iconst (v := (-1)) hx hb dX12_reaches_1 (by decide) ?_
  refine lv_icmp_eq (tgt := 42) hx hb dX12_reaches_2 (by decide) (fun c => absurd c (by decide)) (fun _ => ?_)
  refine lv_aload_n hx hb dX12_reaches_5 rfl (lv_at hl 0 rfl) ?_
  refine z_get (v := .ref a1) hx hb hg hown hK hP i_X12 rfl 0 rfl 52 (by decide) mt1332 e0 dX12_reaches_6 ?_
  refine lv_iload_n hx hb dX12_reaches_9 rfl (lv_at hl 1 rfl) ?_
  refine z_iald (v := (-1)) (j := 13) hx hb hK hP 1 rfl rfl (Nat.le_of_ble_eq_true rfl) (Nat.le_of_ble_eq_true rfl) e1 dX12_reaches_10 ?_
  refine lv_iconst (v := (-1)) hx hb dX12_reaches_11 (by decide) ?_
  refine lv_icmp_ne (tgt := 42) hx hb dX12_reaches_12 (by decide) (fun c => absurd (by decide) c) (fun _ => ?_)
  refine lv_aload_n hx hb dX12_reaches_15 rfl (lv_at hl 0 rfl) ?_
  refine z_get (v := .ref a1) hx hb hg hown hK hP i_X12 rfl 0 rfl 52 (by decide) mt1332 e0 dX12_reaches_16 ?_
  refine lv_iload_n hx hb dX12_reaches_19 rfl (lv_at hl 1 rfl) ?_
  refine lv_iconst (v := 0) hx hb dX12_reaches_20 (by decide) ?_
  refine z_iast (j := 13) hx hb hK hP hD hS 1 rfl rfl (Nat.le_of_ble_eq_true rfl) (Nat.le_of_ble_eq_true rfl) dX12_reaches_21 (fun ff1 H locs y2 hP hD hS => ?_)
  have hP : va_P K.1 classes [(a0, zO 10 83 g0), (a1, zI K 210000 ff1), (a2, zI K 210000 f2)] H := hP
  have hD : va_D A [(a0, zO 10 83 g0), (a1, zI K 210000 ff1), (a2, zI K 210000 f2)] := hD
  refine lv_aload_n hx hb dX12_reaches_22 rfl (lv_at hl 0 rfl) ?_
  refine z_get (v := .ref a2) hx hb hg hown hK hP i_X12 rfl 0 rfl 53 (by decide) mt1333 e2 dX12_reaches_23 ?_
  refine lv_aload_n hx hb dX12_reaches_26 rfl (lv_at hl 0 rfl) ?_
  refine z_get (v := .int 13) hx hb hg hown hK hP i_X12 rfl 0 rfl 54 (by decide) mt1334 e3 dX12_reaches_27 ?_
  refine lv_iload_n hx hb dX12_reaches_30 rfl (lv_at hl 1 rfl) ?_
  refine z_iast (j := 13) hx hb hK hP hD hS 2 rfl rfl (Nat.le_of_ble_eq_true rfl) (Nat.le_of_ble_eq_true rfl) dX12_reaches_31 (fun ff3 H locs y4 hP hD hS => ?_)
  have hP : va_P K.1 classes [(a0, zO 10 83 g0), (a1, zI K 210000 ff1), (a2, zI K 210000 ff3)] H := hP
  have hD : va_D A [(a0, zO 10 83 g0), (a1, zI K 210000 ff1), (a2, zI K 210000 ff3)] := hD
  refine lv_aload_n hx hb dX12_reaches_32 rfl (lv_at hl 0 rfl) ?_
  refine lv_dup hx hb dX12_reaches_33 rfl ?_
  refine z_get (v := .int 13) hx hb hg hown hK hP i_X12 rfl 0 rfl 54 (by decide) mt1334 e3 dX12_reaches_34 ?_
  refine lv_iconst (v := 1) hx hb dX12_reaches_37 (by decide) ?_
  refine lv_iadd hx hb dX12_reaches_38 ?_
  refine z_cst (v := 14) (by decide +kernel) ?_
  refine z_put hx hb hg hown hK hP hD hS i_X12 rfl tyX12_ok nmX12 0 rfl 54 (by decide) mt1334 rfl rfl rfl dX12_reaches_39 (fun gg5 H locs y6 hP hD hS => ?_)
  have hP : va_P K.1 classes [(a0, zO 10 83 gg5), (a1, zI K 210000 ff1), (a2, zI K 210000 ff3)] H := hP
  have hD : va_D A [(a0, zO 10 83 gg5), (a1, zI K 210000 ff1), (a2, zI K 210000 ff3)] := hD
  subst y6
  subst y4
  subst y2
  have hP9 : va_P K.1 classes [(a0, zO 10 83 (va_up g0 54 (.int 14))), (a1, zI K 210000 (va_up f1 13 0)), (a2, zI K 210000 (va_up f2 13 13))] H := hP.sub [0, 1, 2] rfl
  have hD9 : va_D A [(a0, zO 10 83 (va_up g0 54 (.int 14))), (a1, zI K 210000 (va_up f1 13 0)), (a2, zI K 210000 (va_up f2 13 13))] := hD.sub [0, 1, 2] (by decide) rfl
  exact z_vret hx hb hr (fun _ => 0) trivial hP9 hD9 hS (Nat.le_of_ble_eq_true rfl) (Nat.le_of_ble_eq_true rfl) hlocks dX12_reaches_42
set_option maxHeartbeats 4000000 in
set_option maxRecDepth 100000 in
theorem cX12_reaches_15 (l : Launch) (K : zK) (sz : Nat) (a0 : Nat) (a1 : Nat) (a2 : Nat) (g0 : Nat → Value) (f1 : Nat → Int32) (f2 : Nat → Int32) (e0 : g0 52 = (.ref a1)) (e1 : f1 14 = (-1)) (e2 : g0 53 = (.ref a2)) (e3 : g0 54 = (.int 14)) : Met l yX12_reaches (Cond.code yX12_reaches cX12_reaches 2 none :: WG) { frames := 0, cells := 0, slots := 0, locals := 0 } (zPre K [(a0, zO 10 83 g0), (a1, zI K 210000 f1), (a2, zI K 210000 f2)] sz [.ref a0, .int 14]) (va_Qv (fun _ : Nat → Nat => True) (zB K (va_A [(a0, zO 10 83 g0), (a1, zI K 210000 f1), (a2, zI K 210000 f2)] sz) (fun u : Nat → Nat => [(a0, zO 10 83 (va_up g0 54 (.int 15))), (a1, zI K 210000 (va_up f1 14 0)), (a2, zI K 210000 (va_up f2 14 14))])) (va_A [(a0, zO 10 83 g0), (a1, zI K 210000 f1), (a2, zI K 210000 f2)] sz)) 0 0 (va_A [(a0, zO 10 83 g0), (a1, zI K 210000 f1), (a2, zI K 210000 f2)] sz) := by
  refine z_met (Qc := fun A => (va_Qv (fun _ : Nat → Nat => True) (zB K A (fun u : Nat → Nat => [(a0, zO 10 83 (va_up g0 54 (.int 15))), (a1, zI K 210000 (va_up f1 14 0)), (a2, zI K 210000 (va_up f2 14 14))])) A)) (by decide +kernel) (Nat.le_of_ble_eq_true rfl) ?_
  intro p e s m args below meth c A ls H hx hb hr hg hown hlocks hml hin hK hP hD hA hS hZ hl
  have hown : s.vm.findClass RX12 = some m.cls := hown
  have hl : lv_has ls 2 [(0, .ref a0), (1, .int 14)] := hl
  refine lv_iload_n hx hb dX12_reaches_0 rfl (lv_at hl 1 rfl) ?_
  refine lv_iconst (v := (-1)) hx hb dX12_reaches_1 (by decide) ?_
  refine lv_icmp_eq (tgt := 42) hx hb dX12_reaches_2 (by decide) (fun c => absurd c (by decide)) (fun _ => ?_)
  refine lv_aload_n hx hb dX12_reaches_5 rfl (lv_at hl 0 rfl) ?_
  refine z_get (v := .ref a1) hx hb hg hown hK hP i_X12 rfl 0 rfl 52 (by decide) mt1332 e0 dX12_reaches_6 ?_
  refine lv_iload_n hx hb dX12_reaches_9 rfl (lv_at hl 1 rfl) ?_
  refine z_iald (v := (-1)) (j := 14) hx hb hK hP 1 rfl rfl (Nat.le_of_ble_eq_true rfl) (Nat.le_of_ble_eq_true rfl) e1 dX12_reaches_10 ?_
  refine lv_iconst (v := (-1)) hx hb dX12_reaches_11 (by decide) ?_
  refine lv_icmp_ne (tgt := 42) hx hb dX12_reaches_12 (by decide) (fun c => absurd (by decide) c) (fun _ => ?_)
  refine lv_aload_n hx hb dX12_reaches_15 rfl (lv_at hl 0 rfl) ?_
  refine z_get (v := .ref a1) hx hb hg hown hK hP i_X12 rfl 0 rfl 52 (by decide) mt1332 e0 dX12_reaches_16 ?_
  refine lv_iload_n hx hb dX12_reaches_19 rfl (lv_at hl 1 rfl) ?_
  refine lv_iconst (v := 0) hx hb dX12_reaches_20 (by decide) ?_
  refine z_iast (j := 14) hx hb hK hP hD hS 1 rfl rfl (Nat.le_of_ble_eq_true rfl) (Nat.le_of_ble_eq_true rfl) dX12_reaches_21 (fun ff1 H locs y2 hP hD hS => ?_)
  have hP : va_P K.1 classes [(a0, zO 10 83 g0), (a1, zI K 210000 ff1), (a2, zI K 210000 f2)] H := hP
  have hD : va_D A [(a0, zO 10 83 g0), (a1, zI K 210000 ff1), (a2, zI K 210000 f2)] := hD
  refine lv_aload_n hx hb dX12_reaches_22 rfl (lv_at hl 0 rfl) ?_
  refine z_get (v := .ref a2) hx hb hg hown hK hP i_X12 rfl 0 rfl 53 (by decide) mt1333 e2 dX12_reaches_23 ?_
  refine lv_aload_n hx hb dX12_reaches_26 rfl (lv_at hl 0 rfl) ?_
  refine z_get (v := .int 14) hx hb hg hown hK hP i_X12 rfl 0 rfl 54 (by decide) mt1334 e3 dX12_reaches_27 ?_
  refine lv_iload_n hx hb dX12_reaches_30 rfl (lv_at hl 1 rfl) ?_
  refine z_iast (j := 14) hx hb hK hP hD hS 2 rfl rfl (Nat.le_of_ble_eq_true rfl) (Nat.le_of_ble_eq_true rfl) dX12_reaches_31 (fun ff3 H locs y4 hP hD hS => ?_)
  have hP : va_P K.1 classes [(a0, zO 10 83 g0), (a1, zI K 210000 ff1), (a2, zI K 210000 ff3)] H := hP
  have hD : va_D A [(a0, zO 10 83 g0), (a1, zI K 210000 ff1), (a2, zI K 210000 ff3)] := hD
  refine lv_aload_n hx hb dX12_reaches_32 rfl (lv_at hl 0 rfl) ?_
  refine lv_dup hx hb dX12_reaches_33 rfl ?_
  refine z_get (v := .int 14) hx hb hg hown hK hP i_X12 rfl 0 rfl 54 (by decide) mt1334 e3 dX12_reaches_34 ?_
  refine lv_iconst (v := 1) hx hb dX12_reaches_37 (by decide) ?_
  refine lv_iadd hx hb dX12_reaches_38 ?_
  refine z_cst (v := 15) (by decide +kernel) ?_
  refine z_put hx hb hg hown hK hP hD hS i_X12 rfl tyX12_ok nmX12 0 rfl 54 (by decide) mt1334 rfl rfl rfl dX12_reaches_39 (fun gg5 H locs y6 hP hD hS => ?_)
  have hP : va_P K.1 classes [(a0, zO 10 83 gg5), (a1, zI K 210000 ff1), (a2, zI K 210000 ff3)] H := hP
  have hD : va_D A [(a0, zO 10 83 gg5), (a1, zI K 210000 ff1), (a2, zI K 210000 ff3)] := hD
  subst y6
  subst y4
  subst y2
  have hP9 : va_P K.1 classes [(a0, zO 10 83 (va_up g0 54 (.int 15))), (a1, zI K 210000 (va_up f1 14 0)), (a2, zI K 210000 (va_up f2 14 14))] H := hP.sub [0, 1, 2] rfl
  have hD9 : va_D A [(a0, zO 10 83 (va_up g0 54 (.int 15))), (a1, zI K 210000 (va_up f1 14 0)), (a2, zI K 210000 (va_up f2 14 14))] := hD.sub [0, 1, 2] (by decide) rfl
  exact z_vret hx hb hr (fun _ => 0) trivial hP9 hD9 hS (Nat.le_of_ble_eq_true rfl) (Nat.le_of_ble_eq_true rfl) hlocks dX12_reaches_42
set_option maxHeartbeats 4000000 in
set_option maxRecDepth 100000 in
theorem cX12_reaches_16 (l : Launch) (K : zK) (sz : Nat) (a0 : Nat) (a1 : Nat) (a2 : Nat) (g0 : Nat → Value) (f1 : Nat → Int32) (f2 : Nat → Int32) (e0 : g0 52 = (.ref a1)) (e1 : f1 15 = (-1)) (e2 : g0 53 = (.ref a2)) (e3 : g0 54 = (.int 15)) : Met l yX12_reaches (Cond.code yX12_reaches cX12_reaches 2 none :: WG) { frames := 0, cells := 0, slots := 0, locals := 0 } (zPre K [(a0, zO 10 83 g0), (a1, zI K 210000 f1), (a2, zI K 210000 f2)] sz [.ref a0, .int 15]) (va_Qv (fun _ : Nat → Nat => True) (zB K (va_A [(a0, zO 10 83 g0), (a1, zI K 210000 f1), (a2, zI K 210000 f2)] sz) (fun u : Nat → Nat => [(a0, zO 10 83 (va_up g0 54 (.int 16))), (a1, zI K 210000 (va_up f1 15 0)), (a2, zI K 210000 (va_up f2 15 15))])) (va_A [(a0, zO 10 83 g0), (a1, zI K 210000 f1), (a2, zI K 210000 f2)] sz)) 0 0 (va_A [(a0, zO 10 83 g0), (a1, zI K 210000 f1), (a2, zI K 210000 f2)] sz) := by
  refine z_met (Qc := fun A => (va_Qv (fun _ : Nat → Nat => True) (zB K A (fun u : Nat → Nat => [(a0, zO 10 83 (va_up g0 54 (.int 16))), (a1, zI K 210000 (va_up f1 15 0)), (a2, zI K 210000 (va_up f2 15 15))])) A)) (by decide +kernel) (Nat.le_of_ble_eq_true rfl) ?_
  intro p e s m args below meth c A ls H hx hb hr hg hown hlocks hml hin hK hP hD hA hS hZ hl
  have hown : s.vm.findClass RX12 = some m.cls := hown
  have hl : lv_has ls 2 [(0, .ref a0), (1, .int 15)] := hl
  refine lv_iload_n hx hb dX12_reaches_0 rfl (lv_at hl 1 rfl) ?_
  refine lv_iconst (v := (-1)) hx hb dX12_reaches_1 (by decide) ?_
  refine lv_icmp_eq (tgt := 42) hx hb dX12_reaches_2 (by decide) (fun c => absurd c (by decide)) (fun _ => ?_)
  refine lv_aload_n hx hb dX12_reaches_5 rfl (lv_at hl 0 rfl) ?_
  refine z_get (v := .ref a1) hx hb hg hown hK hP i_X12 rfl 0 rfl 52 (by decide) mt1332 e0 dX12_reaches_6 ?_
  refine lv_iload_n hx hb dX12_reaches_9 rfl (lv_at hl 1 rfl) ?_
  refine z_iald (v := (-1)) (j := 15) hx hb hK hP 1 rfl rfl (Nat.le_of_ble_eq_true rfl) (Nat.le_of_ble_eq_true rfl) e1 dX12_reaches_10 ?_
  refine lv_iconst (v := (-1)) hx hb dX12_reaches_11 (by decide) ?_
  refine lv_icmp_ne (tgt := 42) hx hb dX12_reaches_12 (by decide) (fun c => absurd (by decide) c) (fun _ => ?_)
  refine lv_aload_n hx hb dX12_reaches_15 rfl (lv_at hl 0 rfl) ?_
  refine z_get (v := .ref a1) hx hb hg hown hK hP i_X12 rfl 0 rfl 52 (by decide) mt1332 e0 dX12_reaches_16 ?_
  refine lv_iload_n hx hb dX12_reaches_19 rfl (lv_at hl 1 rfl) ?_
  refine lv_iconst (v := 0) hx hb dX12_reaches_20 (by decide) ?_
  refine z_iast (j := 15) hx hb hK hP hD hS 1 rfl rfl (Nat.le_of_ble_eq_true rfl) (Nat.le_of_ble_eq_true rfl) dX12_reaches_21 (fun ff1 H locs y2 hP hD hS => ?_)
  have hP : va_P K.1 classes [(a0, zO 10 83 g0), (a1, zI K 210000 ff1), (a2, zI K 210000 f2)] H := hP
  have hD : va_D A [(a0, zO 10 83 g0), (a1, zI K 210000 ff1), (a2, zI K 210000 f2)] := hD
  refine lv_aload_n hx hb dX12_reaches_22 rfl (lv_at hl 0 rfl) ?_
  refine z_get (v := .ref a2) hx hb hg hown hK hP i_X12 rfl 0 rfl 53 (by decide) mt1333 e2 dX12_reaches_23 ?_
  refine lv_aload_n hx hb dX12_reaches_26 rfl (lv_at hl 0 rfl) ?_
  refine z_get (v := .int 15) hx hb hg hown hK hP i_X12 rfl 0 rfl 54 (by decide) mt1334 e3 dX12_reaches_27 ?_
  refine lv_iload_n hx hb dX12_reaches_30 rfl (lv_at hl 1 rfl) ?_
  refine z_iast (j := 15) hx hb hK hP hD hS 2 rfl rfl (Nat.le_of_ble_eq_true rfl) (Nat.le_of_ble_eq_true rfl) dX12_reaches_31 (fun ff3 H locs y4 hP hD hS => ?_)
  have hP : va_P K.1 classes [(a0, zO 10 83 g0), (a1, zI K 210000 ff1), (a2, zI K 210000 ff3)] H := hP
  have hD : va_D A [(a0, zO 10 83 g0), (a1, zI K 210000 ff1), (a2, zI K 210000 ff3)] := hD
  refine lv_aload_n hx hb dX12_reaches_32 rfl (lv_at hl 0 rfl) ?_
  refine lv_dup hx hb dX12_reaches_33 rfl ?_
  refine z_get (v := .int 15) hx hb hg hown hK hP i_X12 rfl 0 rfl 54 (by decide) mt1334 e3 dX12_reaches_34 ?_
  refine lv_iconst (v := 1) hx hb dX12_reaches_37 (by decide) ?_
  refine lv_iadd hx hb dX12_reaches_38 ?_
  refine z_cst (v := 16) (by decide +kernel) ?_
  refine z_put hx hb hg hown hK hP hD hS i_X12 rfl tyX12_ok nmX12 0 rfl 54 (by decide) mt1334 rfl rfl rfl dX12_reaches_39 (fun gg5 H locs y6 hP hD hS => ?_)
  have hP : va_P K.1 classes [(a0, zO 10 83 gg5), (a1, zI K 210000 ff1), (a2, zI K 210000 ff3)] H := hP
  have hD : va_D A [(a0, zO 10 83 gg5), (a1, zI K 210000 ff1), (a2, zI K 210000 ff3)] := hD
  subst y6
  subst y4
  subst y2
  have hP9 : va_P K.1 classes [(a0, zO 10 83 (va_up g0 54 (.int 16))), (a1, zI K 210000 (va_up f1 15 0)), (a2, zI K 210000 (va_up f2 15 15))] H := hP.sub [0, 1, 2] rfl
  have hD9 : va_D A [(a0, zO 10 83 (va_up g0 54 (.int 16))), (a1, zI K 210000 (va_up f1 15 0)), (a2, zI K 210000 (va_up f2 15 15))] := hD.sub [0, 1, 2] (by decide) rfl
  exact z_vret hx hb hr (fun _ => 0) trivial hP9 hD9 hS (Nat.le_of_ble_eq_true rfl) (Nat.le_of_ble_eq_true rfl) hlocks dX12_reaches_42
set_option maxHeartbeats 4000000 in
set_option maxRecDepth 100000 in
theorem cX12_follows_1 (l : Launch) (K : zK) (sz : Nat) (a0 : Nat) (a1 : Nat) (g0 : Nat → Value) (f1 : Nat → Int32) (e0 : g0 33 = (.ref a1)) (e1 : f1 15 = 0) : Met l yX12_follows (Cond.code yX12_follows cX12_follows 4 none :: WG) { frames := 0, cells := 0, slots := 0, locals := 0 } (zPre K [(a0, zO 10 83 g0), (a1, zI K 60000 f1)] sz [.ref a0, .int 15]) (va_Qv (fun _ : Nat → Nat => True) (zB K (va_A [(a0, zO 10 83 g0), (a1, zI K 60000 f1)] sz) (fun u : Nat → Nat => [(a0, zO 10 83 g0), (a1, zI K 60000 f1)])) (va_A [(a0, zO 10 83 g0), (a1, zI K 60000 f1)] sz)) 0 0 (va_A [(a0, zO 10 83 g0), (a1, zI K 60000 f1)] sz) := by
  refine z_met (Qc := fun A => (va_Qv (fun _ : Nat → Nat => True) (zB K A (fun u : Nat → Nat => [(a0, zO 10 83 g0), (a1, zI K 60000 f1)])) A)) (by decide +kernel) (Nat.le_of_ble_eq_true rfl) ?_
  intro p e s m args below meth c A ls H hx hb hr hg hown hlocks hml hin hK hP hD hA hS hZ hl
  have hown : s.vm.findClass RX12 = some m.cls := hown
  have hl : lv_has ls 4 [(0, .ref a0), (1, .int 15)] := hl
  refine lv_iload_n hx hb dX12_follows_0 rfl (lv_at hl 1 rfl) ?_
  refine lv_ldc (v := 60000) hx hb hown (hg _ mt1276) dX12_follows_1 ?_
  refine lv_icmp_ge (tgt := 80) hx hb dX12_follows_3 (by decide) (fun c => absurd c (by decide)) (fun _ => ?_)
  refine lv_aload_n hx hb dX12_follows_6 rfl (lv_at hl 0 rfl) ?_
  refine z_get (v := .ref a1) hx hb hg hown hK hP i_X12 rfl 0 rfl 33 (by decide) mt1313 e0 dX12_follows_7 ?_
  refine lv_iload_n hx hb dX12_follows_10 rfl (lv_at hl 1 rfl) ?_
  refine z_iald (v := 0) (j := 15) hx hb hK hP 1 rfl rfl (Nat.le_of_ble_eq_true rfl) (Nat.le_of_ble_eq_true rfl) e1 dX12_follows_11 ?_
  refine lv_iconst (v := 2) hx hb dX12_follows_12 (by decide) ?_
  refine lv_icmp_ne (tgt := 44) hx hb dX12_follows_13 (by decide) (fun _ => ?_) (fun c => absurd c (by decide))
  refine lv_iload_n hx hb dX12_follows_44 rfl (lv_at hl 1 rfl) ?_
  refine lv_bipush (v := 16) hx hb dX12_follows_45 (by decide) ?_
  refine lv_icmp_lt (tgt := 202) hx hb dX12_follows_47 (by decide) (fun _ => ?_) (fun c => absurd (by decide) c)
  have hP9 : va_P K.1 classes [(a0, zO 10 83 g0), (a1, zI K 60000 f1)] H := hP.sub [0, 1] rfl
  have hD9 : va_D A [(a0, zO 10 83 g0), (a1, zI K 60000 f1)] := hD.sub [0, 1] (by decide) rfl
  exact z_vret hx hb hr (fun _ => 0) trivial hP9 hD9 hS (Nat.le_of_ble_eq_true rfl) (Nat.le_of_ble_eq_true rfl) hlocks dX12_follows_202
set_option maxHeartbeats 4000000 in
set_option maxRecDepth 100000 in
theorem cX12_follows_2 (l : Launch) (K : zK) (sz : Nat) (a0 : Nat) (a1 : Nat) (g0 : Nat → Value) (f1 : Nat → Int32) (e0 : g0 33 = (.ref a1)) (e1 : f1 14 = 0) : Met l yX12_follows (Cond.code yX12_follows cX12_follows 4 none :: WG) { frames := 0, cells := 0, slots := 0, locals := 0 } (zPre K [(a0, zO 10 83 g0), (a1, zI K 60000 f1)] sz [.ref a0, .int 14]) (va_Qv (fun _ : Nat → Nat => True) (zB K (va_A [(a0, zO 10 83 g0), (a1, zI K 60000 f1)] sz) (fun u : Nat → Nat => [(a0, zO 10 83 g0), (a1, zI K 60000 f1)])) (va_A [(a0, zO 10 83 g0), (a1, zI K 60000 f1)] sz)) 0 0 (va_A [(a0, zO 10 83 g0), (a1, zI K 60000 f1)] sz) := by
  refine z_met (Qc := fun A => (va_Qv (fun _ : Nat → Nat => True) (zB K A (fun u : Nat → Nat => [(a0, zO 10 83 g0), (a1, zI K 60000 f1)])) A)) (by decide +kernel) (Nat.le_of_ble_eq_true rfl) ?_
  intro p e s m args below meth c A ls H hx hb hr hg hown hlocks hml hin hK hP hD hA hS hZ hl
  have hown : s.vm.findClass RX12 = some m.cls := hown
  have hl : lv_has ls 4 [(0, .ref a0), (1, .int 14)] := hl
  refine lv_iload_n hx hb dX12_follows_0 rfl (lv_at hl 1 rfl) ?_
  refine lv_ldc (v := 60000) hx hb hown (hg _ mt1276) dX12_follows_1 ?_
  refine lv_icmp_ge (tgt := 80) hx hb dX12_follows_3 (by decide) (fun c => absurd c (by decide)) (fun _ => ?_)
  refine lv_aload_n hx hb dX12_follows_6 rfl (lv_at hl 0 rfl) ?_
  refine z_get (v := .ref a1) hx hb hg hown hK hP i_X12 rfl 0 rfl 33 (by decide) mt1313 e0 dX12_follows_7 ?_
  refine lv_iload_n hx hb dX12_follows_10 rfl (lv_at hl 1 rfl) ?_
  refine z_iald (v := 0) (j := 14) hx hb hK hP 1 rfl rfl (Nat.le_of_ble_eq_true rfl) (Nat.le_of_ble_eq_true rfl) e1 dX12_follows_11 ?_
  refine lv_iconst (v := 2) hx hb dX12_follows_12 (by decide) ?_
  refine lv_icmp_ne (tgt := 44) hx hb dX12_follows_13 (by decide) (fun _ => ?_) (fun c => absurd c (by decide))
  refine lv_iload_n hx hb dX12_follows_44 rfl (lv_at hl 1 rfl) ?_
  refine lv_bipush (v := 16) hx hb dX12_follows_45 (by decide) ?_
  refine lv_icmp_lt (tgt := 202) hx hb dX12_follows_47 (by decide) (fun _ => ?_) (fun c => absurd (by decide) c)
  have hP9 : va_P K.1 classes [(a0, zO 10 83 g0), (a1, zI K 60000 f1)] H := hP.sub [0, 1] rfl
  have hD9 : va_D A [(a0, zO 10 83 g0), (a1, zI K 60000 f1)] := hD.sub [0, 1] (by decide) rfl
  exact z_vret hx hb hr (fun _ => 0) trivial hP9 hD9 hS (Nat.le_of_ble_eq_true rfl) (Nat.le_of_ble_eq_true rfl) hlocks dX12_follows_202
set_option maxHeartbeats 4000000 in
set_option maxRecDepth 100000 in
theorem cX12_follows_3 (l : Launch) (K : zK) (sz : Nat) (a0 : Nat) (a1 : Nat) (g0 : Nat → Value) (f1 : Nat → Int32) (e0 : g0 33 = (.ref a1)) (e1 : f1 13 = 0) : Met l yX12_follows (Cond.code yX12_follows cX12_follows 4 none :: WG) { frames := 0, cells := 0, slots := 0, locals := 0 } (zPre K [(a0, zO 10 83 g0), (a1, zI K 60000 f1)] sz [.ref a0, .int 13]) (va_Qv (fun _ : Nat → Nat => True) (zB K (va_A [(a0, zO 10 83 g0), (a1, zI K 60000 f1)] sz) (fun u : Nat → Nat => [(a0, zO 10 83 g0), (a1, zI K 60000 f1)])) (va_A [(a0, zO 10 83 g0), (a1, zI K 60000 f1)] sz)) 0 0 (va_A [(a0, zO 10 83 g0), (a1, zI K 60000 f1)] sz) := by
  refine z_met (Qc := fun A => (va_Qv (fun _ : Nat → Nat => True) (zB K A (fun u : Nat → Nat => [(a0, zO 10 83 g0), (a1, zI K 60000 f1)])) A)) (by decide +kernel) (Nat.le_of_ble_eq_true rfl) ?_
  intro p e s m args below meth c A ls H hx hb hr hg hown hlocks hml hin hK hP hD hA hS hZ hl
  have hown : s.vm.findClass RX12 = some m.cls := hown
  have hl : lv_has ls 4 [(0, .ref a0), (1, .int 13)] := hl
  refine lv_iload_n hx hb dX12_follows_0 rfl (lv_at hl 1 rfl) ?_
  refine lv_ldc (v := 60000) hx hb hown (hg _ mt1276) dX12_follows_1 ?_
  refine lv_icmp_ge (tgt := 80) hx hb dX12_follows_3 (by decide) (fun c => absurd c (by decide)) (fun _ => ?_)
  refine lv_aload_n hx hb dX12_follows_6 rfl (lv_at hl 0 rfl) ?_
  refine z_get (v := .ref a1) hx hb hg hown hK hP i_X12 rfl 0 rfl 33 (by decide) mt1313 e0 dX12_follows_7 ?_
  refine lv_iload_n hx hb dX12_follows_10 rfl (lv_at hl 1 rfl) ?_
  refine z_iald (v := 0) (j := 13) hx hb hK hP 1 rfl rfl (Nat.le_of_ble_eq_true rfl) (Nat.le_of_ble_eq_true rfl) e1 dX12_follows_11 ?_
  refine lv_iconst (v := 2) hx hb dX12_follows_12 (by decide) ?_
  refine lv_icmp_ne (tgt := 44) hx hb dX12_follows_13 (by decide) (fun _ => ?_) (fun c => absurd c (by decide))
  refine lv_iload_n hx hb dX12_follows_44 rfl (lv_at hl 1 rfl) ?_
  refine lv_bipush (v := 16) hx hb dX12_follows_45 (by decide) ?_
  refine lv_icmp_lt (tgt := 202) hx hb dX12_follows_47 (by decide) (fun _ => ?_) (fun c => absurd (by decide) c)
  have hP9 : va_P K.1 classes [(a0, zO 10 83 g0), (a1, zI K 60000 f1)] H := hP.sub [0, 1] rfl
  have hD9 : va_D A [(a0, zO 10 83 g0), (a1, zI K 60000 f1)] := hD.sub [0, 1] (by decide) rfl
  exact z_vret hx hb hr (fun _ => 0) trivial hP9 hD9 hS (Nat.le_of_ble_eq_true rfl) (Nat.le_of_ble_eq_true rfl) hlocks dX12_follows_202
set_option maxHeartbeats 4000000 in
set_option maxRecDepth 100000 in
theorem cX12_follows_4 (l : Launch) (K : zK) (sz : Nat) (a0 : Nat) (a1 : Nat) (g0 : Nat → Value) (f1 : Nat → Int32) (e0 : g0 33 = (.ref a1)) (e1 : f1 12 = 0) : Met l yX12_follows (Cond.code yX12_follows cX12_follows 4 none :: WG) { frames := 0, cells := 0, slots := 0, locals := 0 } (zPre K [(a0, zO 10 83 g0), (a1, zI K 60000 f1)] sz [.ref a0, .int 12]) (va_Qv (fun _ : Nat → Nat => True) (zB K (va_A [(a0, zO 10 83 g0), (a1, zI K 60000 f1)] sz) (fun u : Nat → Nat => [(a0, zO 10 83 g0), (a1, zI K 60000 f1)])) (va_A [(a0, zO 10 83 g0), (a1, zI K 60000 f1)] sz)) 0 0 (va_A [(a0, zO 10 83 g0), (a1, zI K 60000 f1)] sz) := by
  refine z_met (Qc := fun A => (va_Qv (fun _ : Nat → Nat => True) (zB K A (fun u : Nat → Nat => [(a0, zO 10 83 g0), (a1, zI K 60000 f1)])) A)) (by decide +kernel) (Nat.le_of_ble_eq_true rfl) ?_
  intro p e s m args below meth c A ls H hx hb hr hg hown hlocks hml hin hK hP hD hA hS hZ hl
  have hown : s.vm.findClass RX12 = some m.cls := hown
  have hl : lv_has ls 4 [(0, .ref a0), (1, .int 12)] := hl
  refine lv_iload_n hx hb dX12_follows_0 rfl (lv_at hl 1 rfl) ?_
  refine lv_ldc (v := 60000) hx hb hown (hg _ mt1276) dX12_follows_1 ?_
  refine lv_icmp_ge (tgt := 80) hx hb dX12_follows_3 (by decide) (fun c => absurd c (by decide)) (fun _ => ?_)
  refine lv_aload_n hx hb dX12_follows_6 rfl (lv_at hl 0 rfl) ?_
  refine z_get (v := .ref a1) hx hb hg hown hK hP i_X12 rfl 0 rfl 33 (by decide) mt1313 e0 dX12_follows_7 ?_
  refine lv_iload_n hx hb dX12_follows_10 rfl (lv_at hl 1 rfl) ?_
  refine z_iald (v := 0) (j := 12) hx hb hK hP 1 rfl rfl (Nat.le_of_ble_eq_true rfl) (Nat.le_of_ble_eq_true rfl) e1 dX12_follows_11 ?_
  refine lv_iconst (v := 2) hx hb dX12_follows_12 (by decide) ?_
  refine lv_icmp_ne (tgt := 44) hx hb dX12_follows_13 (by decide) (fun _ => ?_) (fun c => absurd c (by decide))
  refine lv_iload_n hx hb dX12_follows_44 rfl (lv_at hl 1 rfl) ?_
  refine lv_bipush (v := 16) hx hb dX12_follows_45 (by decide) ?_
  refine lv_icmp_lt (tgt := 202) hx hb dX12_follows_47 (by decide) (fun _ => ?_) (fun c => absurd (by decide) c)
  have hP9 : va_P K.1 classes [(a0, zO 10 83 g0), (a1, zI K 60000 f1)] H := hP.sub [0, 1] rfl
  have hD9 : va_D A [(a0, zO 10 83 g0), (a1, zI K 60000 f1)] := hD.sub [0, 1] (by decide) rfl
  exact z_vret hx hb hr (fun _ => 0) trivial hP9 hD9 hS (Nat.le_of_ble_eq_true rfl) (Nat.le_of_ble_eq_true rfl) hlocks dX12_follows_202
set_option maxHeartbeats 4000000 in
set_option maxRecDepth 100000 in
theorem cX12_follows_5 (l : Launch) (K : zK) (sz : Nat) (a0 : Nat) (a1 : Nat) (g0 : Nat → Value) (f1 : Nat → Int32) (e0 : g0 33 = (.ref a1)) (e1 : f1 11 = 0) : Met l yX12_follows (Cond.code yX12_follows cX12_follows 4 none :: WG) { frames := 0, cells := 0, slots := 0, locals := 0 } (zPre K [(a0, zO 10 83 g0), (a1, zI K 60000 f1)] sz [.ref a0, .int 11]) (va_Qv (fun _ : Nat → Nat => True) (zB K (va_A [(a0, zO 10 83 g0), (a1, zI K 60000 f1)] sz) (fun u : Nat → Nat => [(a0, zO 10 83 g0), (a1, zI K 60000 f1)])) (va_A [(a0, zO 10 83 g0), (a1, zI K 60000 f1)] sz)) 0 0 (va_A [(a0, zO 10 83 g0), (a1, zI K 60000 f1)] sz) := by
  refine z_met (Qc := fun A => (va_Qv (fun _ : Nat → Nat => True) (zB K A (fun u : Nat → Nat => [(a0, zO 10 83 g0), (a1, zI K 60000 f1)])) A)) (by decide +kernel) (Nat.le_of_ble_eq_true rfl) ?_
  intro p e s m args below meth c A ls H hx hb hr hg hown hlocks hml hin hK hP hD hA hS hZ hl
  have hown : s.vm.findClass RX12 = some m.cls := hown
  have hl : lv_has ls 4 [(0, .ref a0), (1, .int 11)] := hl
  refine lv_iload_n hx hb dX12_follows_0 rfl (lv_at hl 1 rfl) ?_
  refine lv_ldc (v := 60000) hx hb hown (hg _ mt1276) dX12_follows_1 ?_
  refine lv_icmp_ge (tgt := 80) hx hb dX12_follows_3 (by decide) (fun c => absurd c (by decide)) (fun _ => ?_)
  refine lv_aload_n hx hb dX12_follows_6 rfl (lv_at hl 0 rfl) ?_
  refine z_get (v := .ref a1) hx hb hg hown hK hP i_X12 rfl 0 rfl 33 (by decide) mt1313 e0 dX12_follows_7 ?_
  refine lv_iload_n hx hb dX12_follows_10 rfl (lv_at hl 1 rfl) ?_
  refine z_iald (v := 0) (j := 11) hx hb hK hP 1 rfl rfl (Nat.le_of_ble_eq_true rfl) (Nat.le_of_ble_eq_true rfl) e1 dX12_follows_11 ?_
  refine lv_iconst (v := 2) hx hb dX12_follows_12 (by decide) ?_
  refine lv_icmp_ne (tgt := 44) hx hb dX12_follows_13 (by decide) (fun _ => ?_) (fun c => absurd c (by decide))
  refine lv_iload_n hx hb dX12_follows_44 rfl (lv_at hl 1 rfl) ?_
  refine lv_bipush (v := 16) hx hb dX12_follows_45 (by decide) ?_
  refine lv_icmp_lt (tgt := 202) hx hb dX12_follows_47 (by decide) (fun _ => ?_) (fun c => absurd (by decide) c)
  have hP9 : va_P K.1 classes [(a0, zO 10 83 g0), (a1, zI K 60000 f1)] H := hP.sub [0, 1] rfl
  have hD9 : va_D A [(a0, zO 10 83 g0), (a1, zI K 60000 f1)] := hD.sub [0, 1] (by decide) rfl
  exact z_vret hx hb hr (fun _ => 0) trivial hP9 hD9 hS (Nat.le_of_ble_eq_true rfl) (Nat.le_of_ble_eq_true rfl) hlocks dX12_follows_202
set_option maxHeartbeats 4000000 in
set_option maxRecDepth 100000 in
theorem cX12_follows_6 (l : Launch) (K : zK) (sz : Nat) (a0 : Nat) (a1 : Nat) (g0 : Nat → Value) (f1 : Nat → Int32) (e0 : g0 33 = (.ref a1)) (e1 : f1 10 = 0) : Met l yX12_follows (Cond.code yX12_follows cX12_follows 4 none :: WG) { frames := 0, cells := 0, slots := 0, locals := 0 } (zPre K [(a0, zO 10 83 g0), (a1, zI K 60000 f1)] sz [.ref a0, .int 10]) (va_Qv (fun _ : Nat → Nat => True) (zB K (va_A [(a0, zO 10 83 g0), (a1, zI K 60000 f1)] sz) (fun u : Nat → Nat => [(a0, zO 10 83 g0), (a1, zI K 60000 f1)])) (va_A [(a0, zO 10 83 g0), (a1, zI K 60000 f1)] sz)) 0 0 (va_A [(a0, zO 10 83 g0), (a1, zI K 60000 f1)] sz) := by
  refine z_met (Qc := fun A => (va_Qv (fun _ : Nat → Nat => True) (zB K A (fun u : Nat → Nat => [(a0, zO 10 83 g0), (a1, zI K 60000 f1)])) A)) (by decide +kernel) (Nat.le_of_ble_eq_true rfl) ?_
  intro p e s m args below meth c A ls H hx hb hr hg hown hlocks hml hin hK hP hD hA hS hZ hl
  have hown : s.vm.findClass RX12 = some m.cls := hown
  have hl : lv_has ls 4 [(0, .ref a0), (1, .int 10)] := hl
  refine lv_iload_n hx hb dX12_follows_0 rfl (lv_at hl 1 rfl) ?_
  refine lv_ldc (v := 60000) hx hb hown (hg _ mt1276) dX12_follows_1 ?_
  refine lv_icmp_ge (tgt := 80) hx hb dX12_follows_3 (by decide) (fun c => absurd c (by decide)) (fun _ => ?_)
  refine lv_aload_n hx hb dX12_follows_6 rfl (lv_at hl 0 rfl) ?_
  refine z_get (v := .ref a1) hx hb hg hown hK hP i_X12 rfl 0 rfl 33 (by decide) mt1313 e0 dX12_follows_7 ?_
  refine lv_iload_n hx hb dX12_follows_10 rfl (lv_at hl 1 rfl) ?_
  refine z_iald (v := 0) (j := 10) hx hb hK hP 1 rfl rfl (Nat.le_of_ble_eq_true rfl) (Nat.le_of_ble_eq_true rfl) e1 dX12_follows_11 ?_
  refine lv_iconst (v := 2) hx hb dX12_follows_12 (by decide) ?_
  refine lv_icmp_ne (tgt := 44) hx hb dX12_follows_13 (by decide) (fun _ => ?_) (fun c => absurd c (by decide))
  refine lv_iload_n hx hb dX12_follows_44 rfl (lv_at hl 1 rfl) ?_
  refine lv_bipush (v := 16) hx hb dX12_follows_45 (by decide) ?_
  refine lv_icmp_lt (tgt := 202) hx hb dX12_follows_47 (by decide) (fun _ => ?_) (fun c => absurd (by decide) c)
  have hP9 : va_P K.1 classes [(a0, zO 10 83 g0), (a1, zI K 60000 f1)] H := hP.sub [0, 1] rfl
  have hD9 : va_D A [(a0, zO 10 83 g0), (a1, zI K 60000 f1)] := hD.sub [0, 1] (by decide) rfl
  exact z_vret hx hb hr (fun _ => 0) trivial hP9 hD9 hS (Nat.le_of_ble_eq_true rfl) (Nat.le_of_ble_eq_true rfl) hlocks dX12_follows_202
set_option maxHeartbeats 4000000 in
set_option maxRecDepth 100000 in
theorem cX12_follows_7 (l : Launch) (K : zK) (sz : Nat) (a0 : Nat) (a1 : Nat) (g0 : Nat → Value) (f1 : Nat → Int32) (e0 : g0 33 = (.ref a1)) (e1 : f1 9 = 0) : Met l yX12_follows (Cond.code yX12_follows cX12_follows 4 none :: WG) { frames := 0, cells := 0, slots := 0, locals := 0 } (zPre K [(a0, zO 10 83 g0), (a1, zI K 60000 f1)] sz [.ref a0, .int 9]) (va_Qv (fun _ : Nat → Nat => True) (zB K (va_A [(a0, zO 10 83 g0), (a1, zI K 60000 f1)] sz) (fun u : Nat → Nat => [(a0, zO 10 83 g0), (a1, zI K 60000 f1)])) (va_A [(a0, zO 10 83 g0), (a1, zI K 60000 f1)] sz)) 0 0 (va_A [(a0, zO 10 83 g0), (a1, zI K 60000 f1)] sz) := by
  refine z_met (Qc := fun A => (va_Qv (fun _ : Nat → Nat => True) (zB K A (fun u : Nat → Nat => [(a0, zO 10 83 g0), (a1, zI K 60000 f1)])) A)) (by decide +kernel) (Nat.le_of_ble_eq_true rfl) ?_
  intro p e s m args below meth c A ls H hx hb hr hg hown hlocks hml hin hK hP hD hA hS hZ hl
  have hown : s.vm.findClass RX12 = some m.cls := hown
  have hl : lv_has ls 4 [(0, .ref a0), (1, .int 9)] := hl
  refine lv_iload_n hx hb dX12_follows_0 rfl (lv_at hl 1 rfl) ?_
  refine lv_ldc (v := 60000) hx hb hown (hg _ mt1276) dX12_follows_1 ?_
  refine lv_icmp_ge (tgt := 80) hx hb dX12_follows_3 (by decide) (fun c => absurd c (by decide)) (fun _ => ?_)
  refine lv_aload_n hx hb dX12_follows_6 rfl (lv_at hl 0 rfl) ?_
  refine z_get (v := .ref a1) hx hb hg hown hK hP i_X12 rfl 0 rfl 33 (by decide) mt1313 e0 dX12_follows_7 ?_
  refine lv_iload_n hx hb dX12_follows_10 rfl (lv_at hl 1 rfl) ?_
  refine z_iald (v := 0) (j := 9) hx hb hK hP 1 rfl rfl (Nat.le_of_ble_eq_true rfl) (Nat.le_of_ble_eq_true rfl) e1 dX12_follows_11 ?_
  refine lv_iconst (v := 2) hx hb dX12_follows_12 (by decide) ?_
  refine lv_icmp_ne (tgt := 44) hx hb dX12_follows_13 (by decide) (fun _ => ?_) (fun c => absurd c (by decide))
  refine lv_iload_n hx hb dX12_follows_44 rfl (lv_at hl 1 rfl) ?_
  refine lv_bipush (v := 16) hx hb dX12_follows_45 (by decide) ?_
  refine lv_icmp_lt (tgt := 202) hx hb dX12_follows_47 (by decide) (fun _ => ?_) (fun c => absurd (by decide) c)
  have hP9 : va_P K.1 classes [(a0, zO 10 83 g0), (a1, zI K 60000 f1)] H := hP.sub [0, 1] rfl
  have hD9 : va_D A [(a0, zO 10 83 g0), (a1, zI K 60000 f1)] := hD.sub [0, 1] (by decide) rfl
  exact z_vret hx hb hr (fun _ => 0) trivial hP9 hD9 hS (Nat.le_of_ble_eq_true rfl) (Nat.le_of_ble_eq_true rfl) hlocks dX12_follows_202
set_option maxHeartbeats 4000000 in
set_option maxRecDepth 100000 in
theorem cX12_follows_8 (l : Launch) (K : zK) (sz : Nat) (a0 : Nat) (a1 : Nat) (g0 : Nat → Value) (f1 : Nat → Int32) (e0 : g0 33 = (.ref a1)) (e1 : f1 8 = 0) : Met l yX12_follows (Cond.code yX12_follows cX12_follows 4 none :: WG) { frames := 0, cells := 0, slots := 0, locals := 0 } (zPre K [(a0, zO 10 83 g0), (a1, zI K 60000 f1)] sz [.ref a0, .int 8]) (va_Qv (fun _ : Nat → Nat => True) (zB K (va_A [(a0, zO 10 83 g0), (a1, zI K 60000 f1)] sz) (fun u : Nat → Nat => [(a0, zO 10 83 g0), (a1, zI K 60000 f1)])) (va_A [(a0, zO 10 83 g0), (a1, zI K 60000 f1)] sz)) 0 0 (va_A [(a0, zO 10 83 g0), (a1, zI K 60000 f1)] sz) := by
  refine z_met (Qc := fun A => (va_Qv (fun _ : Nat → Nat => True) (zB K A (fun u : Nat → Nat => [(a0, zO 10 83 g0), (a1, zI K 60000 f1)])) A)) (by decide +kernel) (Nat.le_of_ble_eq_true rfl) ?_
  intro p e s m args below meth c A ls H hx hb hr hg hown hlocks hml hin hK hP hD hA hS hZ hl
  have hown : s.vm.findClass RX12 = some m.cls := hown
  have hl : lv_has ls 4 [(0, .ref a0), (1, .int 8)] := hl
  refine lv_iload_n hx hb dX12_follows_0 rfl (lv_at hl 1 rfl) ?_
  refine lv_ldc (v := 60000) hx hb hown (hg _ mt1276) dX12_follows_1 ?_
  refine lv_icmp_ge (tgt := 80) hx hb dX12_follows_3 (by decide) (fun c => absurd c (by decide)) (fun _ => ?_)
  refine lv_aload_n hx hb dX12_follows_6 rfl (lv_at hl 0 rfl) ?_
  refine z_get (v := .ref a1) hx hb hg hown hK hP i_X12 rfl 0 rfl 33 (by decide) mt1313 e0 dX12_follows_7 ?_
  refine lv_iload_n hx hb dX12_follows_10 rfl (lv_at hl 1 rfl) ?_
  refine z_iald (v := 0) (j := 8) hx hb hK hP 1 rfl rfl (Nat.le_of_ble_eq_true rfl) (Nat.le_of_ble_eq_true rfl) e1 dX12_follows_11 ?_
  refine lv_iconst (v := 2) hx hb dX12_follows_12 (by decide) ?_
  refine lv_icmp_ne (tgt := 44) hx hb dX12_follows_13 (by decide) (fun _ => ?_) (fun c => absurd c (by decide))
  refine lv_iload_n hx hb dX12_follows_44 rfl (lv_at hl 1 rfl) ?_
  refine lv_bipush (v := 16) hx hb dX12_follows_45 (by decide) ?_
  refine lv_icmp_lt (tgt := 202) hx hb dX12_follows_47 (by decide) (fun _ => ?_) (fun c => absurd (by decide) c)
  have hP9 : va_P K.1 classes [(a0, zO 10 83 g0), (a1, zI K 60000 f1)] H := hP.sub [0, 1] rfl
  have hD9 : va_D A [(a0, zO 10 83 g0), (a1, zI K 60000 f1)] := hD.sub [0, 1] (by decide) rfl
  exact z_vret hx hb hr (fun _ => 0) trivial hP9 hD9 hS (Nat.le_of_ble_eq_true rfl) (Nat.le_of_ble_eq_true rfl) hlocks dX12_follows_202
set_option maxHeartbeats 4000000 in
set_option maxRecDepth 100000 in
theorem cX12_follows_9 (l : Launch) (K : zK) (sz : Nat) (a0 : Nat) (a1 : Nat) (g0 : Nat → Value) (f1 : Nat → Int32) (e0 : g0 33 = (.ref a1)) (e1 : f1 7 = 0) : Met l yX12_follows (Cond.code yX12_follows cX12_follows 4 none :: WG) { frames := 0, cells := 0, slots := 0, locals := 0 } (zPre K [(a0, zO 10 83 g0), (a1, zI K 60000 f1)] sz [.ref a0, .int 7]) (va_Qv (fun _ : Nat → Nat => True) (zB K (va_A [(a0, zO 10 83 g0), (a1, zI K 60000 f1)] sz) (fun u : Nat → Nat => [(a0, zO 10 83 g0), (a1, zI K 60000 f1)])) (va_A [(a0, zO 10 83 g0), (a1, zI K 60000 f1)] sz)) 0 0 (va_A [(a0, zO 10 83 g0), (a1, zI K 60000 f1)] sz) := by
  refine z_met (Qc := fun A => (va_Qv (fun _ : Nat → Nat => True) (zB K A (fun u : Nat → Nat => [(a0, zO 10 83 g0), (a1, zI K 60000 f1)])) A)) (by decide +kernel) (Nat.le_of_ble_eq_true rfl) ?_
  intro p e s m args below meth c A ls H hx hb hr hg hown hlocks hml hin hK hP hD hA hS hZ hl
  have hown : s.vm.findClass RX12 = some m.cls := hown
  have hl : lv_has ls 4 [(0, .ref a0), (1, .int 7)] := hl
  refine lv_iload_n hx hb dX12_follows_0 rfl (lv_at hl 1 rfl) ?_
  refine lv_ldc (v := 60000) hx hb hown (hg _ mt1276) dX12_follows_1 ?_
  refine lv_icmp_ge (tgt := 80) hx hb dX12_follows_3 (by decide) (fun c => absurd c (by decide)) (fun _ => ?_)
  refine lv_aload_n hx hb dX12_follows_6 rfl (lv_at hl 0 rfl) ?_
  refine z_get (v := .ref a1) hx hb hg hown hK hP i_X12 rfl 0 rfl 33 (by decide) mt1313 e0 dX12_follows_7 ?_
  refine lv_iload_n hx hb dX12_follows_10 rfl (lv_at hl 1 rfl) ?_
  refine z_iald (v := 0) (j := 7) hx hb hK hP 1 rfl rfl (Nat.le_of_ble_eq_true rfl) (Nat.le_of_ble_eq_true rfl) e1 dX12_follows_11 ?_
  refine lv_iconst (v := 2) hx hb dX12_follows_12 (by decide) ?_
  refine lv_icmp_ne (tgt := 44) hx hb dX12_follows_13 (by decide) (fun _ => ?_) (fun c => absurd c (by decide))
  refine lv_iload_n hx hb dX12_follows_44 rfl (lv_at hl 1 rfl) ?_
  refine lv_bipush (v := 16) hx hb dX12_follows_45 (by decide) ?_
  refine lv_icmp_lt (tgt := 202) hx hb dX12_follows_47 (by decide) (fun _ => ?_) (fun c => absurd (by decide) c)
  have hP9 : va_P K.1 classes [(a0, zO 10 83 g0), (a1, zI K 60000 f1)] H := hP.sub [0, 1] rfl
  have hD9 : va_D A [(a0, zO 10 83 g0), (a1, zI K 60000 f1)] := hD.sub [0, 1] (by decide) rfl
  exact z_vret hx hb hr (fun _ => 0) trivial hP9 hD9 hS (Nat.le_of_ble_eq_true rfl) (Nat.le_of_ble_eq_true rfl) hlocks dX12_follows_202
set_option maxHeartbeats 4000000 in
set_option maxRecDepth 100000 in
theorem cX12_follows_10 (l : Launch) (K : zK) (sz : Nat) (a0 : Nat) (a1 : Nat) (g0 : Nat → Value) (f1 : Nat → Int32) (e0 : g0 33 = (.ref a1)) (e1 : f1 6 = 0) : Met l yX12_follows (Cond.code yX12_follows cX12_follows 4 none :: WG) { frames := 0, cells := 0, slots := 0, locals := 0 } (zPre K [(a0, zO 10 83 g0), (a1, zI K 60000 f1)] sz [.ref a0, .int 6]) (va_Qv (fun _ : Nat → Nat => True) (zB K (va_A [(a0, zO 10 83 g0), (a1, zI K 60000 f1)] sz) (fun u : Nat → Nat => [(a0, zO 10 83 g0), (a1, zI K 60000 f1)])) (va_A [(a0, zO 10 83 g0), (a1, zI K 60000 f1)] sz)) 0 0 (va_A [(a0, zO 10 83 g0), (a1, zI K 60000 f1)] sz) := by
  refine z_met (Qc := fun A => (va_Qv (fun _ : Nat → Nat => True) (zB K A (fun u : Nat → Nat => [(a0, zO 10 83 g0), (a1, zI K 60000 f1)])) A)) (by decide +kernel) (Nat.le_of_ble_eq_true rfl) ?_
  intro p e s m args below meth c A ls H hx hb hr hg hown hlocks hml hin hK hP hD hA hS hZ hl
  have hown : s.vm.findClass RX12 = some m.cls := hown
  have hl : lv_has ls 4 [(0, .ref a0), (1, .int 6)] := hl
  refine lv_iload_n hx hb dX12_follows_0 rfl (lv_at hl 1 rfl) ?_
  refine lv_ldc (v := 60000) hx hb hown (hg _ mt1276) dX12_follows_1 ?_
  refine lv_icmp_ge (tgt := 80) hx hb dX12_follows_3 (by decide) (fun c => absurd c (by decide)) (fun _ => ?_)
  refine lv_aload_n hx hb dX12_follows_6 rfl (lv_at hl 0 rfl) ?_
  refine z_get (v := .ref a1) hx hb hg hown hK hP i_X12 rfl 0 rfl 33 (by decide) mt1313 e0 dX12_follows_7 ?_
  refine lv_iload_n hx hb dX12_follows_10 rfl (lv_at hl 1 rfl) ?_
  refine z_iald (v := 0) (j := 6) hx hb hK hP 1 rfl rfl (Nat.le_of_ble_eq_true rfl) (Nat.le_of_ble_eq_true rfl) e1 dX12_follows_11 ?_
  refine lv_iconst (v := 2) hx hb dX12_follows_12 (by decide) ?_
  refine lv_icmp_ne (tgt := 44) hx hb dX12_follows_13 (by decide) (fun _ => ?_) (fun c => absurd c (by decide))
  refine lv_iload_n hx hb dX12_follows_44 rfl (lv_at hl 1 rfl) ?_
  refine lv_bipush (v := 16) hx hb dX12_follows_45 (by decide) ?_
  refine lv_icmp_lt (tgt := 202) hx hb dX12_follows_47 (by decide) (fun _ => ?_) (fun c => absurd (by decide) c)
  have hP9 : va_P K.1 classes [(a0, zO 10 83 g0), (a1, zI K 60000 f1)] H := hP.sub [0, 1] rfl
  have hD9 : va_D A [(a0, zO 10 83 g0), (a1, zI K 60000 f1)] := hD.sub [0, 1] (by decide) rfl
  exact z_vret hx hb hr (fun _ => 0) trivial hP9 hD9 hS (Nat.le_of_ble_eq_true rfl) (Nat.le_of_ble_eq_true rfl) hlocks dX12_follows_202
set_option maxHeartbeats 4000000 in
set_option maxRecDepth 100000 in
theorem cX12_follows_11 (l : Launch) (K : zK) (sz : Nat) (a0 : Nat) (a1 : Nat) (g0 : Nat → Value) (f1 : Nat → Int32) (e0 : g0 33 = (.ref a1)) (e1 : f1 5 = 0) : Met l yX12_follows (Cond.code yX12_follows cX12_follows 4 none :: WG) { frames := 0, cells := 0, slots := 0, locals := 0 } (zPre K [(a0, zO 10 83 g0), (a1, zI K 60000 f1)] sz [.ref a0, .int 5]) (va_Qv (fun _ : Nat → Nat => True) (zB K (va_A [(a0, zO 10 83 g0), (a1, zI K 60000 f1)] sz) (fun u : Nat → Nat => [(a0, zO 10 83 g0), (a1, zI K 60000 f1)])) (va_A [(a0, zO 10 83 g0), (a1, zI K 60000 f1)] sz)) 0 0 (va_A [(a0, zO 10 83 g0), (a1, zI K 60000 f1)] sz) := by
  refine z_met (Qc := fun A => (va_Qv (fun _ : Nat → Nat => True) (zB K A (fun u : Nat → Nat => [(a0, zO 10 83 g0), (a1, zI K 60000 f1)])) A)) (by decide +kernel) (Nat.le_of_ble_eq_true rfl) ?_
  intro p e s m args below meth c A ls H hx hb hr hg hown hlocks hml hin hK hP hD hA hS hZ hl
  have hown : s.vm.findClass RX12 = some m.cls := hown
  have hl : lv_has ls 4 [(0, .ref a0), (1, .int 5)] := hl
  refine lv_iload_n hx hb dX12_follows_0 rfl (lv_at hl 1 rfl) ?_
  refine lv_ldc (v := 60000) hx hb hown (hg _ mt1276) dX12_follows_1 ?_
  refine lv_icmp_ge (tgt := 80) hx hb dX12_follows_3 (by decide) (fun c => absurd c (by decide)) (fun _ => ?_)
  refine lv_aload_n hx hb dX12_follows_6 rfl (lv_at hl 0 rfl) ?_
  refine z_get (v := .ref a1) hx hb hg hown hK hP i_X12 rfl 0 rfl 33 (by decide) mt1313 e0 dX12_follows_7 ?_
  refine lv_iload_n hx hb dX12_follows_10 rfl (lv_at hl 1 rfl) ?_
  refine z_iald (v := 0) (j := 5) hx hb hK hP 1 rfl rfl (Nat.le_of_ble_eq_true rfl) (Nat.le_of_ble_eq_true rfl) e1 dX12_follows_11 ?_
  refine lv_iconst (v := 2) hx hb dX12_follows_12 (by decide) ?_
  refine lv_icmp_ne (tgt := 44) hx hb dX12_follows_13 (by decide) (fun _ => ?_) (fun c => absurd c (by decide))
  refine lv_iload_n hx hb dX12_follows_44 rfl (lv_at hl 1 rfl) ?_
  refine lv_bipush (v := 16) hx hb dX12_follows_45 (by decide) ?_
  refine lv_icmp_lt (tgt := 202) hx hb dX12_follows_47 (by decide) (fun _ => ?_) (fun c => absurd (by decide) c)
  have hP9 : va_P K.1 classes [(a0, zO 10 83 g0), (a1, zI K 60000 f1)] H := hP.sub [0, 1] rfl
  have hD9 : va_D A [(a0, zO 10 83 g0), (a1, zI K 60000 f1)] := hD.sub [0, 1] (by decide) rfl
  exact z_vret hx hb hr (fun _ => 0) trivial hP9 hD9 hS (Nat.le_of_ble_eq_true rfl) (Nat.le_of_ble_eq_true rfl) hlocks dX12_follows_202
set_option maxHeartbeats 4000000 in
set_option maxRecDepth 100000 in
theorem cX12_follows_12 (l : Launch) (K : zK) (sz : Nat) (a0 : Nat) (a1 : Nat) (g0 : Nat → Value) (f1 : Nat → Int32) (e0 : g0 33 = (.ref a1)) (e1 : f1 4 = 0) : Met l yX12_follows (Cond.code yX12_follows cX12_follows 4 none :: WG) { frames := 0, cells := 0, slots := 0, locals := 0 } (zPre K [(a0, zO 10 83 g0), (a1, zI K 60000 f1)] sz [.ref a0, .int 4]) (va_Qv (fun _ : Nat → Nat => True) (zB K (va_A [(a0, zO 10 83 g0), (a1, zI K 60000 f1)] sz) (fun u : Nat → Nat => [(a0, zO 10 83 g0), (a1, zI K 60000 f1)])) (va_A [(a0, zO 10 83 g0), (a1, zI K 60000 f1)] sz)) 0 0 (va_A [(a0, zO 10 83 g0), (a1, zI K 60000 f1)] sz) := by
  refine z_met (Qc := fun A => (va_Qv (fun _ : Nat → Nat => True) (zB K A (fun u : Nat → Nat => [(a0, zO 10 83 g0), (a1, zI K 60000 f1)])) A)) (by decide +kernel) (Nat.le_of_ble_eq_true rfl) ?_
  intro p e s m args below meth c A ls H hx hb hr hg hown hlocks hml hin hK hP hD hA hS hZ hl
  have hown : s.vm.findClass RX12 = some m.cls := hown
  have hl : lv_has ls 4 [(0, .ref a0), (1, .int 4)] := hl
  refine lv_iload_n hx hb dX12_follows_0 rfl (lv_at hl 1 rfl) ?_
  refine lv_ldc (v := 60000) hx hb hown (hg _ mt1276) dX12_follows_1 ?_
  refine lv_icmp_ge (tgt := 80) hx hb dX12_follows_3 (by decide) (fun c => absurd c (by decide)) (fun _ => ?_)
  refine lv_aload_n hx hb dX12_follows_6 rfl (lv_at hl 0 rfl) ?_
  refine z_get (v := .ref a1) hx hb hg hown hK hP i_X12 rfl 0 rfl 33 (by decide) mt1313 e0 dX12_follows_7 ?_
  refine lv_iload_n hx hb dX12_follows_10 rfl (lv_at hl 1 rfl) ?_
  refine z_iald (v := 0) (j := 4) hx hb hK hP 1 rfl rfl (Nat.le_of_ble_eq_true rfl) (Nat.le_of_ble_eq_true rfl) e1 dX12_follows_11 ?_
  refine lv_iconst (v := 2) hx hb dX12_follows_12 (by decide) ?_
  refine lv_icmp_ne (tgt := 44) hx hb dX12_follows_13 (by decide) (fun _ => ?_) (fun c => absurd c (by decide))
  refine lv_iload_n hx hb dX12_follows_44 rfl (lv_at hl 1 rfl) ?_
  refine lv_bipush (v := 16) hx hb dX12_follows_45 (by decide) ?_
  refine lv_icmp_lt (tgt := 202) hx hb dX12_follows_47 (by decide) (fun _ => ?_) (fun c => absurd (by decide) c)
  have hP9 : va_P K.1 classes [(a0, zO 10 83 g0), (a1, zI K 60000 f1)] H := hP.sub [0, 1] rfl
  have hD9 : va_D A [(a0, zO 10 83 g0), (a1, zI K 60000 f1)] := hD.sub [0, 1] (by decide) rfl
  exact z_vret hx hb hr (fun _ => 0) trivial hP9 hD9 hS (Nat.le_of_ble_eq_true rfl) (Nat.le_of_ble_eq_true rfl) hlocks dX12_follows_202
set_option maxHeartbeats 4000000 in
set_option maxRecDepth 100000 in
theorem cX12_follows_13 (l : Launch) (K : zK) (sz : Nat) (a0 : Nat) (a1 : Nat) (g0 : Nat → Value) (f1 : Nat → Int32) (e0 : g0 33 = (.ref a1)) (e1 : f1 3 = 0) : Met l yX12_follows (Cond.code yX12_follows cX12_follows 4 none :: WG) { frames := 0, cells := 0, slots := 0, locals := 0 } (zPre K [(a0, zO 10 83 g0), (a1, zI K 60000 f1)] sz [.ref a0, .int 3]) (va_Qv (fun _ : Nat → Nat => True) (zB K (va_A [(a0, zO 10 83 g0), (a1, zI K 60000 f1)] sz) (fun u : Nat → Nat => [(a0, zO 10 83 g0), (a1, zI K 60000 f1)])) (va_A [(a0, zO 10 83 g0), (a1, zI K 60000 f1)] sz)) 0 0 (va_A [(a0, zO 10 83 g0), (a1, zI K 60000 f1)] sz) := by
  refine z_met (Qc := fun A => (va_Qv (fun _ : Nat → Nat => True) (zB K A (fun u : Nat → Nat => [(a0, zO 10 83 g0), (a1, zI K 60000 f1)])) A)) (by decide +kernel) (Nat.le_of_ble_eq_true rfl) ?_
  intro p e s m args below meth c A ls H hx hb hr hg hown hlocks hml hin hK hP hD hA hS hZ hl
  have hown : s.vm.findClass RX12 = some m.cls := hown
  have hl : lv_has ls 4 [(0, .ref a0), (1, .int 3)] := hl
  refine lv_iload_n hx hb dX12_follows_0 rfl (lv_at hl 1 rfl) ?_
  refine lv_ldc (v := 60000) hx hb hown (hg _ mt1276) dX12_follows_1 ?_
  refine lv_icmp_ge (tgt := 80) hx hb dX12_follows_3 (by decide) (fun c => absurd c (by decide)) (fun _ => ?_)
  refine lv_aload_n hx hb dX12_follows_6 rfl (lv_at hl 0 rfl) ?_
  refine z_get (v := .ref a1) hx hb hg hown hK hP i_X12 rfl 0 rfl 33 (by decide) mt1313 e0 dX12_follows_7 ?_
  refine lv_iload_n hx hb dX12_follows_10 rfl (lv_at hl 1 rfl) ?_
  refine z_iald (v := 0) (j := 3) hx hb hK hP 1 rfl rfl (Nat.le_of_ble_eq_true rfl) (Nat.le_of_ble_eq_true rfl) e1 dX12_follows_11 ?_
  refine lv_iconst (v := 2) hx hb dX12_follows_12 (by decide) ?_
  refine lv_icmp_ne (tgt := 44) hx hb dX12_follows_13 (by decide) (fun _ => ?_) (fun c => absurd c (by decide))
  refine lv_iload_n hx hb dX12_follows_44 rfl (lv_at hl 1 rfl) ?_
  refine lv_bipush (v := 16) hx hb dX12_follows_45 (by decide) ?_
  refine lv_icmp_lt (tgt := 202) hx hb dX12_follows_47 (by decide) (fun _ => ?_) (fun c => absurd (by decide) c)
  have hP9 : va_P K.1 classes [(a0, zO 10 83 g0), (a1, zI K 60000 f1)] H := hP.sub [0, 1] rfl
  have hD9 : va_D A [(a0, zO 10 83 g0), (a1, zI K 60000 f1)] := hD.sub [0, 1] (by decide) rfl
  exact z_vret hx hb hr (fun _ => 0) trivial hP9 hD9 hS (Nat.le_of_ble_eq_true rfl) (Nat.le_of_ble_eq_true rfl) hlocks dX12_follows_202
set_option maxHeartbeats 4000000 in
set_option maxRecDepth 100000 in
theorem cX12_follows_14 (l : Launch) (K : zK) (sz : Nat) (a0 : Nat) (a1 : Nat) (g0 : Nat → Value) (f1 : Nat → Int32) (e0 : g0 33 = (.ref a1)) (e1 : f1 2 = 0) : Met l yX12_follows (Cond.code yX12_follows cX12_follows 4 none :: WG) { frames := 0, cells := 0, slots := 0, locals := 0 } (zPre K [(a0, zO 10 83 g0), (a1, zI K 60000 f1)] sz [.ref a0, .int 2]) (va_Qv (fun _ : Nat → Nat => True) (zB K (va_A [(a0, zO 10 83 g0), (a1, zI K 60000 f1)] sz) (fun u : Nat → Nat => [(a0, zO 10 83 g0), (a1, zI K 60000 f1)])) (va_A [(a0, zO 10 83 g0), (a1, zI K 60000 f1)] sz)) 0 0 (va_A [(a0, zO 10 83 g0), (a1, zI K 60000 f1)] sz) := by
  refine z_met (Qc := fun A => (va_Qv (fun _ : Nat → Nat => True) (zB K A (fun u : Nat → Nat => [(a0, zO 10 83 g0), (a1, zI K 60000 f1)])) A)) (by decide +kernel) (Nat.le_of_ble_eq_true rfl) ?_
  intro p e s m args below meth c A ls H hx hb hr hg hown hlocks hml hin hK hP hD hA hS hZ hl
  have hown : s.vm.findClass RX12 = some m.cls := hown
  have hl : lv_has ls 4 [(0, .ref a0), (1, .int 2)] := hl
  refine lv_iload_n hx hb dX12_follows_0 rfl (lv_at hl 1 rfl) ?_
  refine lv_ldc (v := 60000) hx hb hown (hg _ mt1276) dX12_follows_1 ?_
  refine lv_icmp_ge (tgt := 80) hx hb dX12_follows_3 (by decide) (fun c => absurd c (by decide)) (fun _ => ?_)
  refine lv_aload_n hx hb dX12_follows_6 rfl (lv_at hl 0 rfl) ?_
  refine z_get (v := .ref a1) hx hb hg hown hK hP i_X12 rfl 0 rfl 33 (by decide) mt1313 e0 dX12_follows_7 ?_
  refine lv_iload_n hx hb dX12_follows_10 rfl (lv_at hl 1 rfl) ?_
  refine z_iald (v := 0) (j := 2) hx hb hK hP 1 rfl rfl (Nat.le_of_ble_eq_true rfl) (Nat.le_of_ble_eq_true rfl) e1 dX12_follows_11 ?_
  refine lv_iconst (v := 2) hx hb dX12_follows_12 (by decide) ?_
  refine lv_icmp_ne (tgt := 44) hx hb dX12_follows_13 (by decide) (fun _ => ?_) (fun c => absurd c (by decide))
  refine lv_iload_n hx hb dX12_follows_44 rfl (lv_at hl 1 rfl) ?_
  refine lv_bipush (v := 16) hx hb dX12_follows_45 (by decide) ?_
  refine lv_icmp_lt (tgt := 202) hx hb dX12_follows_47 (by decide) (fun _ => ?_) (fun c => absurd (by decide) c)
  have hP9 : va_P K.1 classes [(a0, zO 10 83 g0), (a1, zI K 60000 f1)] H := hP.sub [0, 1] rfl
  have hD9 : va_D A [(a0, zO 10 83 g0), (a1, zI K 60000 f1)] := hD.sub [0, 1] (by decide) rfl
  exact z_vret hx hb hr (fun _ => 0) trivial hP9 hD9 hS (Nat.le_of_ble_eq_true rfl) (Nat.le_of_ble_eq_true rfl) hlocks dX12_follows_202
set_option maxHeartbeats 4000000 in
set_option maxRecDepth 100000 in
theorem cX12_follows_15 (l : Launch) (K : zK) (sz : Nat) (a0 : Nat) (a1 : Nat) (g0 : Nat → Value) (f1 : Nat → Int32) (e0 : g0 33 = (.ref a1)) (e1 : f1 1 = 0) : Met l yX12_follows (Cond.code yX12_follows cX12_follows 4 none :: WG) { frames := 0, cells := 0, slots := 0, locals := 0 } (zPre K [(a0, zO 10 83 g0), (a1, zI K 60000 f1)] sz [.ref a0, .int 1]) (va_Qv (fun _ : Nat → Nat => True) (zB K (va_A [(a0, zO 10 83 g0), (a1, zI K 60000 f1)] sz) (fun u : Nat → Nat => [(a0, zO 10 83 g0), (a1, zI K 60000 f1)])) (va_A [(a0, zO 10 83 g0), (a1, zI K 60000 f1)] sz)) 0 0 (va_A [(a0, zO 10 83 g0), (a1, zI K 60000 f1)] sz) := by
  refine z_met (Qc := fun A => (va_Qv (fun _ : Nat → Nat => True) (zB K A (fun u : Nat → Nat => [(a0, zO 10 83 g0), (a1, zI K 60000 f1)])) A)) (by decide +kernel) (Nat.le_of_ble_eq_true rfl) ?_
  intro p e s m args below meth c A ls H hx hb hr hg hown hlocks hml hin hK hP hD hA hS hZ hl
  have hown : s.vm.findClass RX12 = some m.cls := hown
  have hl : lv_has ls 4 [(0, .ref a0), (1, .int 1)] := hl
  refine lv_iload_n hx hb dX12_follows_0 rfl (lv_at hl 1 rfl) ?_
  refine lv_ldc (v := 60000) hx hb hown (hg _ mt1276) dX12_follows_1 ?_
  refine lv_icmp_ge (tgt := 80) hx hb dX12_follows_3 (by decide) (fun c => absurd c (by decide)) (fun _ => ?_)
  refine lv_aload_n hx hb dX12_follows_6 rfl (lv_at hl 0 rfl) ?_
  refine z_get (v := .ref a1) hx hb hg hown hK hP i_X12 rfl 0 rfl 33 (by decide) mt1313 e0 dX12_follows_7 ?_
  refine lv_iload_n hx hb dX12_follows_10 rfl (lv_at hl 1 rfl) ?_
  refine z_iald (v := 0) (j := 1) hx hb hK hP 1 rfl rfl (Nat.le_of_ble_eq_true rfl) (Nat.le_of_ble_eq_true rfl) e1 dX12_follows_11 ?_
  refine lv_iconst (v := 2) hx hb dX12_follows_12 (by decide) ?_
  refine lv_icmp_ne (tgt := 44) hx hb dX12_follows_13 (by decide) (fun _ => ?_) (fun c => absurd c (by decide))
  refine lv_iload_n hx hb dX12_follows_44 rfl (lv_at hl 1 rfl) ?_
  refine lv_bipush (v := 16) hx hb dX12_follows_45 (by decide) ?_
  refine lv_icmp_lt (tgt := 202) hx hb dX12_follows_47 (by decide) (fun _ => ?_) (fun c => absurd (by decide) c)
  have hP9 : va_P K.1 classes [(a0, zO 10 83 g0), (a1, zI K 60000 f1)] H := hP.sub [0, 1] rfl
  have hD9 : va_D A [(a0, zO 10 83 g0), (a1, zI K 60000 f1)] := hD.sub [0, 1] (by decide) rfl
  exact z_vret hx hb hr (fun _ => 0) trivial hP9 hD9 hS (Nat.le_of_ble_eq_true rfl) (Nat.le_of_ble_eq_true rfl) hlocks dX12_follows_202
set_option maxHeartbeats 4000000 in
set_option maxRecDepth 100000 in
theorem cX12_follows_16 (l : Launch) (K : zK) (sz : Nat) (a0 : Nat) (a1 : Nat) (g0 : Nat → Value) (f1 : Nat → Int32) (e0 : g0 33 = (.ref a1)) (e1 : f1 0 = 0) : Met l yX12_follows (Cond.code yX12_follows cX12_follows 4 none :: WG) { frames := 0, cells := 0, slots := 0, locals := 0 } (zPre K [(a0, zO 10 83 g0), (a1, zI K 60000 f1)] sz [.ref a0, .int 0]) (va_Qv (fun _ : Nat → Nat => True) (zB K (va_A [(a0, zO 10 83 g0), (a1, zI K 60000 f1)] sz) (fun u : Nat → Nat => [(a0, zO 10 83 g0), (a1, zI K 60000 f1)])) (va_A [(a0, zO 10 83 g0), (a1, zI K 60000 f1)] sz)) 0 0 (va_A [(a0, zO 10 83 g0), (a1, zI K 60000 f1)] sz) := by
  refine z_met (Qc := fun A => (va_Qv (fun _ : Nat → Nat => True) (zB K A (fun u : Nat → Nat => [(a0, zO 10 83 g0), (a1, zI K 60000 f1)])) A)) (by decide +kernel) (Nat.le_of_ble_eq_true rfl) ?_
  intro p e s m args below meth c A ls H hx hb hr hg hown hlocks hml hin hK hP hD hA hS hZ hl
  have hown : s.vm.findClass RX12 = some m.cls := hown
  have hl : lv_has ls 4 [(0, .ref a0), (1, .int 0)] := hl
  refine lv_iload_n hx hb dX12_follows_0 rfl (lv_at hl 1 rfl) ?_
  refine lv_ldc (v := 60000) hx hb hown (hg _ mt1276) dX12_follows_1 ?_
  refine lv_icmp_ge (tgt := 80) hx hb dX12_follows_3 (by decide) (fun c => absurd c (by decide)) (fun _ => ?_)
  refine lv_aload_n hx hb dX12_follows_6 rfl (lv_at hl 0 rfl) ?_
  refine z_get (v := .ref a1) hx hb hg hown hK hP i_X12 rfl 0 rfl 33 (by decide) mt1313 e0 dX12_follows_7 ?_
  refine lv_iload_n hx hb dX12_follows_10 rfl (lv_at hl 1 rfl) ?_
  refine z_iald (v := 0) (j := 0) hx hb hK hP 1 rfl rfl (Nat.le_of_ble_eq_true rfl) (Nat.le_of_ble_eq_true rfl) e1 dX12_follows_11 ?_
  refine lv_iconst (v := 2) hx hb dX12_follows_12 (by decide) ?_
  refine lv_icmp_ne (tgt := 44) hx hb dX12_follows_13 (by decide) (fun _ => ?_) (fun c => absurd c (by decide))
  refine lv_iload_n hx hb dX12_follows_44 rfl (lv_at hl 1 rfl) ?_
  refine lv_bipush (v := 16) hx hb dX12_follows_45 (by decide) ?_
  refine lv_icmp_lt (tgt := 202) hx hb dX12_follows_47 (by decide) (fun _ => ?_) (fun c => absurd (by decide) c)
  have hP9 : va_P K.1 classes [(a0, zO 10 83 g0), (a1, zI K 60000 f1)] H := hP.sub [0, 1] rfl
  have hD9 : va_D A [(a0, zO 10 83 g0), (a1, zI K 60000 f1)] := hD.sub [0, 1] (by decide) rfl
  exact z_vret hx hb hr (fun _ => 0) trivial hP9 hD9 hS (Nat.le_of_ble_eq_true rfl) (Nat.le_of_ble_eq_true rfl) hlocks dX12_follows_202
set_option maxHeartbeats 4000000 in
set_option maxRecDepth 100000 in
theorem cX12_places_1 (l : Launch) (K : zK) (sz : Nat) (a0 : Nat) (a1 : Nat) (g0 : Nat → Value) (f1 : Nat → Int32) (e0 : g0 52 = (.ref a1)) (e1 : f1 0 = 0) (e2 : f1 1 = 0) (e3 : f1 2 = 0) (e4 : f1 3 = 0) (e5 : f1 4 = 0) (e6 : f1 5 = 0) (e7 : f1 6 = 0) (e8 : f1 7 = 0) (e9 : f1 8 = 0) (e10 : f1 9 = 0) (e11 : f1 10 = 0) (e12 : f1 11 = 0) (e13 : f1 12 = 0) (e14 : f1 13 = 0) (e15 : f1 14 = 0) (e16 : f1 15 = 0) : Met l yX12_places (Cond.code yX12_places cX12_places 5 (some .int) :: WG) { frames := 0, cells := 0, slots := 0, locals := 0 } (zPre K [(a0, zO 10 83 g0), (a1, zI K 210000 f1)] sz [.ref a0, .int 0, .int 16]) (va_Qi (fun (r : Int32) (_ : Nat → Nat) => r = 16) (zB K (va_A [(a0, zO 10 83 g0), (a1, zI K 210000 f1)] sz) (fun u : Nat → Nat => [(a0, zO 10 83 g0), (a1, zI K 210000 (va_up (va_up (va_up (va_up (va_up (va_up (va_up (va_up (va_up (va_up (va_up (va_up (va_up (va_up (va_up (va_up f1 0 0) 1 1) 2 2) 3 3) 4 4) 5 5) 6 6) 7 7) 8 8) 9 9) 10 10) 11 11) 12 12) 13 13) 14 14) 15 15))])) (va_A [(a0, zO 10 83 g0), (a1, zI K 210000 f1)] sz)) 0 0 (va_A [(a0, zO 10 83 g0), (a1, zI K 210000 f1)] sz) := by
  refine z_met (Qc := fun A => (va_Qi (fun (r : Int32) (_ : Nat → Nat) => r = 16) (zB K A (fun u : Nat → Nat => [(a0, zO 10 83 g0), (a1, zI K 210000 (va_up (va_up (va_up (va_up (va_up (va_up (va_up (va_up (va_up (va_up (va_up (va_up (va_up (va_up (va_up (va_up f1 0 0) 1 1) 2 2) 3 3) 4 4) 5 5) 6 6) 7 7) 8 8) 9 9) 10 10) 11 11) 12 12) 13 13) 14 14) 15 15))])) A)) (by decide +kernel) (Nat.le_of_ble_eq_true rfl) ?_
  intro p e s m args below meth c A ls H hx hb hr hg hown hlocks hml hin hK hP hD hA hS hZ hl
  have hown : s.vm.findClass RX12 = some m.cls := hown
  have hl : lv_has ls 5 [(0, .ref a0), (1, .int 0), (2, .int 16)] := hl
  refine lv_iconst (v := 0) hx hb dX12_places_0 (by decide) ?_
  refine lv_istore_n (lv' := [(3, .int 0), (0, .ref a0), (1, .int 0), (2, .int 16)]) hx hb dX12_places_1 rfl hl (by decide) rfl (fun ls hl => ?_)
  refine lv_iconst (v := 0) hx hb dX12_places_2 (by decide) ?_
  refine lv_istore (lv' := [(4, .int 0), (3, .int 0), (0, .ref a0), (1, .int 0), (2, .int 16)]) hx hb dX12_places_3 hl (by decide) rfl (fun ls hl => ?_)
  refine lv_iload hx hb dX12_places_5 (lv_at hl 0 rfl) ?_
  refine lv_iload_n hx hb dX12_places_7 rfl (lv_at hl 4 rfl) ?_
  refine lv_icmp_ge (tgt := 43) hx hb dX12_places_8 (by decide) (fun c => absurd c (by decide)) (fun _ => ?_)
  refine lv_aload_n hx hb dX12_places_11 rfl (lv_at hl 2 rfl) ?_
  refine z_get (v := .ref a1) hx hb hg hown hK hP i_X12 rfl 0 rfl 52 (by decide) mt1332 e0 dX12_places_12 ?_
  refine lv_iload_n hx hb dX12_places_15 rfl (lv_at hl 3 rfl) ?_
  refine lv_iload hx hb dX12_places_16 (lv_at hl 0 rfl) ?_
  refine lv_iadd hx hb dX12_places_18 ?_
  refine z_cst (v := 0) (by decide +kernel) ?_
  refine z_iald (v := 0) (j := 0) hx hb hK hP 1 rfl rfl (Nat.le_of_ble_eq_true rfl) (Nat.le_of_ble_eq_true rfl) e1 dX12_places_19 ?_
  refine lv_iconst (v := (-1)) hx hb dX12_places_20 (by decide) ?_
  refine lv_icmp_eq (tgt := 37) hx hb dX12_places_21 (by decide) (fun c => absurd c (by decide)) (fun _ => ?_)
  refine lv_aload_n hx hb dX12_places_24 rfl (lv_at hl 2 rfl) ?_
  refine z_get (v := .ref a1) hx hb hg hown hK hP i_X12 rfl 0 rfl 52 (by decide) mt1332 e0 dX12_places_25 ?_
  refine lv_iload_n hx hb dX12_places_28 rfl (lv_at hl 3 rfl) ?_
  refine lv_iload hx hb dX12_places_29 (lv_at hl 0 rfl) ?_
  refine lv_iadd hx hb dX12_places_31 ?_
  refine z_cst (v := 0) (by decide +kernel) ?_
  refine lv_iload_n hx hb dX12_places_32 rfl (lv_at hl 1 rfl) ?_
  refine z_iast (j := 0) hx hb hK hP hD hS 1 rfl rfl (Nat.le_of_ble_eq_true rfl) (Nat.le_of_ble_eq_true rfl) dX12_places_33 (fun ff1 H locs y2 hP hD hS => ?_)
  have hP : va_P K.1 classes [(a0, zO 10 83 g0), (a1, zI K 210000 ff1)] H := hP
  have hD : va_D A [(a0, zO 10 83 g0), (a1, zI K 210000 ff1)] := hD
  refine lv_iinc (v := 1) (lv' := [(3, .int 1), (4, .int 0), (0, .ref a0), (1, .int 0), (2, .int 16)]) hx hb dX12_places_34 hl (k := 1) rfl (by decide +kernel) (by decide) rfl (fun ls hl => ?_)
  refine lv_iinc (v := 1) (lv' := [(4, .int 1), (3, .int 1), (0, .ref a0), (1, .int 0), (2, .int 16)]) hx hb dX12_places_37 hl (k := 1) rfl (by decide +kernel) (by decide) rfl (fun ls hl => ?_)
  refine lv_goto (tgt := 5) hx hb dX12_places_40 (by decide) ?_
  refine lv_iload hx hb dX12_places_5 (lv_at hl 0 rfl) ?_
  refine lv_iload_n hx hb dX12_places_7 rfl (lv_at hl 4 rfl) ?_
  refine lv_icmp_ge (tgt := 43) hx hb dX12_places_8 (by decide) (fun c => absurd c (by decide)) (fun _ => ?_)
  refine lv_aload_n hx hb dX12_places_11 rfl (lv_at hl 2 rfl) ?_
  refine z_get (v := .ref a1) hx hb hg hown hK hP i_X12 rfl 0 rfl 52 (by decide) mt1332 e0 dX12_places_12 ?_
  refine lv_iload_n hx hb dX12_places_15 rfl (lv_at hl 3 rfl) ?_
  refine lv_iload hx hb dX12_places_16 (lv_at hl 0 rfl) ?_
  refine lv_iadd hx hb dX12_places_18 ?_
  refine z_cst (v := 1) (by decide +kernel) ?_
  refine z_iald (v := 0) (j := 1) hx hb hK hP 1 rfl rfl (Nat.le_of_ble_eq_true rfl) (Nat.le_of_ble_eq_true rfl) (zu_of y2 (zu_ne (by decide) e2)) dX12_places_19 ?_
  refine lv_iconst (v := (-1)) hx hb dX12_places_20 (by decide) ?_
  refine lv_icmp_eq (tgt := 37) hx hb dX12_places_21 (by decide) (fun c => absurd c (by decide)) (fun _ => ?_)
  refine lv_aload_n hx hb dX12_places_24 rfl (lv_at hl 2 rfl) ?_
  refine z_get (v := .ref a1) hx hb hg hown hK hP i_X12 rfl 0 rfl 52 (by decide) mt1332 e0 dX12_places_25 ?_
  refine lv_iload_n hx hb dX12_places_28 rfl (lv_at hl 3 rfl) ?_
  refine lv_iload hx hb dX12_places_29 (lv_at hl 0 rfl) ?_
  refine lv_iadd hx hb dX12_places_31 ?_
  refine z_cst (v := 1) (by decide +kernel) ?_
  refine lv_iload_n hx hb dX12_places_32 rfl (lv_at hl 1 rfl) ?_
  refine z_iast (j := 1) hx hb hK hP hD hS 1 rfl rfl (Nat.le_of_ble_eq_true rfl) (Nat.le_of_ble_eq_true rfl) dX12_places_33 (fun ff3 H locs y4 hP hD hS => ?_)
  have hP : va_P K.1 classes [(a0, zO 10 83 g0), (a1, zI K 210000 ff3)] H := hP
  have hD : va_D A [(a0, zO 10 83 g0), (a1, zI K 210000 ff3)] := hD
  refine lv_iinc (v := 2) (lv' := [(3, .int 2), (4, .int 1), (0, .ref a0), (1, .int 0), (2, .int 16)]) hx hb dX12_places_34 hl (k := 1) rfl (by decide +kernel) (by decide) rfl (fun ls hl => ?_)
  refine lv_iinc (v := 2) (lv' := [(4, .int 2), (3, .int 2), (0, .ref a0), (1, .int 0), (2, .int 16)]) hx hb dX12_places_37 hl (k := 1) rfl (by decide +kernel) (by decide) rfl (fun ls hl => ?_)
  refine lv_goto (tgt := 5) hx hb dX12_places_40 (by decide) ?_
  refine lv_iload hx hb dX12_places_5 (lv_at hl 0 rfl) ?_
  refine lv_iload_n hx hb dX12_places_7 rfl (lv_at hl 4 rfl) ?_
  refine lv_icmp_ge (tgt := 43) hx hb dX12_places_8 (by decide) (fun c => absurd c (by decide)) (fun _ => ?_)
  refine lv_aload_n hx hb dX12_places_11 rfl (lv_at hl 2 rfl) ?_
  refine z_get (v := .ref a1) hx hb hg hown hK hP i_X12 rfl 0 rfl 52 (by decide) mt1332 e0 dX12_places_12 ?_
  refine lv_iload_n hx hb dX12_places_15 rfl (lv_at hl 3 rfl) ?_
  refine lv_iload hx hb dX12_places_16 (lv_at hl 0 rfl) ?_
  refine lv_iadd hx hb dX12_places_18 ?_
  refine z_cst (v := 2) (by decide +kernel) ?_
  refine z_iald (v := 0) (j := 2) hx hb hK hP 1 rfl rfl (Nat.le_of_ble_eq_true rfl) (Nat.le_of_ble_eq_true rfl) (zu_of y4 (zu_ne (by decide) (zu_of y2 (zu_ne (by decide) e3)))) dX12_places_19 ?_
  refine lv_iconst (v := (-1)) hx hb dX12_places_20 (by decide) ?_
  refine lv_icmp_eq (tgt := 37) hx hb dX12_places_21 (by decide) (fun c => absurd c (by decide)) (fun _ => ?_)
  refine lv_aload_n hx hb dX12_places_24 rfl (lv_at hl 2 rfl) ?_
  refine z_get (v := .ref a1) hx hb hg hown hK hP i_X12 rfl 0 rfl 52 (by decide) mt1332 e0 dX12_places_25 ?_
  refine lv_iload_n hx hb dX12_places_28 rfl (lv_at hl 3 rfl) ?_
  refine lv_iload hx hb dX12_places_29 (lv_at hl 0 rfl) ?_
  refine lv_iadd hx hb dX12_places_31 ?_
  refine z_cst (v := 2) (by decide +kernel) ?_
  refine lv_iload_n hx hb dX12_places_32 rfl (lv_at hl 1 rfl) ?_
  refine z_iast (j := 2) hx hb hK hP hD hS 1 rfl rfl (Nat.le_of_ble_eq_true rfl) (Nat.le_of_ble_eq_true rfl) dX12_places_33 (fun ff5 H locs y6 hP hD hS => ?_)
  have hP : va_P K.1 classes [(a0, zO 10 83 g0), (a1, zI K 210000 ff5)] H := hP
  have hD : va_D A [(a0, zO 10 83 g0), (a1, zI K 210000 ff5)] := hD
  refine lv_iinc (v := 3) (lv' := [(3, .int 3), (4, .int 2), (0, .ref a0), (1, .int 0), (2, .int 16)]) hx hb dX12_places_34 hl (k := 1) rfl (by decide +kernel) (by decide) rfl (fun ls hl => ?_)
  refine lv_iinc (v := 3) (lv' := [(4, .int 3), (3, .int 3), (0, .ref a0), (1, .int 0), (2, .int 16)]) hx hb dX12_places_37 hl (k := 1) rfl (by decide +kernel) (by decide) rfl (fun ls hl => ?_)
  refine lv_goto (tgt := 5) hx hb dX12_places_40 (by decide) ?_
  refine lv_iload hx hb dX12_places_5 (lv_at hl 0 rfl) ?_
  refine lv_iload_n hx hb dX12_places_7 rfl (lv_at hl 4 rfl) ?_
  refine lv_icmp_ge (tgt := 43) hx hb dX12_places_8 (by decide) (fun c => absurd c (by decide)) (fun _ => ?_)
  refine lv_aload_n hx hb dX12_places_11 rfl (lv_at hl 2 rfl) ?_
  refine z_get (v := .ref a1) hx hb hg hown hK hP i_X12 rfl 0 rfl 52 (by decide) mt1332 e0 dX12_places_12 ?_
  refine lv_iload_n hx hb dX12_places_15 rfl (lv_at hl 3 rfl) ?_
  refine lv_iload hx hb dX12_places_16 (lv_at hl 0 rfl) ?_
  refine lv_iadd hx hb dX12_places_18 ?_
  refine z_cst (v := 3) (by decide +kernel) ?_
  refine z_iald (v := 0) (j := 3) hx hb hK hP 1 rfl rfl (Nat.le_of_ble_eq_true rfl) (Nat.le_of_ble_eq_true rfl) (zu_of y6 (zu_ne (by decide) (zu_of y4 (zu_ne (by decide) (zu_of y2 (zu_ne (by decide) e4)))))) dX12_places_19 ?_
  refine lv_iconst (v := (-1)) hx hb dX12_places_20 (by decide) ?_
  refine lv_icmp_eq (tgt := 37) hx hb dX12_places_21 (by decide) (fun c => absurd c (by decide)) (fun _ => ?_)
  refine lv_aload_n hx hb dX12_places_24 rfl (lv_at hl 2 rfl) ?_
  refine z_get (v := .ref a1) hx hb hg hown hK hP i_X12 rfl 0 rfl 52 (by decide) mt1332 e0 dX12_places_25 ?_
  refine lv_iload_n hx hb dX12_places_28 rfl (lv_at hl 3 rfl) ?_
  refine lv_iload hx hb dX12_places_29 (lv_at hl 0 rfl) ?_
  refine lv_iadd hx hb dX12_places_31 ?_
  refine z_cst (v := 3) (by decide +kernel) ?_
  refine lv_iload_n hx hb dX12_places_32 rfl (lv_at hl 1 rfl) ?_
  refine z_iast (j := 3) hx hb hK hP hD hS 1 rfl rfl (Nat.le_of_ble_eq_true rfl) (Nat.le_of_ble_eq_true rfl) dX12_places_33 (fun ff7 H locs y8 hP hD hS => ?_)
  have hP : va_P K.1 classes [(a0, zO 10 83 g0), (a1, zI K 210000 ff7)] H := hP
  have hD : va_D A [(a0, zO 10 83 g0), (a1, zI K 210000 ff7)] := hD
  refine lv_iinc (v := 4) (lv' := [(3, .int 4), (4, .int 3), (0, .ref a0), (1, .int 0), (2, .int 16)]) hx hb dX12_places_34 hl (k := 1) rfl (by decide +kernel) (by decide) rfl (fun ls hl => ?_)
  refine lv_iinc (v := 4) (lv' := [(4, .int 4), (3, .int 4), (0, .ref a0), (1, .int 0), (2, .int 16)]) hx hb dX12_places_37 hl (k := 1) rfl (by decide +kernel) (by decide) rfl (fun ls hl => ?_)
  refine lv_goto (tgt := 5) hx hb dX12_places_40 (by decide) ?_
  refine lv_iload hx hb dX12_places_5 (lv_at hl 0 rfl) ?_
  refine lv_iload_n hx hb dX12_places_7 rfl (lv_at hl 4 rfl) ?_
  refine lv_icmp_ge (tgt := 43) hx hb dX12_places_8 (by decide) (fun c => absurd c (by decide)) (fun _ => ?_)
  refine lv_aload_n hx hb dX12_places_11 rfl (lv_at hl 2 rfl) ?_
  refine z_get (v := .ref a1) hx hb hg hown hK hP i_X12 rfl 0 rfl 52 (by decide) mt1332 e0 dX12_places_12 ?_
  refine lv_iload_n hx hb dX12_places_15 rfl (lv_at hl 3 rfl) ?_
  refine lv_iload hx hb dX12_places_16 (lv_at hl 0 rfl) ?_
  refine lv_iadd hx hb dX12_places_18 ?_
  refine z_cst (v := 4) (by decide +kernel) ?_
  refine z_iald (v := 0) (j := 4) hx hb hK hP 1 rfl rfl (Nat.le_of_ble_eq_true rfl) (Nat.le_of_ble_eq_true rfl) (zu_of y8 (zu_ne (by decide) (zu_of y6 (zu_ne (by decide) (zu_of y4 (zu_ne (by decide) (zu_of y2 (zu_ne (by decide) e5)))))))) dX12_places_19 ?_
  refine lv_iconst (v := (-1)) hx hb dX12_places_20 (by decide) ?_
  refine lv_icmp_eq (tgt := 37) hx hb dX12_places_21 (by decide) (fun c => absurd c (by decide)) (fun _ => ?_)
  refine lv_aload_n hx hb dX12_places_24 rfl (lv_at hl 2 rfl) ?_
  refine z_get (v := .ref a1) hx hb hg hown hK hP i_X12 rfl 0 rfl 52 (by decide) mt1332 e0 dX12_places_25 ?_
  refine lv_iload_n hx hb dX12_places_28 rfl (lv_at hl 3 rfl) ?_
  refine lv_iload hx hb dX12_places_29 (lv_at hl 0 rfl) ?_
  refine lv_iadd hx hb dX12_places_31 ?_
  refine z_cst (v := 4) (by decide +kernel) ?_
  refine lv_iload_n hx hb dX12_places_32 rfl (lv_at hl 1 rfl) ?_
  refine z_iast (j := 4) hx hb hK hP hD hS 1 rfl rfl (Nat.le_of_ble_eq_true rfl) (Nat.le_of_ble_eq_true rfl) dX12_places_33 (fun ff9 H locs y10 hP hD hS => ?_)
  have hP : va_P K.1 classes [(a0, zO 10 83 g0), (a1, zI K 210000 ff9)] H := hP
  have hD : va_D A [(a0, zO 10 83 g0), (a1, zI K 210000 ff9)] := hD
  refine lv_iinc (v := 5) (lv' := [(3, .int 5), (4, .int 4), (0, .ref a0), (1, .int 0), (2, .int 16)]) hx hb dX12_places_34 hl (k := 1) rfl (by decide +kernel) (by decide) rfl (fun ls hl => ?_)
  refine lv_iinc (v := 5) (lv' := [(4, .int 5), (3, .int 5), (0, .ref a0), (1, .int 0), (2, .int 16)]) hx hb dX12_places_37 hl (k := 1) rfl (by decide +kernel) (by decide) rfl (fun ls hl => ?_)
  refine lv_goto (tgt := 5) hx hb dX12_places_40 (by decide) ?_
  refine lv_iload hx hb dX12_places_5 (lv_at hl 0 rfl) ?_
  refine lv_iload_n hx hb dX12_places_7 rfl (lv_at hl 4 rfl) ?_
  refine lv_icmp_ge (tgt := 43) hx hb dX12_places_8 (by decide) (fun c => absurd c (by decide)) (fun _ => ?_)
  refine lv_aload_n hx hb dX12_places_11 rfl (lv_at hl 2 rfl) ?_
  refine z_get (v := .ref a1) hx hb hg hown hK hP i_X12 rfl 0 rfl 52 (by decide) mt1332 e0 dX12_places_12 ?_
  refine lv_iload_n hx hb dX12_places_15 rfl (lv_at hl 3 rfl) ?_
  refine lv_iload hx hb dX12_places_16 (lv_at hl 0 rfl) ?_
  refine lv_iadd hx hb dX12_places_18 ?_
  refine z_cst (v := 5) (by decide +kernel) ?_
  refine z_iald (v := 0) (j := 5) hx hb hK hP 1 rfl rfl (Nat.le_of_ble_eq_true rfl) (Nat.le_of_ble_eq_true rfl) (zu_of y10 (zu_ne (by decide) (zu_of y8 (zu_ne (by decide) (zu_of y6 (zu_ne (by decide) (zu_of y4 (zu_ne (by decide) (zu_of y2 (zu_ne (by decide) e6)))))))))) dX12_places_19 ?_
  refine lv_iconst (v := (-1)) hx hb dX12_places_20 (by decide) ?_
  refine lv_icmp_eq (tgt := 37) hx hb dX12_places_21 (by decide) (fun c => absurd c (by decide)) (fun _ => ?_)
  refine lv_aload_n hx hb dX12_places_24 rfl (lv_at hl 2 rfl) ?_
  refine z_get (v := .ref a1) hx hb hg hown hK hP i_X12 rfl 0 rfl 52 (by decide) mt1332 e0 dX12_places_25 ?_
  refine lv_iload_n hx hb dX12_places_28 rfl (lv_at hl 3 rfl) ?_
  refine lv_iload hx hb dX12_places_29 (lv_at hl 0 rfl) ?_
  refine lv_iadd hx hb dX12_places_31 ?_
  refine z_cst (v := 5) (by decide +kernel) ?_
  refine lv_iload_n hx hb dX12_places_32 rfl (lv_at hl 1 rfl) ?_
  refine z_iast (j := 5) hx hb hK hP hD hS 1 rfl rfl (Nat.le_of_ble_eq_true rfl) (Nat.le_of_ble_eq_true rfl) dX12_places_33 (fun ff11 H locs y12 hP hD hS => ?_)
  have hP : va_P K.1 classes [(a0, zO 10 83 g0), (a1, zI K 210000 ff11)] H := hP
  have hD : va_D A [(a0, zO 10 83 g0), (a1, zI K 210000 ff11)] := hD
  refine lv_iinc (v := 6) (lv' := [(3, .int 6), (4, .int 5), (0, .ref a0), (1, .int 0), (2, .int 16)]) hx hb dX12_places_34 hl (k := 1) rfl (by decide +kernel) (by decide) rfl (fun ls hl => ?_)
  refine lv_iinc (v := 6) (lv' := [(4, .int 6), (3, .int 6), (0, .ref a0), (1, .int 0), (2, .int 16)]) hx hb dX12_places_37 hl (k := 1) rfl (by decide +kernel) (by decide) rfl (fun ls hl => ?_)
  refine lv_goto (tgt := 5) hx hb dX12_places_40 (by decide) ?_
  refine lv_iload hx hb dX12_places_5 (lv_at hl 0 rfl) ?_
  refine lv_iload_n hx hb dX12_places_7 rfl (lv_at hl 4 rfl) ?_
  refine lv_icmp_ge (tgt := 43) hx hb dX12_places_8 (by decide) (fun c => absurd c (by decide)) (fun _ => ?_)
  refine lv_aload_n hx hb dX12_places_11 rfl (lv_at hl 2 rfl) ?_
  refine z_get (v := .ref a1) hx hb hg hown hK hP i_X12 rfl 0 rfl 52 (by decide) mt1332 e0 dX12_places_12 ?_
  refine lv_iload_n hx hb dX12_places_15 rfl (lv_at hl 3 rfl) ?_
  refine lv_iload hx hb dX12_places_16 (lv_at hl 0 rfl) ?_
  refine lv_iadd hx hb dX12_places_18 ?_
  refine z_cst (v := 6) (by decide +kernel) ?_
  refine z_iald (v := 0) (j := 6) hx hb hK hP 1 rfl rfl (Nat.le_of_ble_eq_true rfl) (Nat.le_of_ble_eq_true rfl) (zu_of y12 (zu_ne (by decide) (zu_of y10 (zu_ne (by decide) (zu_of y8 (zu_ne (by decide) (zu_of y6 (zu_ne (by decide) (zu_of y4 (zu_ne (by decide) (zu_of y2 (zu_ne (by decide) e7)))))))))))) dX12_places_19 ?_
  refine lv_iconst (v := (-1)) hx hb dX12_places_20 (by decide) ?_
  refine lv_icmp_eq (tgt := 37) hx hb dX12_places_21 (by decide) (fun c => absurd c (by decide)) (fun _ => ?_)
  refine lv_aload_n hx hb dX12_places_24 rfl (lv_at hl 2 rfl) ?_
  refine z_get (v := .ref a1) hx hb hg hown hK hP i_X12 rfl 0 rfl 52 (by decide) mt1332 e0 dX12_places_25 ?_
  refine lv_iload_n hx hb dX12_places_28 rfl (lv_at hl 3 rfl) ?_
  refine lv_iload hx hb dX12_places_29 (lv_at hl 0 rfl) ?_
  refine lv_iadd hx hb dX12_places_31 ?_
  refine z_cst (v := 6) (by decide +kernel) ?_
  refine lv_iload_n hx hb dX12_places_32 rfl (lv_at hl 1 rfl) ?_
  refine z_iast (j := 6) hx hb hK hP hD hS 1 rfl rfl (Nat.le_of_ble_eq_true rfl) (Nat.le_of_ble_eq_true rfl) dX12_places_33 (fun ff13 H locs y14 hP hD hS => ?_)
  have hP : va_P K.1 classes [(a0, zO 10 83 g0), (a1, zI K 210000 ff13)] H := hP
  have hD : va_D A [(a0, zO 10 83 g0), (a1, zI K 210000 ff13)] := hD
  refine lv_iinc (v := 7) (lv' := [(3, .int 7), (4, .int 6), (0, .ref a0), (1, .int 0), (2, .int 16)]) hx hb dX12_places_34 hl (k := 1) rfl (by decide +kernel) (by decide) rfl (fun ls hl => ?_)
  refine lv_iinc (v := 7) (lv' := [(4, .int 7), (3, .int 7), (0, .ref a0), (1, .int 0), (2, .int 16)]) hx hb dX12_places_37 hl (k := 1) rfl (by decide +kernel) (by decide) rfl (fun ls hl => ?_)
  refine lv_goto (tgt := 5) hx hb dX12_places_40 (by decide) ?_
  refine lv_iload hx hb dX12_places_5 (lv_at hl 0 rfl) ?_
  refine lv_iload_n hx hb dX12_places_7 rfl (lv_at hl 4 rfl) ?_
  refine lv_icmp_ge (tgt := 43) hx hb dX12_places_8 (by decide) (fun c => absurd c (by decide)) (fun _ => ?_)
  refine lv_aload_n hx hb dX12_places_11 rfl (lv_at hl 2 rfl) ?_
  refine z_get (v := .ref a1) hx hb hg hown hK hP i_X12 rfl 0 rfl 52 (by decide) mt1332 e0 dX12_places_12 ?_
  refine lv_iload_n hx hb dX12_places_15 rfl (lv_at hl 3 rfl) ?_
  refine lv_iload hx hb dX12_places_16 (lv_at hl 0 rfl) ?_
  refine lv_iadd hx hb dX12_places_18 ?_
  refine z_cst (v := 7) (by decide +kernel) ?_
  refine z_iald (v := 0) (j := 7) hx hb hK hP 1 rfl rfl (Nat.le_of_ble_eq_true rfl) (Nat.le_of_ble_eq_true rfl) (zu_of y14 (zu_ne (by decide) (zu_of y12 (zu_ne (by decide) (zu_of y10 (zu_ne (by decide) (zu_of y8 (zu_ne (by decide) (zu_of y6 (zu_ne (by decide) (zu_of y4 (zu_ne (by decide) (zu_of y2 (zu_ne (by decide) e8)))))))))))))) dX12_places_19 ?_
  refine lv_iconst (v := (-1)) hx hb dX12_places_20 (by decide) ?_
  refine lv_icmp_eq (tgt := 37) hx hb dX12_places_21 (by decide) (fun c => absurd c (by decide)) (fun _ => ?_)
  refine lv_aload_n hx hb dX12_places_24 rfl (lv_at hl 2 rfl) ?_
  refine z_get (v := .ref a1) hx hb hg hown hK hP i_X12 rfl 0 rfl 52 (by decide) mt1332 e0 dX12_places_25 ?_
  refine lv_iload_n hx hb dX12_places_28 rfl (lv_at hl 3 rfl) ?_
  refine lv_iload hx hb dX12_places_29 (lv_at hl 0 rfl) ?_
  refine lv_iadd hx hb dX12_places_31 ?_
  refine z_cst (v := 7) (by decide +kernel) ?_
  refine lv_iload_n hx hb dX12_places_32 rfl (lv_at hl 1 rfl) ?_
  refine z_iast (j := 7) hx hb hK hP hD hS 1 rfl rfl (Nat.le_of_ble_eq_true rfl) (Nat.le_of_ble_eq_true rfl) dX12_places_33 (fun ff15 H locs y16 hP hD hS => ?_)
  have hP : va_P K.1 classes [(a0, zO 10 83 g0), (a1, zI K 210000 ff15)] H := hP
  have hD : va_D A [(a0, zO 10 83 g0), (a1, zI K 210000 ff15)] := hD
  refine lv_iinc (v := 8) (lv' := [(3, .int 8), (4, .int 7), (0, .ref a0), (1, .int 0), (2, .int 16)]) hx hb dX12_places_34 hl (k := 1) rfl (by decide +kernel) (by decide) rfl (fun ls hl => ?_)
  refine lv_iinc (v := 8) (lv' := [(4, .int 8), (3, .int 8), (0, .ref a0), (1, .int 0), (2, .int 16)]) hx hb dX12_places_37 hl (k := 1) rfl (by decide +kernel) (by decide) rfl (fun ls hl => ?_)
  refine lv_goto (tgt := 5) hx hb dX12_places_40 (by decide) ?_
  refine lv_iload hx hb dX12_places_5 (lv_at hl 0 rfl) ?_
  refine lv_iload_n hx hb dX12_places_7 rfl (lv_at hl 4 rfl) ?_
  refine lv_icmp_ge (tgt := 43) hx hb dX12_places_8 (by decide) (fun c => absurd c (by decide)) (fun _ => ?_)
  refine lv_aload_n hx hb dX12_places_11 rfl (lv_at hl 2 rfl) ?_
  refine z_get (v := .ref a1) hx hb hg hown hK hP i_X12 rfl 0 rfl 52 (by decide) mt1332 e0 dX12_places_12 ?_
  refine lv_iload_n hx hb dX12_places_15 rfl (lv_at hl 3 rfl) ?_
  refine lv_iload hx hb dX12_places_16 (lv_at hl 0 rfl) ?_
  refine lv_iadd hx hb dX12_places_18 ?_
  refine z_cst (v := 8) (by decide +kernel) ?_
  refine z_iald (v := 0) (j := 8) hx hb hK hP 1 rfl rfl (Nat.le_of_ble_eq_true rfl) (Nat.le_of_ble_eq_true rfl) (zu_of y16 (zu_ne (by decide) (zu_of y14 (zu_ne (by decide) (zu_of y12 (zu_ne (by decide) (zu_of y10 (zu_ne (by decide) (zu_of y8 (zu_ne (by decide) (zu_of y6 (zu_ne (by decide) (zu_of y4 (zu_ne (by decide) (zu_of y2 (zu_ne (by decide) e9)))))))))))))))) dX12_places_19 ?_
  refine lv_iconst (v := (-1)) hx hb dX12_places_20 (by decide) ?_
  refine lv_icmp_eq (tgt := 37) hx hb dX12_places_21 (by decide) (fun c => absurd c (by decide)) (fun _ => ?_)
  refine lv_aload_n hx hb dX12_places_24 rfl (lv_at hl 2 rfl) ?_
  refine z_get (v := .ref a1) hx hb hg hown hK hP i_X12 rfl 0 rfl 52 (by decide) mt1332 e0 dX12_places_25 ?_
  refine lv_iload_n hx hb dX12_places_28 rfl (lv_at hl 3 rfl) ?_
  refine lv_iload hx hb dX12_places_29 (lv_at hl 0 rfl) ?_
  refine lv_iadd hx hb dX12_places_31 ?_
  refine z_cst (v := 8) (by decide +kernel) ?_
  refine lv_iload_n hx hb dX12_places_32 rfl (lv_at hl 1 rfl) ?_
  refine z_iast (j := 8) hx hb hK hP hD hS 1 rfl rfl (Nat.le_of_ble_eq_true rfl) (Nat.le_of_ble_eq_true rfl) dX12_places_33 (fun ff17 H locs y18 hP hD hS => ?_)
  have hP : va_P K.1 classes [(a0, zO 10 83 g0), (a1, zI K 210000 ff17)] H := hP
  have hD : va_D A [(a0, zO 10 83 g0), (a1, zI K 210000 ff17)] := hD
  refine lv_iinc (v := 9) (lv' := [(3, .int 9), (4, .int 8), (0, .ref a0), (1, .int 0), (2, .int 16)]) hx hb dX12_places_34 hl (k := 1) rfl (by decide +kernel) (by decide) rfl (fun ls hl => ?_)
  refine lv_iinc (v := 9) (lv' := [(4, .int 9), (3, .int 9), (0, .ref a0), (1, .int 0), (2, .int 16)]) hx hb dX12_places_37 hl (k := 1) rfl (by decide +kernel) (by decide) rfl (fun ls hl => ?_)
  refine lv_goto (tgt := 5) hx hb dX12_places_40 (by decide) ?_
  refine lv_iload hx hb dX12_places_5 (lv_at hl 0 rfl) ?_
  refine lv_iload_n hx hb dX12_places_7 rfl (lv_at hl 4 rfl) ?_
  refine lv_icmp_ge (tgt := 43) hx hb dX12_places_8 (by decide) (fun c => absurd c (by decide)) (fun _ => ?_)
  refine lv_aload_n hx hb dX12_places_11 rfl (lv_at hl 2 rfl) ?_
  refine z_get (v := .ref a1) hx hb hg hown hK hP i_X12 rfl 0 rfl 52 (by decide) mt1332 e0 dX12_places_12 ?_
  refine lv_iload_n hx hb dX12_places_15 rfl (lv_at hl 3 rfl) ?_
  refine lv_iload hx hb dX12_places_16 (lv_at hl 0 rfl) ?_
  refine lv_iadd hx hb dX12_places_18 ?_
  refine z_cst (v := 9) (by decide +kernel) ?_
  refine z_iald (v := 0) (j := 9) hx hb hK hP 1 rfl rfl (Nat.le_of_ble_eq_true rfl) (Nat.le_of_ble_eq_true rfl) (zu_of y18 (zu_ne (by decide) (zu_of y16 (zu_ne (by decide) (zu_of y14 (zu_ne (by decide) (zu_of y12 (zu_ne (by decide) (zu_of y10 (zu_ne (by decide) (zu_of y8 (zu_ne (by decide) (zu_of y6 (zu_ne (by decide) (zu_of y4 (zu_ne (by decide) (zu_of y2 (zu_ne (by decide) e10)))))))))))))))))) dX12_places_19 ?_
  refine lv_iconst (v := (-1)) hx hb dX12_places_20 (by decide) ?_
  refine lv_icmp_eq (tgt := 37) hx hb dX12_places_21 (by decide) (fun c => absurd c (by decide)) (fun _ => ?_)
  refine lv_aload_n hx hb dX12_places_24 rfl (lv_at hl 2 rfl) ?_
  refine z_get (v := .ref a1) hx hb hg hown hK hP i_X12 rfl 0 rfl 52 (by decide) mt1332 e0 dX12_places_25 ?_
  refine lv_iload_n hx hb dX12_places_28 rfl (lv_at hl 3 rfl) ?_
  refine lv_iload hx hb dX12_places_29 (lv_at hl 0 rfl) ?_
  refine lv_iadd hx hb dX12_places_31 ?_
  refine z_cst (v := 9) (by decide +kernel) ?_
  refine lv_iload_n hx hb dX12_places_32 rfl (lv_at hl 1 rfl) ?_
  refine z_iast (j := 9) hx hb hK hP hD hS 1 rfl rfl (Nat.le_of_ble_eq_true rfl) (Nat.le_of_ble_eq_true rfl) dX12_places_33 (fun ff19 H locs y20 hP hD hS => ?_)
  have hP : va_P K.1 classes [(a0, zO 10 83 g0), (a1, zI K 210000 ff19)] H := hP
  have hD : va_D A [(a0, zO 10 83 g0), (a1, zI K 210000 ff19)] := hD
  refine lv_iinc (v := 10) (lv' := [(3, .int 10), (4, .int 9), (0, .ref a0), (1, .int 0), (2, .int 16)]) hx hb dX12_places_34 hl (k := 1) rfl (by decide +kernel) (by decide) rfl (fun ls hl => ?_)
  refine lv_iinc (v := 10) (lv' := [(4, .int 10), (3, .int 10), (0, .ref a0), (1, .int 0), (2, .int 16)]) hx hb dX12_places_37 hl (k := 1) rfl (by decide +kernel) (by decide) rfl (fun ls hl => ?_)
  refine lv_goto (tgt := 5) hx hb dX12_places_40 (by decide) ?_
  refine lv_iload hx hb dX12_places_5 (lv_at hl 0 rfl) ?_
  refine lv_iload_n hx hb dX12_places_7 rfl (lv_at hl 4 rfl) ?_
  refine lv_icmp_ge (tgt := 43) hx hb dX12_places_8 (by decide) (fun c => absurd c (by decide)) (fun _ => ?_)
  refine lv_aload_n hx hb dX12_places_11 rfl (lv_at hl 2 rfl) ?_
  refine z_get (v := .ref a1) hx hb hg hown hK hP i_X12 rfl 0 rfl 52 (by decide) mt1332 e0 dX12_places_12 ?_
  refine lv_iload_n hx hb dX12_places_15 rfl (lv_at hl 3 rfl) ?_
  refine lv_iload hx hb dX12_places_16 (lv_at hl 0 rfl) ?_
  refine lv_iadd hx hb dX12_places_18 ?_
  refine z_cst (v := 10) (by decide +kernel) ?_
  refine z_iald (v := 0) (j := 10) hx hb hK hP 1 rfl rfl (Nat.le_of_ble_eq_true rfl) (Nat.le_of_ble_eq_true rfl) (zu_of y20 (zu_ne (by decide) (zu_of y18 (zu_ne (by decide) (zu_of y16 (zu_ne (by decide) (zu_of y14 (zu_ne (by decide) (zu_of y12 (zu_ne (by decide) (zu_of y10 (zu_ne (by decide) (zu_of y8 (zu_ne (by decide) (zu_of y6 (zu_ne (by decide) (zu_of y4 (zu_ne (by decide) (zu_of y2 (zu_ne (by decide) e11)))))))))))))))))))) dX12_places_19 ?_
  refine lv_iconst (v := (-1)) hx hb dX12_places_20 (by decide) ?_
  refine lv_icmp_eq (tgt := 37) hx hb dX12_places_21 (by decide) (fun c => absurd c (by decide)) (fun _ => ?_)
  refine lv_aload_n hx hb dX12_places_24 rfl (lv_at hl 2 rfl) ?_
  refine z_get (v := .ref a1) hx hb hg hown hK hP i_X12 rfl 0 rfl 52 (by decide) mt1332 e0 dX12_places_25 ?_
  refine lv_iload_n hx hb dX12_places_28 rfl (lv_at hl 3 rfl) ?_
  refine lv_iload hx hb dX12_places_29 (lv_at hl 0 rfl) ?_
  refine lv_iadd hx hb dX12_places_31 ?_
  refine z_cst (v := 10) (by decide +kernel) ?_
  refine lv_iload_n hx hb dX12_places_32 rfl (lv_at hl 1 rfl) ?_
  refine z_iast (j := 10) hx hb hK hP hD hS 1 rfl rfl (Nat.le_of_ble_eq_true rfl) (Nat.le_of_ble_eq_true rfl) dX12_places_33 (fun ff21 H locs y22 hP hD hS => ?_)
  have hP : va_P K.1 classes [(a0, zO 10 83 g0), (a1, zI K 210000 ff21)] H := hP
  have hD : va_D A [(a0, zO 10 83 g0), (a1, zI K 210000 ff21)] := hD
  refine lv_iinc (v := 11) (lv' := [(3, .int 11), (4, .int 10), (0, .ref a0), (1, .int 0), (2, .int 16)]) hx hb dX12_places_34 hl (k := 1) rfl (by decide +kernel) (by decide) rfl (fun ls hl => ?_)
  refine lv_iinc (v := 11) (lv' := [(4, .int 11), (3, .int 11), (0, .ref a0), (1, .int 0), (2, .int 16)]) hx hb dX12_places_37 hl (k := 1) rfl (by decide +kernel) (by decide) rfl (fun ls hl => ?_)
  refine lv_goto (tgt := 5) hx hb dX12_places_40 (by decide) ?_
  refine lv_iload hx hb dX12_places_5 (lv_at hl 0 rfl) ?_
  refine lv_iload_n hx hb dX12_places_7 rfl (lv_at hl 4 rfl) ?_
  refine lv_icmp_ge (tgt := 43) hx hb dX12_places_8 (by decide) (fun c => absurd c (by decide)) (fun _ => ?_)
  refine lv_aload_n hx hb dX12_places_11 rfl (lv_at hl 2 rfl) ?_
  refine z_get (v := .ref a1) hx hb hg hown hK hP i_X12 rfl 0 rfl 52 (by decide) mt1332 e0 dX12_places_12 ?_
  refine lv_iload_n hx hb dX12_places_15 rfl (lv_at hl 3 rfl) ?_
  refine lv_iload hx hb dX12_places_16 (lv_at hl 0 rfl) ?_
  refine lv_iadd hx hb dX12_places_18 ?_
  refine z_cst (v := 11) (by decide +kernel) ?_
  refine z_iald (v := 0) (j := 11) hx hb hK hP 1 rfl rfl (Nat.le_of_ble_eq_true rfl) (Nat.le_of_ble_eq_true rfl) (zu_of y22 (zu_ne (by decide) (zu_of y20 (zu_ne (by decide) (zu_of y18 (zu_ne (by decide) (zu_of y16 (zu_ne (by decide) (zu_of y14 (zu_ne (by decide) (zu_of y12 (zu_ne (by decide) (zu_of y10 (zu_ne (by decide) (zu_of y8 (zu_ne (by decide) (zu_of y6 (zu_ne (by decide) (zu_of y4 (zu_ne (by decide) (zu_of y2 (zu_ne (by decide) e12)))))))))))))))))))))) dX12_places_19 ?_
  refine lv_iconst (v := (-1)) hx hb dX12_places_20 (by decide) ?_
  refine lv_icmp_eq (tgt := 37) hx hb dX12_places_21 (by decide) (fun c => absurd c (by decide)) (fun _ => ?_)
  refine lv_aload_n hx hb dX12_places_24 rfl (lv_at hl 2 rfl) ?_
  refine z_get (v := .ref a1) hx hb hg hown hK hP i_X12 rfl 0 rfl 52 (by decide) mt1332 e0 dX12_places_25 ?_
  refine lv_iload_n hx hb dX12_places_28 rfl (lv_at hl 3 rfl) ?_
  refine lv_iload hx hb dX12_places_29 (lv_at hl 0 rfl) ?_
  refine lv_iadd hx hb dX12_places_31 ?_
  refine z_cst (v := 11) (by decide +kernel) ?_
  refine lv_iload_n hx hb dX12_places_32 rfl (lv_at hl 1 rfl) ?_
  refine z_iast (j := 11) hx hb hK hP hD hS 1 rfl rfl (Nat.le_of_ble_eq_true rfl) (Nat.le_of_ble_eq_true rfl) dX12_places_33 (fun ff23 H locs y24 hP hD hS => ?_)
  have hP : va_P K.1 classes [(a0, zO 10 83 g0), (a1, zI K 210000 ff23)] H := hP
  have hD : va_D A [(a0, zO 10 83 g0), (a1, zI K 210000 ff23)] := hD
  refine lv_iinc (v := 12) (lv' := [(3, .int 12), (4, .int 11), (0, .ref a0), (1, .int 0), (2, .int 16)]) hx hb dX12_places_34 hl (k := 1) rfl (by decide +kernel) (by decide) rfl (fun ls hl => ?_)
  refine lv_iinc (v := 12) (lv' := [(4, .int 12), (3, .int 12), (0, .ref a0), (1, .int 0), (2, .int 16)]) hx hb dX12_places_37 hl (k := 1) rfl (by decide +kernel) (by decide) rfl (fun ls hl => ?_)
  refine lv_goto (tgt := 5) hx hb dX12_places_40 (by decide) ?_
  refine lv_iload hx hb dX12_places_5 (lv_at hl 0 rfl) ?_
  refine lv_iload_n hx hb dX12_places_7 rfl (lv_at hl 4 rfl) ?_
  refine lv_icmp_ge (tgt := 43) hx hb dX12_places_8 (by decide) (fun c => absurd c (by decide)) (fun _ => ?_)
  refine lv_aload_n hx hb dX12_places_11 rfl (lv_at hl 2 rfl) ?_
  refine z_get (v := .ref a1) hx hb hg hown hK hP i_X12 rfl 0 rfl 52 (by decide) mt1332 e0 dX12_places_12 ?_
  refine lv_iload_n hx hb dX12_places_15 rfl (lv_at hl 3 rfl) ?_
  refine lv_iload hx hb dX12_places_16 (lv_at hl 0 rfl) ?_
  refine lv_iadd hx hb dX12_places_18 ?_
  refine z_cst (v := 12) (by decide +kernel) ?_
  refine z_iald (v := 0) (j := 12) hx hb hK hP 1 rfl rfl (Nat.le_of_ble_eq_true rfl) (Nat.le_of_ble_eq_true rfl) (zu_of y24 (zu_ne (by decide) (zu_of y22 (zu_ne (by decide) (zu_of y20 (zu_ne (by decide) (zu_of y18 (zu_ne (by decide) (zu_of y16 (zu_ne (by decide) (zu_of y14 (zu_ne (by decide) (zu_of y12 (zu_ne (by decide) (zu_of y10 (zu_ne (by decide) (zu_of y8 (zu_ne (by decide) (zu_of y6 (zu_ne (by decide) (zu_of y4 (zu_ne (by decide) (zu_of y2 (zu_ne (by decide) e13)))))))))))))))))))))))) dX12_places_19 ?_
  refine lv_iconst (v := (-1)) hx hb dX12_places_20 (by decide) ?_
  refine lv_icmp_eq (tgt := 37) hx hb dX12_places_21 (by decide) (fun c => absurd c (by decide)) (fun _ => ?_)
  refine lv_aload_n hx hb dX12_places_24 rfl (lv_at hl 2 rfl) ?_
  refine z_get (v := .ref a1) hx hb hg hown hK hP i_X12 rfl 0 rfl 52 (by decide) mt1332 e0 dX12_places_25 ?_
  refine lv_iload_n hx hb dX12_places_28 rfl (lv_at hl 3 rfl) ?_
  refine lv_iload hx hb dX12_places_29 (lv_at hl 0 rfl) ?_
  refine lv_iadd hx hb dX12_places_31 ?_
  refine z_cst (v := 12) (by decide +kernel) ?_
  refine lv_iload_n hx hb dX12_places_32 rfl (lv_at hl 1 rfl) ?_
  refine z_iast (j := 12) hx hb hK hP hD hS 1 rfl rfl (Nat.le_of_ble_eq_true rfl) (Nat.le_of_ble_eq_true rfl) dX12_places_33 (fun ff25 H locs y26 hP hD hS => ?_)
  have hP : va_P K.1 classes [(a0, zO 10 83 g0), (a1, zI K 210000 ff25)] H := hP
  have hD : va_D A [(a0, zO 10 83 g0), (a1, zI K 210000 ff25)] := hD
  refine lv_iinc (v := 13) (lv' := [(3, .int 13), (4, .int 12), (0, .ref a0), (1, .int 0), (2, .int 16)]) hx hb dX12_places_34 hl (k := 1) rfl (by decide +kernel) (by decide) rfl (fun ls hl => ?_)
  refine lv_iinc (v := 13) (lv' := [(4, .int 13), (3, .int 13), (0, .ref a0), (1, .int 0), (2, .int 16)]) hx hb dX12_places_37 hl (k := 1) rfl (by decide +kernel) (by decide) rfl (fun ls hl => ?_)
  refine lv_goto (tgt := 5) hx hb dX12_places_40 (by decide) ?_
  refine lv_iload hx hb dX12_places_5 (lv_at hl 0 rfl) ?_
  refine lv_iload_n hx hb dX12_places_7 rfl (lv_at hl 4 rfl) ?_
  refine lv_icmp_ge (tgt := 43) hx hb dX12_places_8 (by decide) (fun c => absurd c (by decide)) (fun _ => ?_)
  refine lv_aload_n hx hb dX12_places_11 rfl (lv_at hl 2 rfl) ?_
  refine z_get (v := .ref a1) hx hb hg hown hK hP i_X12 rfl 0 rfl 52 (by decide) mt1332 e0 dX12_places_12 ?_
  refine lv_iload_n hx hb dX12_places_15 rfl (lv_at hl 3 rfl) ?_
  refine lv_iload hx hb dX12_places_16 (lv_at hl 0 rfl) ?_
  refine lv_iadd hx hb dX12_places_18 ?_
  refine z_cst (v := 13) (by decide +kernel) ?_
  refine z_iald (v := 0) (j := 13) hx hb hK hP 1 rfl rfl (Nat.le_of_ble_eq_true rfl) (Nat.le_of_ble_eq_true rfl) (zu_of y26 (zu_ne (by decide) (zu_of y24 (zu_ne (by decide) (zu_of y22 (zu_ne (by decide) (zu_of y20 (zu_ne (by decide) (zu_of y18 (zu_ne (by decide) (zu_of y16 (zu_ne (by decide) (zu_of y14 (zu_ne (by decide) (zu_of y12 (zu_ne (by decide) (zu_of y10 (zu_ne (by decide) (zu_of y8 (zu_ne (by decide) (zu_of y6 (zu_ne (by decide) (zu_of y4 (zu_ne (by decide) (zu_of y2 (zu_ne (by decide) e14)))))))))))))))))))))))))) dX12_places_19 ?_
  refine lv_iconst (v := (-1)) hx hb dX12_places_20 (by decide) ?_
  refine lv_icmp_eq (tgt := 37) hx hb dX12_places_21 (by decide) (fun c => absurd c (by decide)) (fun _ => ?_)
  refine lv_aload_n hx hb dX12_places_24 rfl (lv_at hl 2 rfl) ?_
  refine z_get (v := .ref a1) hx hb hg hown hK hP i_X12 rfl 0 rfl 52 (by decide) mt1332 e0 dX12_places_25 ?_
  refine lv_iload_n hx hb dX12_places_28 rfl (lv_at hl 3 rfl) ?_
  refine lv_iload hx hb dX12_places_29 (lv_at hl 0 rfl) ?_
  refine lv_iadd hx hb dX12_places_31 ?_
  refine z_cst (v := 13) (by decide +kernel) ?_
  refine lv_iload_n hx hb dX12_places_32 rfl (lv_at hl 1 rfl) ?_
  refine z_iast (j := 13) hx hb hK hP hD hS 1 rfl rfl (Nat.le_of_ble_eq_true rfl) (Nat.le_of_ble_eq_true rfl) dX12_places_33 (fun ff27 H locs y28 hP hD hS => ?_)
  have hP : va_P K.1 classes [(a0, zO 10 83 g0), (a1, zI K 210000 ff27)] H := hP
  have hD : va_D A [(a0, zO 10 83 g0), (a1, zI K 210000 ff27)] := hD
  refine lv_iinc (v := 14) (lv' := [(3, .int 14), (4, .int 13), (0, .ref a0), (1, .int 0), (2, .int 16)]) hx hb dX12_places_34 hl (k := 1) rfl (by decide +kernel) (by decide) rfl (fun ls hl => ?_)
  refine lv_iinc (v := 14) (lv' := [(4, .int 14), (3, .int 14), (0, .ref a0), (1, .int 0), (2, .int 16)]) hx hb dX12_places_37 hl (k := 1) rfl (by decide +kernel) (by decide) rfl (fun ls hl => ?_)
  refine lv_goto (tgt := 5) hx hb dX12_places_40 (by decide) ?_
  refine lv_iload hx hb dX12_places_5 (lv_at hl 0 rfl) ?_
  refine lv_iload_n hx hb dX12_places_7 rfl (lv_at hl 4 rfl) ?_
  refine lv_icmp_ge (tgt := 43) hx hb dX12_places_8 (by decide) (fun c => absurd c (by decide)) (fun _ => ?_)
  refine lv_aload_n hx hb dX12_places_11 rfl (lv_at hl 2 rfl) ?_
  refine z_get (v := .ref a1) hx hb hg hown hK hP i_X12 rfl 0 rfl 52 (by decide) mt1332 e0 dX12_places_12 ?_
  refine lv_iload_n hx hb dX12_places_15 rfl (lv_at hl 3 rfl) ?_
  refine lv_iload hx hb dX12_places_16 (lv_at hl 0 rfl) ?_
  refine lv_iadd hx hb dX12_places_18 ?_
  refine z_cst (v := 14) (by decide +kernel) ?_
  refine z_iald (v := 0) (j := 14) hx hb hK hP 1 rfl rfl (Nat.le_of_ble_eq_true rfl) (Nat.le_of_ble_eq_true rfl) (zu_of y28 (zu_ne (by decide) (zu_of y26 (zu_ne (by decide) (zu_of y24 (zu_ne (by decide) (zu_of y22 (zu_ne (by decide) (zu_of y20 (zu_ne (by decide) (zu_of y18 (zu_ne (by decide) (zu_of y16 (zu_ne (by decide) (zu_of y14 (zu_ne (by decide) (zu_of y12 (zu_ne (by decide) (zu_of y10 (zu_ne (by decide) (zu_of y8 (zu_ne (by decide) (zu_of y6 (zu_ne (by decide) (zu_of y4 (zu_ne (by decide) (zu_of y2 (zu_ne (by decide) e15)))))))))))))))))))))))))))) dX12_places_19 ?_
  refine lv_iconst (v := (-1)) hx hb dX12_places_20 (by decide) ?_
  refine lv_icmp_eq (tgt := 37) hx hb dX12_places_21 (by decide) (fun c => absurd c (by decide)) (fun _ => ?_)
  refine lv_aload_n hx hb dX12_places_24 rfl (lv_at hl 2 rfl) ?_
  refine z_get (v := .ref a1) hx hb hg hown hK hP i_X12 rfl 0 rfl 52 (by decide) mt1332 e0 dX12_places_25 ?_
  refine lv_iload_n hx hb dX12_places_28 rfl (lv_at hl 3 rfl) ?_
  refine lv_iload hx hb dX12_places_29 (lv_at hl 0 rfl) ?_
  refine lv_iadd hx hb dX12_places_31 ?_
  refine z_cst (v := 14) (by decide +kernel) ?_
  refine lv_iload_n hx hb dX12_places_32 rfl (lv_at hl 1 rfl) ?_
  refine z_iast (j := 14) hx hb hK hP hD hS 1 rfl rfl (Nat.le_of_ble_eq_true rfl) (Nat.le_of_ble_eq_true rfl) dX12_places_33 (fun ff29 H locs y30 hP hD hS => ?_)
  have hP : va_P K.1 classes [(a0, zO 10 83 g0), (a1, zI K 210000 ff29)] H := hP
  have hD : va_D A [(a0, zO 10 83 g0), (a1, zI K 210000 ff29)] := hD
  refine lv_iinc (v := 15) (lv' := [(3, .int 15), (4, .int 14), (0, .ref a0), (1, .int 0), (2, .int 16)]) hx hb dX12_places_34 hl (k := 1) rfl (by decide +kernel) (by decide) rfl (fun ls hl => ?_)
  refine lv_iinc (v := 15) (lv' := [(4, .int 15), (3, .int 15), (0, .ref a0), (1, .int 0), (2, .int 16)]) hx hb dX12_places_37 hl (k := 1) rfl (by decide +kernel) (by decide) rfl (fun ls hl => ?_)
  refine lv_goto (tgt := 5) hx hb dX12_places_40 (by decide) ?_
  refine lv_iload hx hb dX12_places_5 (lv_at hl 0 rfl) ?_
  refine lv_iload_n hx hb dX12_places_7 rfl (lv_at hl 4 rfl) ?_
  refine lv_icmp_ge (tgt := 43) hx hb dX12_places_8 (by decide) (fun c => absurd c (by decide)) (fun _ => ?_)
  refine lv_aload_n hx hb dX12_places_11 rfl (lv_at hl 2 rfl) ?_
  refine z_get (v := .ref a1) hx hb hg hown hK hP i_X12 rfl 0 rfl 52 (by decide) mt1332 e0 dX12_places_12 ?_
  refine lv_iload_n hx hb dX12_places_15 rfl (lv_at hl 3 rfl) ?_
  refine lv_iload hx hb dX12_places_16 (lv_at hl 0 rfl) ?_
  refine lv_iadd hx hb dX12_places_18 ?_
  refine z_cst (v := 15) (by decide +kernel) ?_
  refine z_iald (v := 0) (j := 15) hx hb hK hP 1 rfl rfl (Nat.le_of_ble_eq_true rfl) (Nat.le_of_ble_eq_true rfl) (zu_of y30 (zu_ne (by decide) (zu_of y28 (zu_ne (by decide) (zu_of y26 (zu_ne (by decide) (zu_of y24 (zu_ne (by decide) (zu_of y22 (zu_ne (by decide) (zu_of y20 (zu_ne (by decide) (zu_of y18 (zu_ne (by decide) (zu_of y16 (zu_ne (by decide) (zu_of y14 (zu_ne (by decide) (zu_of y12 (zu_ne (by decide) (zu_of y10 (zu_ne (by decide) (zu_of y8 (zu_ne (by decide) (zu_of y6 (zu_ne (by decide) (zu_of y4 (zu_ne (by decide) (zu_of y2 (zu_ne (by decide) e16)))))))))))))))))))))))))))))) dX12_places_19 ?_
  refine lv_iconst (v := (-1)) hx hb dX12_places_20 (by decide) ?_
  refine lv_icmp_eq (tgt := 37) hx hb dX12_places_21 (by decide) (fun c => absurd c (by decide)) (fun _ => ?_)
  refine lv_aload_n hx hb dX12_places_24 rfl (lv_at hl 2 rfl) ?_
  refine z_get (v := .ref a1) hx hb hg hown hK hP i_X12 rfl 0 rfl 52 (by decide) mt1332 e0 dX12_places_25 ?_
  refine lv_iload_n hx hb dX12_places_28 rfl (lv_at hl 3 rfl) ?_
  refine lv_iload hx hb dX12_places_29 (lv_at hl 0 rfl) ?_
  refine lv_iadd hx hb dX12_places_31 ?_
  refine z_cst (v := 15) (by decide +kernel) ?_
  refine lv_iload_n hx hb dX12_places_32 rfl (lv_at hl 1 rfl) ?_
  refine z_iast (j := 15) hx hb hK hP hD hS 1 rfl rfl (Nat.le_of_ble_eq_true rfl) (Nat.le_of_ble_eq_true rfl) dX12_places_33 (fun ff31 H locs y32 hP hD hS => ?_)
  have hP : va_P K.1 classes [(a0, zO 10 83 g0), (a1, zI K 210000 ff31)] H := hP
  have hD : va_D A [(a0, zO 10 83 g0), (a1, zI K 210000 ff31)] := hD
  refine lv_iinc (v := 16) (lv' := [(3, .int 16), (4, .int 15), (0, .ref a0), (1, .int 0), (2, .int 16)]) hx hb dX12_places_34 hl (k := 1) rfl (by decide +kernel) (by decide) rfl (fun ls hl => ?_)
  refine lv_iinc (v := 16) (lv' := [(4, .int 16), (3, .int 16), (0, .ref a0), (1, .int 0), (2, .int 16)]) hx hb dX12_places_37 hl (k := 1) rfl (by decide +kernel) (by decide) rfl (fun ls hl => ?_)
  refine lv_goto (tgt := 5) hx hb dX12_places_40 (by decide) ?_
  refine lv_iload hx hb dX12_places_5 (lv_at hl 0 rfl) ?_
  refine lv_iload_n hx hb dX12_places_7 rfl (lv_at hl 4 rfl) ?_
  refine lv_icmp_ge (tgt := 43) hx hb dX12_places_8 (by decide) (fun _ => ?_) (fun c => absurd (by decide) c)
  refine lv_iload_n hx hb dX12_places_43 rfl (lv_at hl 1 rfl) ?_
  subst y32
  subst y30
  subst y28
  subst y26
  subst y24
  subst y22
  subst y20
  subst y18
  subst y16
  subst y14
  subst y12
  subst y10
  subst y8
  subst y6
  subst y4
  subst y2
  have hP9 : va_P K.1 classes [(a0, zO 10 83 g0), (a1, zI K 210000 (va_up (va_up (va_up (va_up (va_up (va_up (va_up (va_up (va_up (va_up (va_up (va_up (va_up (va_up (va_up (va_up f1 0 0) 1 1) 2 2) 3 3) 4 4) 5 5) 6 6) 7 7) 8 8) 9 9) 10 10) 11 11) 12 12) 13 13) 14 14) 15 15))] H := hP.sub [0, 1] rfl
  have hD9 : va_D A [(a0, zO 10 83 g0), (a1, zI K 210000 (va_up (va_up (va_up (va_up (va_up (va_up (va_up (va_up (va_up (va_up (va_up (va_up (va_up (va_up (va_up (va_up f1 0 0) 1 1) 2 2) 3 3) 4 4) 5 5) 6 6) 7 7) 8 8) 9 9) 10 10) 11 11) 12 12) 13 13) 14 14) 15 15))] := hD.sub [0, 1] (by decide) rfl
  exact z_iret hx hb hr (fun _ => 0) rfl hP9 hD9 hS (Nat.le_of_ble_eq_true rfl) (Nat.le_of_ble_eq_true rfl) hlocks dX12_places_44
set_option maxHeartbeats 4000000 in
set_option maxRecDepth 100000 in
theorem cX12_places_2 (l : Launch) (K : zK) (sz : Nat) (a0 : Nat) (g0 : Nat → Value) : Met l yX12_places (Cond.code yX12_places cX12_places 5 (some .int) :: WG) { frames := 0, cells := 0, slots := 0, locals := 0 } (zPre K [(a0, zO 10 83 g0)] sz [.ref a0, .int 60000, .int 0]) (va_Qi (fun (r : Int32) (_ : Nat → Nat) => r = 0) (zB K (va_A [(a0, zO 10 83 g0)] sz) (fun u : Nat → Nat => [(a0, zO 10 83 g0)])) (va_A [(a0, zO 10 83 g0)] sz)) 0 0 (va_A [(a0, zO 10 83 g0)] sz) := by
  refine z_met (Qc := fun A => (va_Qi (fun (r : Int32) (_ : Nat → Nat) => r = 0) (zB K A (fun u : Nat → Nat => [(a0, zO 10 83 g0)])) A)) (by decide +kernel) (Nat.le_of_ble_eq_true rfl) ?_
  intro p e s m args below meth c A ls H hx hb hr hg hown hlocks hml hin hK hP hD hA hS hZ hl
  have hown : s.vm.findClass RX12 = some m.cls := hown
  have hl : lv_has ls 5 [(0, .ref a0), (1, .int 60000), (2, .int 0)] := hl
  refine lv_iconst (v := 0) hx hb dX12_places_0 (by decide) ?_
  refine lv_istore_n (lv' := [(3, .int 0), (0, .ref a0), (1, .int 60000), (2, .int 0)]) hx hb dX12_places_1 rfl hl (by decide) rfl (fun ls hl => ?_)
  refine lv_iconst (v := 0) hx hb dX12_places_2 (by decide) ?_
  refine lv_istore (lv' := [(4, .int 0), (3, .int 0), (0, .ref a0), (1, .int 60000), (2, .int 0)]) hx hb dX12_places_3 hl (by decide) rfl (fun ls hl => ?_)
  refine lv_iload hx hb dX12_places_5 (lv_at hl 0 rfl) ?_
  refine lv_iload_n hx hb dX12_places_7 rfl (lv_at hl 4 rfl) ?_
  refine lv_icmp_ge (tgt := 43) hx hb dX12_places_8 (by decide) (fun _ => ?_) (fun c => absurd (by decide) c)
  refine lv_iload_n hx hb dX12_places_43 rfl (lv_at hl 1 rfl) ?_
  have hP9 : va_P K.1 classes [(a0, zO 10 83 g0)] H := hP.sub [0] rfl
  have hD9 : va_D A [(a0, zO 10 83 g0)] := hD.sub [0] (by decide) rfl
  exact z_iret hx hb hr (fun _ => 0) rfl hP9 hD9 hS (Nat.le_of_ble_eq_true rfl) (Nat.le_of_ble_eq_true rfl) hlocks dX12_places_44
set_option maxHeartbeats 4000000 in
set_option maxRecDepth 100000 in
theorem cX12_places_3 (l : Launch) (K : zK) (sz : Nat) (a0 : Nat) (g0 : Nat → Value) : Met l yX12_places (Cond.code yX12_places cX12_places 5 (some .int) :: WG) { frames := 0, cells := 0, slots := 0, locals := 0 } (zPre K [(a0, zO 10 83 g0)] sz [.ref a0, .int 150000, .int 0]) (va_Qi (fun (r : Int32) (_ : Nat → Nat) => r = 0) (zB K (va_A [(a0, zO 10 83 g0)] sz) (fun u : Nat → Nat => [(a0, zO 10 83 g0)])) (va_A [(a0, zO 10 83 g0)] sz)) 0 0 (va_A [(a0, zO 10 83 g0)] sz) := by
  refine z_met (Qc := fun A => (va_Qi (fun (r : Int32) (_ : Nat → Nat) => r = 0) (zB K A (fun u : Nat → Nat => [(a0, zO 10 83 g0)])) A)) (by decide +kernel) (Nat.le_of_ble_eq_true rfl) ?_
  intro p e s m args below meth c A ls H hx hb hr hg hown hlocks hml hin hK hP hD hA hS hZ hl
  have hown : s.vm.findClass RX12 = some m.cls := hown
  have hl : lv_has ls 5 [(0, .ref a0), (1, .int 150000), (2, .int 0)] := hl
  refine lv_iconst (v := 0) hx hb dX12_places_0 (by decide) ?_
  refine lv_istore_n (lv' := [(3, .int 0), (0, .ref a0), (1, .int 150000), (2, .int 0)]) hx hb dX12_places_1 rfl hl (by decide) rfl (fun ls hl => ?_)
  refine lv_iconst (v := 0) hx hb dX12_places_2 (by decide) ?_
  refine lv_istore (lv' := [(4, .int 0), (3, .int 0), (0, .ref a0), (1, .int 150000), (2, .int 0)]) hx hb dX12_places_3 hl (by decide) rfl (fun ls hl => ?_)
  refine lv_iload hx hb dX12_places_5 (lv_at hl 0 rfl) ?_
  refine lv_iload_n hx hb dX12_places_7 rfl (lv_at hl 4 rfl) ?_
  refine lv_icmp_ge (tgt := 43) hx hb dX12_places_8 (by decide) (fun _ => ?_) (fun c => absurd (by decide) c)
  refine lv_iload_n hx hb dX12_places_43 rfl (lv_at hl 1 rfl) ?_
  have hP9 : va_P K.1 classes [(a0, zO 10 83 g0)] H := hP.sub [0] rfl
  have hD9 : va_D A [(a0, zO 10 83 g0)] := hD.sub [0] (by decide) rfl
  exact z_iret hx hb hr (fun _ => 0) rfl hP9 hD9 hS (Nat.le_of_ble_eq_true rfl) (Nat.le_of_ble_eq_true rfl) hlocks dX12_places_44
set_option maxHeartbeats 4000000 in
set_option maxRecDepth 100000 in
theorem cX12_movesCells_1 (l : Launch) (K : zK) (sz : Nat) (a0 : Nat) (a1 : Nat) (a2 : Nat) (a3 : Nat) (a4 : Nat) (a5 : Nat) (a6 : Nat) (a7 : Nat) (a8 : Nat) (g0 : Nat → Value) (f1 : Nat → Int32) (f2 : Nat → Int32) (f3 : Nat → Int32) (f4 : Nat → Int32) (f5 : Nat → Int32) (f6 : Nat → Int32) (f7 : Nat → Int32) (f8 : Nat → Int32) (e0 : g0 32 = (.int 16)) (e1 : g0 52 = (.ref a1)) (e2 : f1 0 = 0) (e3 : g0 33 = (.ref a2)) (e4 : f2 0 = 0) (e5 : g0 34 = (.ref a3)) (e6 : f3 0 = 0) (e7 : g0 35 = (.ref a4)) (e8 : g0 36 = (.ref a5)) (e9 : g0 37 = (.ref a6)) (e10 : f6 0 = 0) (e11 : g0 38 = (.ref a7)) (e12 : g0 39 = (.ref a8)) (e13 : f8 0 = 0) (e14 : f1 1 = 1) (e15 : f2 1 = 0) (e16 : f3 1 = 0) (e17 : f6 1 = 0) (e18 : f8 1 = 0) (e19 : f1 2 = 2) (e20 : f2 2 = 0) (e21 : f3 2 = 0) (e22 : f6 2 = 0) (e23 : f8 2 = 0) (e24 : f1 3 = 3) (e25 : f2 3 = 0) (e26 : f3 3 = 0) (e27 : f6 3 = 0) (e28 : f8 3 = 0) (e29 : f1 4 = 4) (e30 : f2 4 = 0) (e31 : f3 4 = 0) (e32 : f6 4 = 0) (e33 : f8 4 = 0) (e34 : f1 5 = 5) (e35 : f2 5 = 0) (e36 : f3 5 = 0) (e37 : f6 5 = 0) (e38 : f8 5 = 0) (e39 : f1 6 = 6) (e40 : f2 6 = 0) (e41 : f3 6 = 0) (e42 : f6 6 = 0) (e43 : f8 6 = 0) (e44 : f1 7 = 7) (e45 : f2 7 = 0) (e46 : f3 7 = 0) (e47 : f6 7 = 0) (e48 : f8 7 = 0) (e49 : f1 8 = 8) (e50 : f2 8 = 0) (e51 : f3 8 = 0) (e52 : f6 8 = 0) (e53 : f8 8 = 0) (e54 : f1 9 = 9) (e55 : f2 9 = 0) (e56 : f3 9 = 0) (e57 : f6 9 = 0) (e58 : f8 9 = 0) (e59 : f1 10 = 10) (e60 : f2 10 = 0) (e61 : f3 10 = 0) (e62 : f6 10 = 0) (e63 : f8 10 = 0) (e64 : f1 11 = 11) (e65 : f2 11 = 0) (e66 : f3 11 = 0) (e67 : f6 11 = 0) (e68 : f8 11 = 0) (e69 : f1 12 = 12) (e70 : f2 12 = 0) (e71 : f3 12 = 0) (e72 : f6 12 = 0) (e73 : f8 12 = 0) (e74 : f1 13 = 13) (e75 : f2 13 = 0) (e76 : f3 13 = 0) (e77 : f6 13 = 0) (e78 : f8 13 = 0) (e79 : f1 14 = 14) (e80 : f2 14 = 0) (e81 : f3 14 = 0) (e82 : f6 14 = 0) (e83 : f8 14 = 0) (e84 : f1 15 = 15) (e85 : f2 15 = 0) (e86 : f3 15 = 0) (e87 : f6 15 = 0) (e88 : f8 15 = 0) : Met l yX12_movesCells (Cond.code yX12_movesCells cX12_movesCells 4 none :: WG) { frames := 0, cells := 0, slots := 0, locals := 0 } (zPre K [(a0, zO 10 83 g0), (a1, zI K 210000 f1), (a2, zI K 60000 f2), (a3, zI K 60000 f3), (a4, zI K 60000 f4), (a5, zI K 60000 f5), (a6, zI K 60000 f6), (a7, zI K 60000 f7), (a8, zI K 60000 f8)] sz [.ref a0]) (va_Qv (fun _ : Nat → Nat => True) (zB K (va_A [(a0, zO 10 83 g0), (a1, zI K 210000 f1), (a2, zI K 60000 f2), (a3, zI K 60000 f3), (a4, zI K 60000 f4), (a5, zI K 60000 f5), (a6, zI K 60000 f6), (a7, zI K 60000 f7), (a8, zI K 60000 f8)] sz) (fun u : Nat → Nat => [(a0, zO 10 83 g0), (a1, zI K 210000 f1), (a2, zI K 60000 (va_up (va_up (va_up (va_up (va_up (va_up (va_up (va_up (va_up (va_up (va_up (va_up (va_up (va_up (va_up (va_up f2 0 0) 1 0) 2 0) 3 0) 4 0) 5 0) 6 0) 7 0) 8 0) 9 0) 10 0) 11 0) 12 0) 13 0) 14 0) 15 0)), (a3, zI K 60000 (va_up (va_up (va_up (va_up (va_up (va_up (va_up (va_up (va_up (va_up (va_up (va_up (va_up (va_up (va_up (va_up f3 0 0) 1 0) 2 0) 3 0) 4 0) 5 0) 6 0) 7 0) 8 0) 9 0) 10 0) 11 0) 12 0) 13 0) 14 0) 15 0)), (a4, zI K 60000 (va_up (va_up (va_up (va_up (va_up (va_up (va_up (va_up (va_up (va_up (va_up (va_up (va_up (va_up (va_up (va_up f4 0 0) 1 0) 2 0) 3 0) 4 0) 5 0) 6 0) 7 0) 8 0) 9 0) 10 0) 11 0) 12 0) 13 0) 14 0) 15 0)), (a5, zI K 60000 (va_up (va_up (va_up (va_up (va_up (va_up (va_up (va_up (va_up (va_up (va_up (va_up (va_up (va_up (va_up (va_up f5 0 0) 1 0) 2 0) 3 0) 4 0) 5 0) 6 0) 7 0) 8 0) 9 0) 10 0) 11 0) 12 0) 13 0) 14 0) 15 0)), (a6, zI K 60000 (va_up (va_up (va_up (va_up (va_up (va_up (va_up (va_up (va_up (va_up (va_up (va_up (va_up (va_up (va_up (va_up f6 0 0) 1 0) 2 0) 3 0) 4 0) 5 0) 6 0) 7 0) 8 0) 9 0) 10 0) 11 0) 12 0) 13 0) 14 0) 15 0)), (a7, zI K 60000 (va_up (va_up (va_up (va_up (va_up (va_up (va_up (va_up (va_up (va_up (va_up (va_up (va_up (va_up (va_up (va_up f7 0 (-1)) 1 (-1)) 2 (-1)) 3 (-1)) 4 (-1)) 5 (-1)) 6 (-1)) 7 (-1)) 8 (-1)) 9 (-1)) 10 (-1)) 11 (-1)) 12 (-1)) 13 (-1)) 14 (-1)) 15 (-1))), (a8, zI K 60000 (va_up (va_up (va_up (va_up (va_up (va_up (va_up (va_up (va_up (va_up (va_up (va_up (va_up (va_up (va_up (va_up f8 0 0) 1 0) 2 0) 3 0) 4 0) 5 0) 6 0) 7 0) 8 0) 9 0) 10 0) 11 0) 12 0) 13 0) 14 0) 15 0))])) (va_A [(a0, zO 10 83 g0), (a1, zI K 210000 f1), (a2, zI K 60000 f2), (a3, zI K 60000 f3), (a4, zI K 60000 f4), (a5, zI K 60000 f5), (a6, zI K 60000 f6), (a7, zI K 60000 f7), (a8, zI K 60000 f8)] sz)) 0 0 (va_A [(a0, zO 10 83 g0), (a1, zI K 210000 f1), (a2, zI K 60000 f2), (a3, zI K 60000 f3), (a4, zI K 60000 f4), (a5, zI K 60000 f5), (a6, zI K 60000 f6), (a7, zI K 60000 f7), (a8, zI K 60000 f8)] sz) := by
  refine z_met (Qc := fun A => (va_Qv (fun _ : Nat → Nat => True) (zB K A (fun u : Nat → Nat => [(a0, zO 10 83 g0), (a1, zI K 210000 f1), (a2, zI K 60000 (va_up (va_up (va_up (va_up (va_up (va_up (va_up (va_up (va_up (va_up (va_up (va_up (va_up (va_up (va_up (va_up f2 0 0) 1 0) 2 0) 3 0) 4 0) 5 0) 6 0) 7 0) 8 0) 9 0) 10 0) 11 0) 12 0) 13 0) 14 0) 15 0)), (a3, zI K 60000 (va_up (va_up (va_up (va_up (va_up (va_up (va_up (va_up (va_up (va_up (va_up (va_up (va_up (va_up (va_up (va_up f3 0 0) 1 0) 2 0) 3 0) 4 0) 5 0) 6 0) 7 0) 8 0) 9 0) 10 0) 11 0) 12 0) 13 0) 14 0) 15 0)), (a4, zI K 60000 (va_up (va_up (va_up (va_up (va_up (va_up (va_up (va_up (va_up (va_up (va_up (va_up (va_up (va_up (va_up (va_up f4 0 0) 1 0) 2 0) 3 0) 4 0) 5 0) 6 0) 7 0) 8 0) 9 0) 10 0) 11 0) 12 0) 13 0) 14 0) 15 0)), (a5, zI K 60000 (va_up (va_up (va_up (va_up (va_up (va_up (va_up (va_up (va_up (va_up (va_up (va_up (va_up (va_up (va_up (va_up f5 0 0) 1 0) 2 0) 3 0) 4 0) 5 0) 6 0) 7 0) 8 0) 9 0) 10 0) 11 0) 12 0) 13 0) 14 0) 15 0)), (a6, zI K 60000 (va_up (va_up (va_up (va_up (va_up (va_up (va_up (va_up (va_up (va_up (va_up (va_up (va_up (va_up (va_up (va_up f6 0 0) 1 0) 2 0) 3 0) 4 0) 5 0) 6 0) 7 0) 8 0) 9 0) 10 0) 11 0) 12 0) 13 0) 14 0) 15 0)), (a7, zI K 60000 (va_up (va_up (va_up (va_up (va_up (va_up (va_up (va_up (va_up (va_up (va_up (va_up (va_up (va_up (va_up (va_up f7 0 (-1)) 1 (-1)) 2 (-1)) 3 (-1)) 4 (-1)) 5 (-1)) 6 (-1)) 7 (-1)) 8 (-1)) 9 (-1)) 10 (-1)) 11 (-1)) 12 (-1)) 13 (-1)) 14 (-1)) 15 (-1))), (a8, zI K 60000 (va_up (va_up (va_up (va_up (va_up (va_up (va_up (va_up (va_up (va_up (va_up (va_up (va_up (va_up (va_up (va_up f8 0 0) 1 0) 2 0) 3 0) 4 0) 5 0) 6 0) 7 0) 8 0) 9 0) 10 0) 11 0) 12 0) 13 0) 14 0) 15 0))])) A)) (by decide +kernel) (Nat.le_of_ble_eq_true rfl) ?_
  intro p e s m args below meth c A ls H hx hb hr hg hown hlocks hml hin hK hP hD hA hS hZ hl
  have hown : s.vm.findClass RX12 = some m.cls := hown
  have hl : lv_has ls 4 [(0, .ref a0)] := hl
  refine lv_iconst (v := 0) hx hb dX12_movesCells_0 (by decide) ?_
  refine lv_istore_n (lv' := [(1, .int 0), (0, .ref a0)]) hx hb dX12_movesCells_1 rfl hl (by decide) rfl (fun ls hl => ?_)
  refine lv_iload_n hx hb dX12_movesCells_2 rfl (lv_at hl 0 rfl) ?_
  refine lv_aload_n hx hb dX12_movesCells_3 rfl (lv_at hl 1 rfl) ?_
  refine z_get (v := .int 16) hx hb hg hown hK hP i_X12 rfl 0 rfl 32 (by decide) mt1312 e0 dX12_movesCells_4 ?_
  refine lv_icmp_ge (tgt := 182) hx hb dX12_movesCells_7 (by decide) (fun c => absurd c (by decide)) (fun _ => ?_)
  refine lv_aload_n hx hb dX12_movesCells_10 rfl (lv_at hl 1 rfl) ?_
  refine z_get (v := .ref a1) hx hb hg hown hK hP i_X12 rfl 0 rfl 52 (by decide) mt1332 e1 dX12_movesCells_11 ?_
  refine lv_iload_n hx hb dX12_movesCells_14 rfl (lv_at hl 0 rfl) ?_
  refine z_iald (v := 0) (j := 0) hx hb hK hP 1 rfl rfl (Nat.le_of_ble_eq_true rfl) (Nat.le_of_ble_eq_true rfl) e2 dX12_movesCells_15 ?_
  refine lv_istore_n (lv' := [(2, .int 0), (1, .int 0), (0, .ref a0)]) hx hb dX12_movesCells_16 rfl hl (by decide) rfl (fun ls hl => ?_)
  refine lv_iload_n hx hb dX12_movesCells_17 rfl (lv_at hl 0 rfl) ?_
  refine lv_iconst (v := (-1)) hx hb dX12_movesCells_18 (by decide) ?_
  refine lv_icmp_eq (tgt := 176) hx hb dX12_movesCells_19 (by decide) (fun c => absurd c (by decide)) (fun _ => ?_)
  refine lv_aload_n hx hb dX12_movesCells_22 rfl (lv_at hl 2 rfl) ?_
  refine z_get (v := .ref a2) hx hb hg hown hK hP i_X12 rfl 0 rfl 33 (by decide) mt1313 e3 dX12_movesCells_23 ?_
  refine lv_iload_n hx hb dX12_movesCells_26 rfl (lv_at hl 1 rfl) ?_
  refine z_iald (v := 0) (j := 0) hx hb hK hP 2 rfl rfl (Nat.le_of_ble_eq_true rfl) (Nat.le_of_ble_eq_true rfl) e4 dX12_movesCells_27 ?_
  refine lv_iconst (v := 2) hx hb dX12_movesCells_28 (by decide) ?_
  refine lv_icmp_ne (tgt := 36) hx hb dX12_movesCells_29 (by decide) (fun _ => ?_) (fun c => absurd c (by decide))
  refine lv_iconst (v := 0) hx hb dX12_movesCells_36 (by decide) ?_
  refine lv_istore_n (lv' := [(3, .int 0), (2, .int 0), (1, .int 0), (0, .ref a0)]) hx hb dX12_movesCells_37 rfl hl (by decide) rfl (fun ls hl => ?_)
  refine lv_aload_n hx hb dX12_movesCells_38 rfl (lv_at hl 3 rfl) ?_
  refine z_get (v := .ref a2) hx hb hg hown hK hP i_X12 rfl 0 rfl 33 (by decide) mt1313 e3 dX12_movesCells_39 ?_
  refine lv_iload_n hx hb dX12_movesCells_42 rfl (lv_at hl 1 rfl) ?_
  refine lv_aload_n hx hb dX12_movesCells_43 rfl (lv_at hl 3 rfl) ?_
  refine z_get (v := .ref a2) hx hb hg hown hK hP i_X12 rfl 0 rfl 33 (by decide) mt1313 e3 dX12_movesCells_44 ?_
  refine lv_iload_n hx hb dX12_movesCells_47 rfl (lv_at hl 2 rfl) ?_
  refine z_iald (v := 0) (j := 0) hx hb hK hP 2 rfl rfl (Nat.le_of_ble_eq_true rfl) (Nat.le_of_ble_eq_true rfl) e4 dX12_movesCells_48 ?_
  refine z_iast (j := 0) hx hb hK hP hD hS 2 rfl rfl (Nat.le_of_ble_eq_true rfl) (Nat.le_of_ble_eq_true rfl) dX12_movesCells_49 (fun ff1 H locs y2 hP hD hS => ?_)
  have hP : va_P K.1 classes [(a0, zO 10 83 g0), (a1, zI K 210000 f1), (a2, zI K 60000 ff1), (a3, zI K 60000 f3), (a4, zI K 60000 f4), (a5, zI K 60000 f5), (a6, zI K 60000 f6), (a7, zI K 60000 f7), (a8, zI K 60000 f8)] H := hP
  have hD : va_D A [(a0, zO 10 83 g0), (a1, zI K 210000 f1), (a2, zI K 60000 ff1), (a3, zI K 60000 f3), (a4, zI K 60000 f4), (a5, zI K 60000 f5), (a6, zI K 60000 f6), (a7, zI K 60000 f7), (a8, zI K 60000 f8)] := hD
  refine lv_aload_n hx hb dX12_movesCells_50 rfl (lv_at hl 3 rfl) ?_
  refine z_get (v := .ref a3) hx hb hg hown hK hP i_X12 rfl 0 rfl 34 (by decide) mt1314 e5 dX12_movesCells_51 ?_
  refine lv_iload_n hx hb dX12_movesCells_54 rfl (lv_at hl 1 rfl) ?_
  refine lv_aload_n hx hb dX12_movesCells_55 rfl (lv_at hl 3 rfl) ?_
  refine z_get (v := .ref a3) hx hb hg hown hK hP i_X12 rfl 0 rfl 34 (by decide) mt1314 e5 dX12_movesCells_56 ?_
  refine lv_iload_n hx hb dX12_movesCells_59 rfl (lv_at hl 2 rfl) ?_
  refine z_iald (v := 0) (j := 0) hx hb hK hP 3 rfl rfl (Nat.le_of_ble_eq_true rfl) (Nat.le_of_ble_eq_true rfl) e6 dX12_movesCells_60 ?_
  refine z_iast (j := 0) hx hb hK hP hD hS 3 rfl rfl (Nat.le_of_ble_eq_true rfl) (Nat.le_of_ble_eq_true rfl) dX12_movesCells_61 (fun ff3 H locs y4 hP hD hS => ?_)
  have hP : va_P K.1 classes [(a0, zO 10 83 g0), (a1, zI K 210000 f1), (a2, zI K 60000 ff1), (a3, zI K 60000 ff3), (a4, zI K 60000 f4), (a5, zI K 60000 f5), (a6, zI K 60000 f6), (a7, zI K 60000 f7), (a8, zI K 60000 f8)] H := hP
  have hD : va_D A [(a0, zO 10 83 g0), (a1, zI K 210000 f1), (a2, zI K 60000 ff1), (a3, zI K 60000 ff3), (a4, zI K 60000 f4), (a5, zI K 60000 f5), (a6, zI K 60000 f6), (a7, zI K 60000 f7), (a8, zI K 60000 f8)] := hD
  refine lv_aload_n hx hb dX12_movesCells_62 rfl (lv_at hl 3 rfl) ?_
  refine z_get (v := .ref a4) hx hb hg hown hK hP i_X12 rfl 0 rfl 35 (by decide) mt1315 e7 dX12_movesCells_63 ?_
  refine lv_iload_n hx hb dX12_movesCells_66 rfl (lv_at hl 1 rfl) ?_
  refine lv_iload_n hx hb dX12_movesCells_67 rfl (lv_at hl 0 rfl) ?_
  refine lv_if_eq (tgt := 90) hx hb dX12_movesCells_68 (by decide) (fun _ => ?_) (fun c => absurd (by decide) c)
  refine lv_iconst (v := 0) hx hb dX12_movesCells_90 (by decide) ?_
  refine z_iast (j := 0) hx hb hK hP hD hS 4 rfl rfl (Nat.le_of_ble_eq_true rfl) (Nat.le_of_ble_eq_true rfl) dX12_movesCells_91 (fun ff5 H locs y6 hP hD hS => ?_)
  have hP : va_P K.1 classes [(a0, zO 10 83 g0), (a1, zI K 210000 f1), (a2, zI K 60000 ff1), (a3, zI K 60000 ff3), (a4, zI K 60000 ff5), (a5, zI K 60000 f5), (a6, zI K 60000 f6), (a7, zI K 60000 f7), (a8, zI K 60000 f8)] H := hP
  have hD : va_D A [(a0, zO 10 83 g0), (a1, zI K 210000 f1), (a2, zI K 60000 ff1), (a3, zI K 60000 ff3), (a4, zI K 60000 ff5), (a5, zI K 60000 f5), (a6, zI K 60000 f6), (a7, zI K 60000 f7), (a8, zI K 60000 f8)] := hD
  refine lv_aload_n hx hb dX12_movesCells_92 rfl (lv_at hl 3 rfl) ?_
  refine z_get (v := .ref a5) hx hb hg hown hK hP i_X12 rfl 0 rfl 36 (by decide) mt1316 e8 dX12_movesCells_93 ?_
  refine lv_iload_n hx hb dX12_movesCells_96 rfl (lv_at hl 1 rfl) ?_
  refine lv_iload_n hx hb dX12_movesCells_97 rfl (lv_at hl 0 rfl) ?_
  refine lv_if_eq (tgt := 120) hx hb dX12_movesCells_98 (by decide) (fun _ => ?_) (fun c => absurd (by decide) c)
  refine lv_iconst (v := 0) hx hb dX12_movesCells_120 (by decide) ?_
  refine z_iast (j := 0) hx hb hK hP hD hS 5 rfl rfl (Nat.le_of_ble_eq_true rfl) (Nat.le_of_ble_eq_true rfl) dX12_movesCells_121 (fun ff7 H locs y8 hP hD hS => ?_)
  have hP : va_P K.1 classes [(a0, zO 10 83 g0), (a1, zI K 210000 f1), (a2, zI K 60000 ff1), (a3, zI K 60000 ff3), (a4, zI K 60000 ff5), (a5, zI K 60000 ff7), (a6, zI K 60000 f6), (a7, zI K 60000 f7), (a8, zI K 60000 f8)] H := hP
  have hD : va_D A [(a0, zO 10 83 g0), (a1, zI K 210000 f1), (a2, zI K 60000 ff1), (a3, zI K 60000 ff3), (a4, zI K 60000 ff5), (a5, zI K 60000 ff7), (a6, zI K 60000 f6), (a7, zI K 60000 f7), (a8, zI K 60000 f8)] := hD
  refine lv_aload_n hx hb dX12_movesCells_122 rfl (lv_at hl 3 rfl) ?_
  refine z_get (v := .ref a6) hx hb hg hown hK hP i_X12 rfl 0 rfl 37 (by decide) mt1317 e9 dX12_movesCells_123 ?_
  refine lv_iload_n hx hb dX12_movesCells_126 rfl (lv_at hl 1 rfl) ?_
  refine lv_aload_n hx hb dX12_movesCells_127 rfl (lv_at hl 3 rfl) ?_
  refine z_get (v := .ref a6) hx hb hg hown hK hP i_X12 rfl 0 rfl 37 (by decide) mt1317 e9 dX12_movesCells_128 ?_
  refine lv_iload_n hx hb dX12_movesCells_131 rfl (lv_at hl 2 rfl) ?_
  refine z_iald (v := 0) (j := 0) hx hb hK hP 6 rfl rfl (Nat.le_of_ble_eq_true rfl) (Nat.le_of_ble_eq_true rfl) e10 dX12_movesCells_132 ?_
  refine z_iast (j := 0) hx hb hK hP hD hS 6 rfl rfl (Nat.le_of_ble_eq_true rfl) (Nat.le_of_ble_eq_true rfl) dX12_movesCells_133 (fun ff9 H locs y10 hP hD hS => ?_)
  have hP : va_P K.1 classes [(a0, zO 10 83 g0), (a1, zI K 210000 f1), (a2, zI K 60000 ff1), (a3, zI K 60000 ff3), (a4, zI K 60000 ff5), (a5, zI K 60000 ff7), (a6, zI K 60000 ff9), (a7, zI K 60000 f7), (a8, zI K 60000 f8)] H := hP
  have hD : va_D A [(a0, zO 10 83 g0), (a1, zI K 210000 f1), (a2, zI K 60000 ff1), (a3, zI K 60000 ff3), (a4, zI K 60000 ff5), (a5, zI K 60000 ff7), (a6, zI K 60000 ff9), (a7, zI K 60000 f7), (a8, zI K 60000 f8)] := hD
  refine lv_aload_n hx hb dX12_movesCells_134 rfl (lv_at hl 3 rfl) ?_
  refine z_get (v := .ref a7) hx hb hg hown hK hP i_X12 rfl 0 rfl 38 (by decide) mt1318 e11 dX12_movesCells_135 ?_
  refine lv_iload_n hx hb dX12_movesCells_138 rfl (lv_at hl 1 rfl) ?_
  refine lv_iload_n hx hb dX12_movesCells_139 rfl (lv_at hl 0 rfl) ?_
  refine lv_if_ne (tgt := 149) hx hb dX12_movesCells_140 (by decide) (fun c => absurd (by decide) c) (fun _ => ?_)
  refine lv_iload_n hx hb dX12_movesCells_143 rfl (lv_at hl 2 rfl) ?_
  refine lv_bipush (v := 16) hx hb dX12_movesCells_144 (by decide) ?_
  refine lv_icmp_ge (tgt := 153) hx hb dX12_movesCells_146 (by decide) (fun c => absurd c (by decide)) (fun _ => ?_)
  refine lv_iconst (v := (-1)) hx hb dX12_movesCells_149 (by decide) ?_
  refine lv_goto (tgt := 163) hx hb dX12_movesCells_150 (by decide) ?_
  refine z_iast (j := 0) hx hb hK hP hD hS 7 rfl rfl (Nat.le_of_ble_eq_true rfl) (Nat.le_of_ble_eq_true rfl) dX12_movesCells_163 (fun ff11 H locs y12 hP hD hS => ?_)
  have hP : va_P K.1 classes [(a0, zO 10 83 g0), (a1, zI K 210000 f1), (a2, zI K 60000 ff1), (a3, zI K 60000 ff3), (a4, zI K 60000 ff5), (a5, zI K 60000 ff7), (a6, zI K 60000 ff9), (a7, zI K 60000 ff11), (a8, zI K 60000 f8)] H := hP
  have hD : va_D A [(a0, zO 10 83 g0), (a1, zI K 210000 f1), (a2, zI K 60000 ff1), (a3, zI K 60000 ff3), (a4, zI K 60000 ff5), (a5, zI K 60000 ff7), (a6, zI K 60000 ff9), (a7, zI K 60000 ff11), (a8, zI K 60000 f8)] := hD
  refine lv_aload_n hx hb dX12_movesCells_164 rfl (lv_at hl 3 rfl) ?_
  refine z_get (v := .ref a8) hx hb hg hown hK hP i_X12 rfl 0 rfl 39 (by decide) mt1319 e12 dX12_movesCells_165 ?_
  refine lv_iload_n hx hb dX12_movesCells_168 rfl (lv_at hl 1 rfl) ?_
  refine lv_aload_n hx hb dX12_movesCells_169 rfl (lv_at hl 3 rfl) ?_
  refine z_get (v := .ref a8) hx hb hg hown hK hP i_X12 rfl 0 rfl 39 (by decide) mt1319 e12 dX12_movesCells_170 ?_
  refine lv_iload_n hx hb dX12_movesCells_173 rfl (lv_at hl 2 rfl) ?_
  refine z_iald (v := 0) (j := 0) hx hb hK hP 8 rfl rfl (Nat.le_of_ble_eq_true rfl) (Nat.le_of_ble_eq_true rfl) e13 dX12_movesCells_174 ?_
  refine z_iast (j := 0) hx hb hK hP hD hS 8 rfl rfl (Nat.le_of_ble_eq_true rfl) (Nat.le_of_ble_eq_true rfl) dX12_movesCells_175 (fun ff13 H locs y14 hP hD hS => ?_)
  have hP : va_P K.1 classes [(a0, zO 10 83 g0), (a1, zI K 210000 f1), (a2, zI K 60000 ff1), (a3, zI K 60000 ff3), (a4, zI K 60000 ff5), (a5, zI K 60000 ff7), (a6, zI K 60000 ff9), (a7, zI K 60000 ff11), (a8, zI K 60000 ff13)] H := hP
  have hD : va_D A [(a0, zO 10 83 g0), (a1, zI K 210000 f1), (a2, zI K 60000 ff1), (a3, zI K 60000 ff3), (a4, zI K 60000 ff5), (a5, zI K 60000 ff7), (a6, zI K 60000 ff9), (a7, zI K 60000 ff11), (a8, zI K 60000 ff13)] := hD
  refine lv_iinc (v := 1) (lv' := [(1, .int 1), (3, .int 0), (2, .int 0), (0, .ref a0)]) hx hb dX12_movesCells_176 hl (k := 2) rfl (by decide +kernel) (by decide) rfl (fun ls hl => ?_)
  refine lv_goto (tgt := 2) hx hb dX12_movesCells_179 (by decide) ?_
  refine lv_iload_n hx hb dX12_movesCells_2 rfl (lv_at hl 0 rfl) ?_
  refine lv_aload_n hx hb dX12_movesCells_3 rfl (lv_at hl 3 rfl) ?_
  refine z_get (v := .int 16) hx hb hg hown hK hP i_X12 rfl 0 rfl 32 (by decide) mt1312 e0 dX12_movesCells_4 ?_
  refine lv_icmp_ge (tgt := 182) hx hb dX12_movesCells_7 (by decide) (fun c => absurd c (by decide)) (fun _ => ?_)
  refine lv_aload_n hx hb dX12_movesCells_10 rfl (lv_at hl 3 rfl) ?_
  refine z_get (v := .ref a1) hx hb hg hown hK hP i_X12 rfl 0 rfl 52 (by decide) mt1332 e1 dX12_movesCells_11 ?_
  refine lv_iload_n hx hb dX12_movesCells_14 rfl (lv_at hl 0 rfl) ?_
  refine z_iald (v := 1) (j := 1) hx hb hK hP 1 rfl rfl (Nat.le_of_ble_eq_true rfl) (Nat.le_of_ble_eq_true rfl) e14 dX12_movesCells_15 ?_
  refine lv_istore_n (lv' := [(2, .int 1), (1, .int 1), (3, .int 0), (0, .ref a0)]) hx hb dX12_movesCells_16 rfl hl (by decide) rfl (fun ls hl => ?_)
  refine lv_iload_n hx hb dX12_movesCells_17 rfl (lv_at hl 0 rfl) ?_
  refine lv_iconst (v := (-1)) hx hb dX12_movesCells_18 (by decide) ?_
  refine lv_icmp_eq (tgt := 176) hx hb dX12_movesCells_19 (by decide) (fun c => absurd c (by decide)) (fun _ => ?_)
  refine lv_aload_n hx hb dX12_movesCells_22 rfl (lv_at hl 3 rfl) ?_
  refine z_get (v := .ref a2) hx hb hg hown hK hP i_X12 rfl 0 rfl 33 (by decide) mt1313 e3 dX12_movesCells_23 ?_
  refine lv_iload_n hx hb dX12_movesCells_26 rfl (lv_at hl 1 rfl) ?_
  refine z_iald (v := 0) (j := 1) hx hb hK hP 2 rfl rfl (Nat.le_of_ble_eq_true rfl) (Nat.le_of_ble_eq_true rfl) (zu_of y2 (zu_ne (by decide) e15)) dX12_movesCells_27 ?_
  refine lv_iconst (v := 2) hx hb dX12_movesCells_28 (by decide) ?_
  refine lv_icmp_ne (tgt := 36) hx hb dX12_movesCells_29 (by decide) (fun _ => ?_) (fun c => absurd c (by decide))
  refine lv_iconst (v := 0) hx hb dX12_movesCells_36 (by decide) ?_
  refine lv_istore_n (lv' := [(3, .int 0), (2, .int 1), (1, .int 1), (0, .ref a0)]) hx hb dX12_movesCells_37 rfl hl (by decide) rfl (fun ls hl => ?_)
  refine lv_aload_n hx hb dX12_movesCells_38 rfl (lv_at hl 3 rfl) ?_
  refine z_get (v := .ref a2) hx hb hg hown hK hP i_X12 rfl 0 rfl 33 (by decide) mt1313 e3 dX12_movesCells_39 ?_
  refine lv_iload_n hx hb dX12_movesCells_42 rfl (lv_at hl 1 rfl) ?_
  refine lv_aload_n hx hb dX12_movesCells_43 rfl (lv_at hl 3 rfl) ?_
  refine z_get (v := .ref a2) hx hb hg hown hK hP i_X12 rfl 0 rfl 33 (by decide) mt1313 e3 dX12_movesCells_44 ?_
  refine lv_iload_n hx hb dX12_movesCells_47 rfl (lv_at hl 2 rfl) ?_
  refine z_iald (v := 0) (j := 1) hx hb hK hP 2 rfl rfl (Nat.le_of_ble_eq_true rfl) (Nat.le_of_ble_eq_true rfl) (zu_of y2 (zu_ne (by decide) e15)) dX12_movesCells_48 ?_
  refine z_iast (j := 1) hx hb hK hP hD hS 2 rfl rfl (Nat.le_of_ble_eq_true rfl) (Nat.le_of_ble_eq_true rfl) dX12_movesCells_49 (fun ff15 H locs y16 hP hD hS => ?_)
  have hP : va_P K.1 classes [(a0, zO 10 83 g0), (a1, zI K 210000 f1), (a2, zI K 60000 ff15), (a3, zI K 60000 ff3), (a4, zI K 60000 ff5), (a5, zI K 60000 ff7), (a6, zI K 60000 ff9), (a7, zI K 60000 ff11), (a8, zI K 60000 ff13)] H := hP
  have hD : va_D A [(a0, zO 10 83 g0), (a1, zI K 210000 f1), (a2, zI K 60000 ff15), (a3, zI K 60000 ff3), (a4, zI K 60000 ff5), (a5, zI K 60000 ff7), (a6, zI K 60000 ff9), (a7, zI K 60000 ff11), (a8, zI K 60000 ff13)] := hD
  refine lv_aload_n hx hb dX12_movesCells_50 rfl (lv_at hl 3 rfl) ?_
  refine z_get (v := .ref a3) hx hb hg hown hK hP i_X12 rfl 0 rfl 34 (by decide) mt1314 e5 dX12_movesCells_51 ?_
  refine lv_iload_n hx hb dX12_movesCells_54 rfl (lv_at hl 1 rfl) ?_
  refine lv_aload_n hx hb dX12_movesCells_55 rfl (lv_at hl 3 rfl) ?_
  refine z_get (v := .ref a3) hx hb hg hown hK hP i_X12 rfl 0 rfl 34 (by decide) mt1314 e5 dX12_movesCells_56 ?_
  refine lv_iload_n hx hb dX12_movesCells_59 rfl (lv_at hl 2 rfl) ?_
  refine z_iald (v := 0) (j := 1) hx hb hK hP 3 rfl rfl (Nat.le_of_ble_eq_true rfl) (Nat.le_of_ble_eq_true rfl) (zu_of y4 (zu_ne (by decide) e16)) dX12_movesCells_60 ?_
  refine z_iast (j := 1) hx hb hK hP hD hS 3 rfl rfl (Nat.le_of_ble_eq_true rfl) (Nat.le_of_ble_eq_true rfl) dX12_movesCells_61 (fun ff17 H locs y18 hP hD hS => ?_)
  have hP : va_P K.1 classes [(a0, zO 10 83 g0), (a1, zI K 210000 f1), (a2, zI K 60000 ff15), (a3, zI K 60000 ff17), (a4, zI K 60000 ff5), (a5, zI K 60000 ff7), (a6, zI K 60000 ff9), (a7, zI K 60000 ff11), (a8, zI K 60000 ff13)] H := hP
  have hD : va_D A [(a0, zO 10 83 g0), (a1, zI K 210000 f1), (a2, zI K 60000 ff15), (a3, zI K 60000 ff17), (a4, zI K 60000 ff5), (a5, zI K 60000 ff7), (a6, zI K 60000 ff9), (a7, zI K 60000 ff11), (a8, zI K 60000 ff13)] := hD
  refine lv_aload_n hx hb dX12_movesCells_62 rfl (lv_at hl 3 rfl) ?_
  refine z_get (v := .ref a4) hx hb hg hown hK hP i_X12 rfl 0 rfl 35 (by decide) mt1315 e7 dX12_movesCells_63 ?_
  refine lv_iload_n hx hb dX12_movesCells_66 rfl (lv_at hl 1 rfl) ?_
  refine lv_iload_n hx hb dX12_movesCells_67 rfl (lv_at hl 0 rfl) ?_
  refine lv_if_eq (tgt := 90) hx hb dX12_movesCells_68 (by decide) (fun _ => ?_) (fun c => absurd (by decide) c)
  refine lv_iconst (v := 0) hx hb dX12_movesCells_90 (by decide) ?_
  refine z_iast (j := 1) hx hb hK hP hD hS 4 rfl rfl (Nat.le_of_ble_eq_true rfl) (Nat.le_of_ble_eq_true rfl) dX12_movesCells_91 (fun ff19 H locs y20 hP hD hS => ?_)
  have hP : va_P K.1 classes [(a0, zO 10 83 g0), (a1, zI K 210000 f1), (a2, zI K 60000 ff15), (a3, zI K 60000 ff17), (a4, zI K 60000 ff19), (a5, zI K 60000 ff7), (a6, zI K 60000 ff9), (a7, zI K 60000 ff11), (a8, zI K 60000 ff13)] H := hP
  have hD : va_D A [(a0, zO 10 83 g0), (a1, zI K 210000 f1), (a2, zI K 60000 ff15), (a3, zI K 60000 ff17), (a4, zI K 60000 ff19), (a5, zI K 60000 ff7), (a6, zI K 60000 ff9), (a7, zI K 60000 ff11), (a8, zI K 60000 ff13)] := hD
  refine lv_aload_n hx hb dX12_movesCells_92 rfl (lv_at hl 3 rfl) ?_
  refine z_get (v := .ref a5) hx hb hg hown hK hP i_X12 rfl 0 rfl 36 (by decide) mt1316 e8 dX12_movesCells_93 ?_
  refine lv_iload_n hx hb dX12_movesCells_96 rfl (lv_at hl 1 rfl) ?_
  refine lv_iload_n hx hb dX12_movesCells_97 rfl (lv_at hl 0 rfl) ?_
  refine lv_if_eq (tgt := 120) hx hb dX12_movesCells_98 (by decide) (fun _ => ?_) (fun c => absurd (by decide) c)
  refine lv_iconst (v := 0) hx hb dX12_movesCells_120 (by decide) ?_
  refine z_iast (j := 1) hx hb hK hP hD hS 5 rfl rfl (Nat.le_of_ble_eq_true rfl) (Nat.le_of_ble_eq_true rfl) dX12_movesCells_121 (fun ff21 H locs y22 hP hD hS => ?_)
  have hP : va_P K.1 classes [(a0, zO 10 83 g0), (a1, zI K 210000 f1), (a2, zI K 60000 ff15), (a3, zI K 60000 ff17), (a4, zI K 60000 ff19), (a5, zI K 60000 ff21), (a6, zI K 60000 ff9), (a7, zI K 60000 ff11), (a8, zI K 60000 ff13)] H := hP
  have hD : va_D A [(a0, zO 10 83 g0), (a1, zI K 210000 f1), (a2, zI K 60000 ff15), (a3, zI K 60000 ff17), (a4, zI K 60000 ff19), (a5, zI K 60000 ff21), (a6, zI K 60000 ff9), (a7, zI K 60000 ff11), (a8, zI K 60000 ff13)] := hD
  refine lv_aload_n hx hb dX12_movesCells_122 rfl (lv_at hl 3 rfl) ?_
  refine z_get (v := .ref a6) hx hb hg hown hK hP i_X12 rfl 0 rfl 37 (by decide) mt1317 e9 dX12_movesCells_123 ?_
  refine lv_iload_n hx hb dX12_movesCells_126 rfl (lv_at hl 1 rfl) ?_
  refine lv_aload_n hx hb dX12_movesCells_127 rfl (lv_at hl 3 rfl) ?_
  refine z_get (v := .ref a6) hx hb hg hown hK hP i_X12 rfl 0 rfl 37 (by decide) mt1317 e9 dX12_movesCells_128 ?_
  refine lv_iload_n hx hb dX12_movesCells_131 rfl (lv_at hl 2 rfl) ?_
  refine z_iald (v := 0) (j := 1) hx hb hK hP 6 rfl rfl (Nat.le_of_ble_eq_true rfl) (Nat.le_of_ble_eq_true rfl) (zu_of y10 (zu_ne (by decide) e17)) dX12_movesCells_132 ?_
  refine z_iast (j := 1) hx hb hK hP hD hS 6 rfl rfl (Nat.le_of_ble_eq_true rfl) (Nat.le_of_ble_eq_true rfl) dX12_movesCells_133 (fun ff23 H locs y24 hP hD hS => ?_)
  have hP : va_P K.1 classes [(a0, zO 10 83 g0), (a1, zI K 210000 f1), (a2, zI K 60000 ff15), (a3, zI K 60000 ff17), (a4, zI K 60000 ff19), (a5, zI K 60000 ff21), (a6, zI K 60000 ff23), (a7, zI K 60000 ff11), (a8, zI K 60000 ff13)] H := hP
  have hD : va_D A [(a0, zO 10 83 g0), (a1, zI K 210000 f1), (a2, zI K 60000 ff15), (a3, zI K 60000 ff17), (a4, zI K 60000 ff19), (a5, zI K 60000 ff21), (a6, zI K 60000 ff23), (a7, zI K 60000 ff11), (a8, zI K 60000 ff13)] := hD
  refine lv_aload_n hx hb dX12_movesCells_134 rfl (lv_at hl 3 rfl) ?_
  refine z_get (v := .ref a7) hx hb hg hown hK hP i_X12 rfl 0 rfl 38 (by decide) mt1318 e11 dX12_movesCells_135 ?_
  refine lv_iload_n hx hb dX12_movesCells_138 rfl (lv_at hl 1 rfl) ?_
  refine lv_iload_n hx hb dX12_movesCells_139 rfl (lv_at hl 0 rfl) ?_
  refine lv_if_ne (tgt := 149) hx hb dX12_movesCells_140 (by decide) (fun c => absurd (by decide) c) (fun _ => ?_)
  refine lv_iload_n hx hb dX12_movesCells_143 rfl (lv_at hl 2 rfl) ?_
  refine lv_bipush (v := 16) hx hb dX12_movesCells_144 (by decide) ?_
  refine lv_icmp_ge (tgt := 153) hx hb dX12_movesCells_146 (by decide) (fun c => absurd c (by decide)) (fun _ => ?_)
  refine lv_iconst (v := (-1)) hx hb dX12_movesCells_149 (by decide) ?_
  refine lv_goto (tgt := 163) hx hb dX12_movesCells_150 (by decide) ?_
  refine z_iast (j := 1) hx hb hK hP hD hS 7 rfl rfl (Nat.le_of_ble_eq_true rfl) (Nat.le_of_ble_eq_true rfl) dX12_movesCells_163 (fun ff25 H locs y26 hP hD hS => ?_)
  have hP : va_P K.1 classes [(a0, zO 10 83 g0), (a1, zI K 210000 f1), (a2, zI K 60000 ff15), (a3, zI K 60000 ff17), (a4, zI K 60000 ff19), (a5, zI K 60000 ff21), (a6, zI K 60000 ff23), (a7, zI K 60000 ff25), (a8, zI K 60000 ff13)] H := hP
  have hD : va_D A [(a0, zO 10 83 g0), (a1, zI K 210000 f1), (a2, zI K 60000 ff15), (a3, zI K 60000 ff17), (a4, zI K 60000 ff19), (a5, zI K 60000 ff21), (a6, zI K 60000 ff23), (a7, zI K 60000 ff25), (a8, zI K 60000 ff13)] := hD
  refine lv_aload_n hx hb dX12_movesCells_164 rfl (lv_at hl 3 rfl) ?_
  refine z_get (v := .ref a8) hx hb hg hown hK hP i_X12 rfl 0 rfl 39 (by decide) mt1319 e12 dX12_movesCells_165 ?_
  refine lv_iload_n hx hb dX12_movesCells_168 rfl (lv_at hl 1 rfl) ?_
  refine lv_aload_n hx hb dX12_movesCells_169 rfl (lv_at hl 3 rfl) ?_
  refine z_get (v := .ref a8) hx hb hg hown hK hP i_X12 rfl 0 rfl 39 (by decide) mt1319 e12 dX12_movesCells_170 ?_
  refine lv_iload_n hx hb dX12_movesCells_173 rfl (lv_at hl 2 rfl) ?_
  refine z_iald (v := 0) (j := 1) hx hb hK hP 8 rfl rfl (Nat.le_of_ble_eq_true rfl) (Nat.le_of_ble_eq_true rfl) (zu_of y14 (zu_ne (by decide) e18)) dX12_movesCells_174 ?_
  refine z_iast (j := 1) hx hb hK hP hD hS 8 rfl rfl (Nat.le_of_ble_eq_true rfl) (Nat.le_of_ble_eq_true rfl) dX12_movesCells_175 (fun ff27 H locs y28 hP hD hS => ?_)
  have hP : va_P K.1 classes [(a0, zO 10 83 g0), (a1, zI K 210000 f1), (a2, zI K 60000 ff15), (a3, zI K 60000 ff17), (a4, zI K 60000 ff19), (a5, zI K 60000 ff21), (a6, zI K 60000 ff23), (a7, zI K 60000 ff25), (a8, zI K 60000 ff27)] H := hP
  have hD : va_D A [(a0, zO 10 83 g0), (a1, zI K 210000 f1), (a2, zI K 60000 ff15), (a3, zI K 60000 ff17), (a4, zI K 60000 ff19), (a5, zI K 60000 ff21), (a6, zI K 60000 ff23), (a7, zI K 60000 ff25), (a8, zI K 60000 ff27)] := hD
  refine lv_iinc (v := 2) (lv' := [(1, .int 2), (3, .int 0), (2, .int 1), (0, .ref a0)]) hx hb dX12_movesCells_176 hl (k := 2) rfl (by decide +kernel) (by decide) rfl (fun ls hl => ?_)
  refine lv_goto (tgt := 2) hx hb dX12_movesCells_179 (by decide) ?_
  refine lv_iload_n hx hb dX12_movesCells_2 rfl (lv_at hl 0 rfl) ?_
  refine lv_aload_n hx hb dX12_movesCells_3 rfl (lv_at hl 3 rfl) ?_
  refine z_get (v := .int 16) hx hb hg hown hK hP i_X12 rfl 0 rfl 32 (by decide) mt1312 e0 dX12_movesCells_4 ?_
  refine lv_icmp_ge (tgt := 182) hx hb dX12_movesCells_7 (by decide) (fun c => absurd c (by decide)) (fun _ => ?_)
  refine lv_aload_n hx hb dX12_movesCells_10 rfl (lv_at hl 3 rfl) ?_
  refine z_get (v := .ref a1) hx hb hg hown hK hP i_X12 rfl 0 rfl 52 (by decide) mt1332 e1 dX12_movesCells_11 ?_
  refine lv_iload_n hx hb dX12_movesCells_14 rfl (lv_at hl 0 rfl) ?_
  refine z_iald (v := 2) (j := 2) hx hb hK hP 1 rfl rfl (Nat.le_of_ble_eq_true rfl) (Nat.le_of_ble_eq_true rfl) e19 dX12_movesCells_15 ?_
  refine lv_istore_n (lv' := [(2, .int 2), (1, .int 2), (3, .int 0), (0, .ref a0)]) hx hb dX12_movesCells_16 rfl hl (by decide) rfl (fun ls hl => ?_)
  refine lv_iload_n hx hb dX12_movesCells_17 rfl (lv_at hl 0 rfl) ?_
  refine lv_iconst (v := (-1)) hx hb dX12_movesCells_18 (by decide) ?_
  refine lv_icmp_eq (tgt := 176) hx hb dX12_movesCells_19 (by decide) (fun c => absurd c (by decide)) (fun _ => ?_)
  refine lv_aload_n hx hb dX12_movesCells_22 rfl (lv_at hl 3 rfl) ?_
  refine z_get (v := .ref a2) hx hb hg hown hK hP i_X12 rfl 0 rfl 33 (by decide) mt1313 e3 dX12_movesCells_23 ?_
  refine lv_iload_n hx hb dX12_movesCells_26 rfl (lv_at hl 1 rfl) ?_
  refine z_iald (v := 0) (j := 2) hx hb hK hP 2 rfl rfl (Nat.le_of_ble_eq_true rfl) (Nat.le_of_ble_eq_true rfl) (zu_of y16 (zu_ne (by decide) (zu_of y2 (zu_ne (by decide) e20)))) dX12_movesCells_27 ?_
  refine lv_iconst (v := 2) hx hb dX12_movesCells_28 (by decide) ?_
  refine lv_icmp_ne (tgt := 36) hx hb dX12_movesCells_29 (by decide) (fun _ => ?_) (fun c => absurd c (by decide))
  refine lv_iconst (v := 0) hx hb dX12_movesCells_36 (by decide) ?_
  refine lv_istore_n (lv' := [(3, .int 0), (2, .int 2), (1, .int 2), (0, .ref a0)]) hx hb dX12_movesCells_37 rfl hl (by decide) rfl (fun ls hl => ?_)
  refine lv_aload_n hx hb dX12_movesCells_38 rfl (lv_at hl 3 rfl) ?_
  refine z_get (v := .ref a2) hx hb hg hown hK hP i_X12 rfl 0 rfl 33 (by decide) mt1313 e3 dX12_movesCells_39 ?_
  refine lv_iload_n hx hb dX12_movesCells_42 rfl (lv_at hl 1 rfl) ?_
  refine lv_aload_n hx hb dX12_movesCells_43 rfl (lv_at hl 3 rfl) ?_
  refine z_get (v := .ref a2) hx hb hg hown hK hP i_X12 rfl 0 rfl 33 (by decide) mt1313 e3 dX12_movesCells_44 ?_
  refine lv_iload_n hx hb dX12_movesCells_47 rfl (lv_at hl 2 rfl) ?_
  refine z_iald (v := 0) (j := 2) hx hb hK hP 2 rfl rfl (Nat.le_of_ble_eq_true rfl) (Nat.le_of_ble_eq_true rfl) (zu_of y16 (zu_ne (by decide) (zu_of y2 (zu_ne (by decide) e20)))) dX12_movesCells_48 ?_
  refine z_iast (j := 2) hx hb hK hP hD hS 2 rfl rfl (Nat.le_of_ble_eq_true rfl) (Nat.le_of_ble_eq_true rfl) dX12_movesCells_49 (fun ff29 H locs y30 hP hD hS => ?_)
  have hP : va_P K.1 classes [(a0, zO 10 83 g0), (a1, zI K 210000 f1), (a2, zI K 60000 ff29), (a3, zI K 60000 ff17), (a4, zI K 60000 ff19), (a5, zI K 60000 ff21), (a6, zI K 60000 ff23), (a7, zI K 60000 ff25), (a8, zI K 60000 ff27)] H := hP
  have hD : va_D A [(a0, zO 10 83 g0), (a1, zI K 210000 f1), (a2, zI K 60000 ff29), (a3, zI K 60000 ff17), (a4, zI K 60000 ff19), (a5, zI K 60000 ff21), (a6, zI K 60000 ff23), (a7, zI K 60000 ff25), (a8, zI K 60000 ff27)] := hD
  refine lv_aload_n hx hb dX12_movesCells_50 rfl (lv_at hl 3 rfl) ?_
  refine z_get (v := .ref a3) hx hb hg hown hK hP i_X12 rfl 0 rfl 34 (by decide) mt1314 e5 dX12_movesCells_51 ?_
  refine lv_iload_n hx hb dX12_movesCells_54 rfl (lv_at hl 1 rfl) ?_
  refine lv_aload_n hx hb dX12_movesCells_55 rfl (lv_at hl 3 rfl) ?_
  refine z_get (v := .ref a3) hx hb hg hown hK hP i_X12 rfl 0 rfl 34 (by decide) mt1314 e5 dX12_movesCells_56 ?_
  refine lv_iload_n hx hb dX12_movesCells_59 rfl (lv_at hl 2 rfl) ?_
  refine z_iald (v := 0) (j := 2) hx hb hK hP 3 rfl rfl (Nat.le_of_ble_eq_true rfl) (Nat.le_of_ble_eq_true rfl) (zu_of y18 (zu_ne (by decide) (zu_of y4 (zu_ne (by decide) e21)))) dX12_movesCells_60 ?_
  refine z_iast (j := 2) hx hb hK hP hD hS 3 rfl rfl (Nat.le_of_ble_eq_true rfl) (Nat.le_of_ble_eq_true rfl) dX12_movesCells_61 (fun ff31 H locs y32 hP hD hS => ?_)
  have hP : va_P K.1 classes [(a0, zO 10 83 g0), (a1, zI K 210000 f1), (a2, zI K 60000 ff29), (a3, zI K 60000 ff31), (a4, zI K 60000 ff19), (a5, zI K 60000 ff21), (a6, zI K 60000 ff23), (a7, zI K 60000 ff25), (a8, zI K 60000 ff27)] H := hP
  have hD : va_D A [(a0, zO 10 83 g0), (a1, zI K 210000 f1), (a2, zI K 60000 ff29), (a3, zI K 60000 ff31), (a4, zI K 60000 ff19), (a5, zI K 60000 ff21), (a6, zI K 60000 ff23), (a7, zI K 60000 ff25), (a8, zI K 60000 ff27)] := hD
  refine lv_aload_n hx hb dX12_movesCells_62 rfl (lv_at hl 3 rfl) ?_
  refine z_get (v := .ref a4) hx hb hg hown hK hP i_X12 rfl 0 rfl 35 (by decide) mt1315 e7 dX12_movesCells_63 ?_
  refine lv_iload_n hx hb dX12_movesCells_66 rfl (lv_at hl 1 rfl) ?_
  refine lv_iload_n hx hb dX12_movesCells_67 rfl (lv_at hl 0 rfl) ?_
  refine lv_if_eq (tgt := 90) hx hb dX12_movesCells_68 (by decide) (fun _ => ?_) (fun c => absurd (by decide) c)
  refine lv_iconst (v := 0) hx hb dX12_movesCells_90 (by decide) ?_
  refine z_iast (j := 2) hx hb hK hP hD hS 4 rfl rfl (Nat.le_of_ble_eq_true rfl) (Nat.le_of_ble_eq_true rfl) dX12_movesCells_91 (fun ff33 H locs y34 hP hD hS => ?_)
  have hP : va_P K.1 classes [(a0, zO 10 83 g0), (a1, zI K 210000 f1), (a2, zI K 60000 ff29), (a3, zI K 60000 ff31), (a4, zI K 60000 ff33), (a5, zI K 60000 ff21), (a6, zI K 60000 ff23), (a7, zI K 60000 ff25), (a8, zI K 60000 ff27)] H := hP
  have hD : va_D A [(a0, zO 10 83 g0), (a1, zI K 210000 f1), (a2, zI K 60000 ff29), (a3, zI K 60000 ff31), (a4, zI K 60000 ff33), (a5, zI K 60000 ff21), (a6, zI K 60000 ff23), (a7, zI K 60000 ff25), (a8, zI K 60000 ff27)] := hD
  refine lv_aload_n hx hb dX12_movesCells_92 rfl (lv_at hl 3 rfl) ?_
  refine z_get (v := .ref a5) hx hb hg hown hK hP i_X12 rfl 0 rfl 36 (by decide) mt1316 e8 dX12_movesCells_93 ?_
  refine lv_iload_n hx hb dX12_movesCells_96 rfl (lv_at hl 1 rfl) ?_
  refine lv_iload_n hx hb dX12_movesCells_97 rfl (lv_at hl 0 rfl) ?_
  refine lv_if_eq (tgt := 120) hx hb dX12_movesCells_98 (by decide) (fun _ => ?_) (fun c => absurd (by decide) c)
  refine lv_iconst (v := 0) hx hb dX12_movesCells_120 (by decide) ?_
  refine z_iast (j := 2) hx hb hK hP hD hS 5 rfl rfl (Nat.le_of_ble_eq_true rfl) (Nat.le_of_ble_eq_true rfl) dX12_movesCells_121 (fun ff35 H locs y36 hP hD hS => ?_)
  have hP : va_P K.1 classes [(a0, zO 10 83 g0), (a1, zI K 210000 f1), (a2, zI K 60000 ff29), (a3, zI K 60000 ff31), (a4, zI K 60000 ff33), (a5, zI K 60000 ff35), (a6, zI K 60000 ff23), (a7, zI K 60000 ff25), (a8, zI K 60000 ff27)] H := hP
  have hD : va_D A [(a0, zO 10 83 g0), (a1, zI K 210000 f1), (a2, zI K 60000 ff29), (a3, zI K 60000 ff31), (a4, zI K 60000 ff33), (a5, zI K 60000 ff35), (a6, zI K 60000 ff23), (a7, zI K 60000 ff25), (a8, zI K 60000 ff27)] := hD
  refine lv_aload_n hx hb dX12_movesCells_122 rfl (lv_at hl 3 rfl) ?_
  refine z_get (v := .ref a6) hx hb hg hown hK hP i_X12 rfl 0 rfl 37 (by decide) mt1317 e9 dX12_movesCells_123 ?_
  refine lv_iload_n hx hb dX12_movesCells_126 rfl (lv_at hl 1 rfl) ?_
  refine lv_aload_n hx hb dX12_movesCells_127 rfl (lv_at hl 3 rfl) ?_
  refine z_get (v := .ref a6) hx hb hg hown hK hP i_X12 rfl 0 rfl 37 (by decide) mt1317 e9 dX12_movesCells_128 ?_
  refine lv_iload_n hx hb dX12_movesCells_131 rfl (lv_at hl 2 rfl) ?_
  refine z_iald (v := 0) (j := 2) hx hb hK hP 6 rfl rfl (Nat.le_of_ble_eq_true rfl) (Nat.le_of_ble_eq_true rfl) (zu_of y24 (zu_ne (by decide) (zu_of y10 (zu_ne (by decide) e22)))) dX12_movesCells_132 ?_
  refine z_iast (j := 2) hx hb hK hP hD hS 6 rfl rfl (Nat.le_of_ble_eq_true rfl) (Nat.le_of_ble_eq_true rfl) dX12_movesCells_133 (fun ff37 H locs y38 hP hD hS => ?_)
  have hP : va_P K.1 classes [(a0, zO 10 83 g0), (a1, zI K 210000 f1), (a2, zI K 60000 ff29), (a3, zI K 60000 ff31), (a4, zI K 60000 ff33), (a5, zI K 60000 ff35), (a6, zI K 60000 ff37), (a7, zI K 60000 ff25), (a8, zI K 60000 ff27)] H := hP
  have hD : va_D A [(a0, zO 10 83 g0), (a1, zI K 210000 f1), (a2, zI K 60000 ff29), (a3, zI K 60000 ff31), (a4, zI K 60000 ff33), (a5, zI K 60000 ff35), (a6, zI K 60000 ff37), (a7, zI K 60000 ff25), (a8, zI K 60000 ff27)] := hD
  refine lv_aload_n hx hb dX12_movesCells_134 rfl (lv_at hl 3 rfl) ?_
  refine z_get (v := .ref a7) hx hb hg hown hK hP i_X12 rfl 0 rfl 38 (by decide) mt1318 e11 dX12_movesCells_135 ?_
  refine lv_iload_n hx hb dX12_movesCells_138 rfl (lv_at hl 1 rfl) ?_
  refine lv_iload_n hx hb dX12_movesCells_139 rfl (lv_at hl 0 rfl) ?_
  refine lv_if_ne (tgt := 149) hx hb dX12_movesCells_140 (by decide) (fun c => absurd (by decide) c) (fun _ => ?_)
  refine lv_iload_n hx hb dX12_movesCells_143 rfl (lv_at hl 2 rfl) ?_
  refine lv_bipush (v := 16) hx hb dX12_movesCells_144 (by decide) ?_
  refine lv_icmp_ge (tgt := 153) hx hb dX12_movesCells_146 (by decide) (fun c => absurd c (by decide)) (fun _ => ?_)
  refine lv_iconst (v := (-1)) hx hb dX12_movesCells_149 (by decide) ?_
  refine lv_goto (tgt := 163) hx hb dX12_movesCells_150 (by decide) ?_
  refine z_iast (j := 2) hx hb hK hP hD hS 7 rfl rfl (Nat.le_of_ble_eq_true rfl) (Nat.le_of_ble_eq_true rfl) dX12_movesCells_163 (fun ff39 H locs y40 hP hD hS => ?_)
  have hP : va_P K.1 classes [(a0, zO 10 83 g0), (a1, zI K 210000 f1), (a2, zI K 60000 ff29), (a3, zI K 60000 ff31), (a4, zI K 60000 ff33), (a5, zI K 60000 ff35), (a6, zI K 60000 ff37), (a7, zI K 60000 ff39), (a8, zI K 60000 ff27)] H := hP
  have hD : va_D A [(a0, zO 10 83 g0), (a1, zI K 210000 f1), (a2, zI K 60000 ff29), (a3, zI K 60000 ff31), (a4, zI K 60000 ff33), (a5, zI K 60000 ff35), (a6, zI K 60000 ff37), (a7, zI K 60000 ff39), (a8, zI K 60000 ff27)] := hD
  refine lv_aload_n hx hb dX12_movesCells_164 rfl (lv_at hl 3 rfl) ?_
  refine z_get (v := .ref a8) hx hb hg hown hK hP i_X12 rfl 0 rfl 39 (by decide) mt1319 e12 dX12_movesCells_165 ?_
  refine lv_iload_n hx hb dX12_movesCells_168 rfl (lv_at hl 1 rfl) ?_
  refine lv_aload_n hx hb dX12_movesCells_169 rfl (lv_at hl 3 rfl) ?_
  refine z_get (v := .ref a8) hx hb hg hown hK hP i_X12 rfl 0 rfl 39 (by decide) mt1319 e12 dX12_movesCells_170 ?_
  refine lv_iload_n hx hb dX12_movesCells_173 rfl (lv_at hl 2 rfl) ?_
  refine z_iald (v := 0) (j := 2) hx hb hK hP 8 rfl rfl (Nat.le_of_ble_eq_true rfl) (Nat.le_of_ble_eq_true rfl) (zu_of y28 (zu_ne (by decide) (zu_of y14 (zu_ne (by decide) e23)))) dX12_movesCells_174 ?_
  refine z_iast (j := 2) hx hb hK hP hD hS 8 rfl rfl (Nat.le_of_ble_eq_true rfl) (Nat.le_of_ble_eq_true rfl) dX12_movesCells_175 (fun ff41 H locs y42 hP hD hS => ?_)
  have hP : va_P K.1 classes [(a0, zO 10 83 g0), (a1, zI K 210000 f1), (a2, zI K 60000 ff29), (a3, zI K 60000 ff31), (a4, zI K 60000 ff33), (a5, zI K 60000 ff35), (a6, zI K 60000 ff37), (a7, zI K 60000 ff39), (a8, zI K 60000 ff41)] H := hP
  have hD : va_D A [(a0, zO 10 83 g0), (a1, zI K 210000 f1), (a2, zI K 60000 ff29), (a3, zI K 60000 ff31), (a4, zI K 60000 ff33), (a5, zI K 60000 ff35), (a6, zI K 60000 ff37), (a7, zI K 60000 ff39), (a8, zI K 60000 ff41)] := hD
  refine lv_iinc (v := 3) (lv' := [(1, .int 3), (3, .int 0), (2, .int 2), (0, .ref a0)]) hx hb dX12_movesCells_176 hl (k := 2) rfl (by decide +kernel) (by decide) rfl (fun ls hl => ?_)
  refine lv_goto (tgt := 2) hx hb dX12_movesCells_179 (by decide) ?_
  refine lv_iload_n hx hb dX12_movesCells_2 rfl (lv_at hl 0 rfl) ?_
  refine lv_aload_n hx hb dX12_movesCells_3 rfl (lv_at hl 3 rfl) ?_
  refine z_get (v := .int 16) hx hb hg hown hK hP i_X12 rfl 0 rfl 32 (by decide) mt1312 e0 dX12_movesCells_4 ?_
  refine lv_icmp_ge (tgt := 182) hx hb dX12_movesCells_7 (by decide) (fun c => absurd c (by decide)) (fun _ => ?_)
  refine lv_aload_n hx hb dX12_movesCells_10 rfl (lv_at hl 3 rfl) ?_
  refine z_get (v := .ref a1) hx hb hg hown hK hP i_X12 rfl 0 rfl 52 (by decide) mt1332 e1 dX12_movesCells_11 ?_
  refine lv_iload_n hx hb dX12_movesCells_14 rfl (lv_at hl 0 rfl) ?_
  refine z_iald (v := 3) (j := 3) hx hb hK hP 1 rfl rfl (Nat.le_of_ble_eq_true rfl) (Nat.le_of_ble_eq_true rfl) e24 dX12_movesCells_15 ?_
  refine lv_istore_n (lv' := [(2, .int 3), (1, .int 3), (3, .int 0), (0, .ref a0)]) hx hb dX12_movesCells_16 rfl hl (by decide) rfl (fun ls hl => ?_)
  refine lv_iload_n hx hb dX12_movesCells_17 rfl (lv_at hl 0 rfl) ?_
  refine lv_iconst (v := (-1)) hx hb dX12_movesCells_18 (by decide) ?_
  refine lv_icmp_eq (tgt := 176) hx hb dX12_movesCells_19 (by decide) (fun c => absurd c (by decide)) (fun _ => ?_)
  refine lv_aload_n hx hb dX12_movesCells_22 rfl (lv_at hl 3 rfl) ?_
  refine z_get (v := .ref a2) hx hb hg hown hK hP i_X12 rfl 0 rfl 33 (by decide) mt1313 e3 dX12_movesCells_23 ?_
  refine lv_iload_n hx hb dX12_movesCells_26 rfl (lv_at hl 1 rfl) ?_
  refine z_iald (v := 0) (j := 3) hx hb hK hP 2 rfl rfl (Nat.le_of_ble_eq_true rfl) (Nat.le_of_ble_eq_true rfl) (zu_of y30 (zu_ne (by decide) (zu_of y16 (zu_ne (by decide) (zu_of y2 (zu_ne (by decide) e25)))))) dX12_movesCells_27 ?_
  refine lv_iconst (v := 2) hx hb dX12_movesCells_28 (by decide) ?_
  refine lv_icmp_ne (tgt := 36) hx hb dX12_movesCells_29 (by decide) (fun _ => ?_) (fun c => absurd c (by decide))
  refine lv_iconst (v := 0) hx hb dX12_movesCells_36 (by decide) ?_
  refine lv_istore_n (lv' := [(3, .int 0), (2, .int 3), (1, .int 3), (0, .ref a0)]) hx hb dX12_movesCells_37 rfl hl (by decide) rfl (fun ls hl => ?_)
  refine lv_aload_n hx hb dX12_movesCells_38 rfl (lv_at hl 3 rfl) ?_
  refine z_get (v := .ref a2) hx hb hg hown hK hP i_X12 rfl 0 rfl 33 (by decide) mt1313 e3 dX12_movesCells_39 ?_
  refine lv_iload_n hx hb dX12_movesCells_42 rfl (lv_at hl 1 rfl) ?_
  refine lv_aload_n hx hb dX12_movesCells_43 rfl (lv_at hl 3 rfl) ?_
  refine z_get (v := .ref a2) hx hb hg hown hK hP i_X12 rfl 0 rfl 33 (by decide) mt1313 e3 dX12_movesCells_44 ?_
  refine lv_iload_n hx hb dX12_movesCells_47 rfl (lv_at hl 2 rfl) ?_
  refine z_iald (v := 0) (j := 3) hx hb hK hP 2 rfl rfl (Nat.le_of_ble_eq_true rfl) (Nat.le_of_ble_eq_true rfl) (zu_of y30 (zu_ne (by decide) (zu_of y16 (zu_ne (by decide) (zu_of y2 (zu_ne (by decide) e25)))))) dX12_movesCells_48 ?_
  refine z_iast (j := 3) hx hb hK hP hD hS 2 rfl rfl (Nat.le_of_ble_eq_true rfl) (Nat.le_of_ble_eq_true rfl) dX12_movesCells_49 (fun ff43 H locs y44 hP hD hS => ?_)
  have hP : va_P K.1 classes [(a0, zO 10 83 g0), (a1, zI K 210000 f1), (a2, zI K 60000 ff43), (a3, zI K 60000 ff31), (a4, zI K 60000 ff33), (a5, zI K 60000 ff35), (a6, zI K 60000 ff37), (a7, zI K 60000 ff39), (a8, zI K 60000 ff41)] H := hP
  have hD : va_D A [(a0, zO 10 83 g0), (a1, zI K 210000 f1), (a2, zI K 60000 ff43), (a3, zI K 60000 ff31), (a4, zI K 60000 ff33), (a5, zI K 60000 ff35), (a6, zI K 60000 ff37), (a7, zI K 60000 ff39), (a8, zI K 60000 ff41)] := hD
  refine lv_aload_n hx hb dX12_movesCells_50 rfl (lv_at hl 3 rfl) ?_
  refine z_get (v := .ref a3) hx hb hg hown hK hP i_X12 rfl 0 rfl 34 (by decide) mt1314 e5 dX12_movesCells_51 ?_
  refine lv_iload_n hx hb dX12_movesCells_54 rfl (lv_at hl 1 rfl) ?_
  refine lv_aload_n hx hb dX12_movesCells_55 rfl (lv_at hl 3 rfl) ?_
  refine z_get (v := .ref a3) hx hb hg hown hK hP i_X12 rfl 0 rfl 34 (by decide) mt1314 e5 dX12_movesCells_56 ?_
  refine lv_iload_n hx hb dX12_movesCells_59 rfl (lv_at hl 2 rfl) ?_
  refine z_iald (v := 0) (j := 3) hx hb hK hP 3 rfl rfl (Nat.le_of_ble_eq_true rfl) (Nat.le_of_ble_eq_true rfl) (zu_of y32 (zu_ne (by decide) (zu_of y18 (zu_ne (by decide) (zu_of y4 (zu_ne (by decide) e26)))))) dX12_movesCells_60 ?_
  refine z_iast (j := 3) hx hb hK hP hD hS 3 rfl rfl (Nat.le_of_ble_eq_true rfl) (Nat.le_of_ble_eq_true rfl) dX12_movesCells_61 (fun ff45 H locs y46 hP hD hS => ?_)
  have hP : va_P K.1 classes [(a0, zO 10 83 g0), (a1, zI K 210000 f1), (a2, zI K 60000 ff43), (a3, zI K 60000 ff45), (a4, zI K 60000 ff33), (a5, zI K 60000 ff35), (a6, zI K 60000 ff37), (a7, zI K 60000 ff39), (a8, zI K 60000 ff41)] H := hP
  have hD : va_D A [(a0, zO 10 83 g0), (a1, zI K 210000 f1), (a2, zI K 60000 ff43), (a3, zI K 60000 ff45), (a4, zI K 60000 ff33), (a5, zI K 60000 ff35), (a6, zI K 60000 ff37), (a7, zI K 60000 ff39), (a8, zI K 60000 ff41)] := hD
  refine lv_aload_n hx hb dX12_movesCells_62 rfl (lv_at hl 3 rfl) ?_
  refine z_get (v := .ref a4) hx hb hg hown hK hP i_X12 rfl 0 rfl 35 (by decide) mt1315 e7 dX12_movesCells_63 ?_
  refine lv_iload_n hx hb dX12_movesCells_66 rfl (lv_at hl 1 rfl) ?_
  refine lv_iload_n hx hb dX12_movesCells_67 rfl (lv_at hl 0 rfl) ?_
  refine lv_if_eq (tgt := 90) hx hb dX12_movesCells_68 (by decide) (fun _ => ?_) (fun c => absurd (by decide) c)
  refine lv_iconst (v := 0) hx hb dX12_movesCells_90 (by decide) ?_
  refine z_iast (j := 3) hx hb hK hP hD hS 4 rfl rfl (Nat.le_of_ble_eq_true rfl) (Nat.le_of_ble_eq_true rfl) dX12_movesCells_91 (fun ff47 H locs y48 hP hD hS => ?_)
  have hP : va_P K.1 classes [(a0, zO 10 83 g0), (a1, zI K 210000 f1), (a2, zI K 60000 ff43), (a3, zI K 60000 ff45), (a4, zI K 60000 ff47), (a5, zI K 60000 ff35), (a6, zI K 60000 ff37), (a7, zI K 60000 ff39), (a8, zI K 60000 ff41)] H := hP
  have hD : va_D A [(a0, zO 10 83 g0), (a1, zI K 210000 f1), (a2, zI K 60000 ff43), (a3, zI K 60000 ff45), (a4, zI K 60000 ff47), (a5, zI K 60000 ff35), (a6, zI K 60000 ff37), (a7, zI K 60000 ff39), (a8, zI K 60000 ff41)] := hD
  refine lv_aload_n hx hb dX12_movesCells_92 rfl (lv_at hl 3 rfl) ?_
  refine z_get (v := .ref a5) hx hb hg hown hK hP i_X12 rfl 0 rfl 36 (by decide) mt1316 e8 dX12_movesCells_93 ?_
  refine lv_iload_n hx hb dX12_movesCells_96 rfl (lv_at hl 1 rfl) ?_
  refine lv_iload_n hx hb dX12_movesCells_97 rfl (lv_at hl 0 rfl) ?_
  refine lv_if_eq (tgt := 120) hx hb dX12_movesCells_98 (by decide) (fun _ => ?_) (fun c => absurd (by decide) c)
  refine lv_iconst (v := 0) hx hb dX12_movesCells_120 (by decide) ?_
  refine z_iast (j := 3) hx hb hK hP hD hS 5 rfl rfl (Nat.le_of_ble_eq_true rfl) (Nat.le_of_ble_eq_true rfl) dX12_movesCells_121 (fun ff49 H locs y50 hP hD hS => ?_)
  have hP : va_P K.1 classes [(a0, zO 10 83 g0), (a1, zI K 210000 f1), (a2, zI K 60000 ff43), (a3, zI K 60000 ff45), (a4, zI K 60000 ff47), (a5, zI K 60000 ff49), (a6, zI K 60000 ff37), (a7, zI K 60000 ff39), (a8, zI K 60000 ff41)] H := hP
  have hD : va_D A [(a0, zO 10 83 g0), (a1, zI K 210000 f1), (a2, zI K 60000 ff43), (a3, zI K 60000 ff45), (a4, zI K 60000 ff47), (a5, zI K 60000 ff49), (a6, zI K 60000 ff37), (a7, zI K 60000 ff39), (a8, zI K 60000 ff41)] := hD
  refine lv_aload_n hx hb dX12_movesCells_122 rfl (lv_at hl 3 rfl) ?_
  refine z_get (v := .ref a6) hx hb hg hown hK hP i_X12 rfl 0 rfl 37 (by decide) mt1317 e9 dX12_movesCells_123 ?_
  refine lv_iload_n hx hb dX12_movesCells_126 rfl (lv_at hl 1 rfl) ?_
  refine lv_aload_n hx hb dX12_movesCells_127 rfl (lv_at hl 3 rfl) ?_
  refine z_get (v := .ref a6) hx hb hg hown hK hP i_X12 rfl 0 rfl 37 (by decide) mt1317 e9 dX12_movesCells_128 ?_
  refine lv_iload_n hx hb dX12_movesCells_131 rfl (lv_at hl 2 rfl) ?_
  refine z_iald (v := 0) (j := 3) hx hb hK hP 6 rfl rfl (Nat.le_of_ble_eq_true rfl) (Nat.le_of_ble_eq_true rfl) (zu_of y38 (zu_ne (by decide) (zu_of y24 (zu_ne (by decide) (zu_of y10 (zu_ne (by decide) e27)))))) dX12_movesCells_132 ?_
  refine z_iast (j := 3) hx hb hK hP hD hS 6 rfl rfl (Nat.le_of_ble_eq_true rfl) (Nat.le_of_ble_eq_true rfl) dX12_movesCells_133 (fun ff51 H locs y52 hP hD hS => ?_)
  have hP : va_P K.1 classes [(a0, zO 10 83 g0), (a1, zI K 210000 f1), (a2, zI K 60000 ff43), (a3, zI K 60000 ff45), (a4, zI K 60000 ff47), (a5, zI K 60000 ff49), (a6, zI K 60000 ff51), (a7, zI K 60000 ff39), (a8, zI K 60000 ff41)] H := hP
  have hD : va_D A [(a0, zO 10 83 g0), (a1, zI K 210000 f1), (a2, zI K 60000 ff43), (a3, zI K 60000 ff45), (a4, zI K 60000 ff47), (a5, zI K 60000 ff49), (a6, zI K 60000 ff51), (a7, zI K 60000 ff39), (a8, zI K 60000 ff41)] := hD
  refine lv_aload_n hx hb dX12_movesCells_134 rfl (lv_at hl 3 rfl) ?_
  refine z_get (v := .ref a7) hx hb hg hown hK hP i_X12 rfl 0 rfl 38 (by decide) mt1318 e11 dX12_movesCells_135 ?_
  refine lv_iload_n hx hb dX12_movesCells_138 rfl (lv_at hl 1 rfl) ?_
  refine lv_iload_n hx hb dX12_movesCells_139 rfl (lv_at hl 0 rfl) ?_
  refine lv_if_ne (tgt := 149) hx hb dX12_movesCells_140 (by decide) (fun c => absurd (by decide) c) (fun _ => ?_)
  refine lv_iload_n hx hb dX12_movesCells_143 rfl (lv_at hl 2 rfl) ?_
  refine lv_bipush (v := 16) hx hb dX12_movesCells_144 (by decide) ?_
  refine lv_icmp_ge (tgt := 153) hx hb dX12_movesCells_146 (by decide) (fun c => absurd c (by decide)) (fun _ => ?_)
  refine lv_iconst (v := (-1)) hx hb dX12_movesCells_149 (by decide) ?_
  refine lv_goto (tgt := 163) hx hb dX12_movesCells_150 (by decide) ?_
  refine z_iast (j := 3) hx hb hK hP hD hS 7 rfl rfl (Nat.le_of_ble_eq_true rfl) (Nat.le_of_ble_eq_true rfl) dX12_movesCells_163 (fun ff53 H locs y54 hP hD hS => ?_)
  have hP : va_P K.1 classes [(a0, zO 10 83 g0), (a1, zI K 210000 f1), (a2, zI K 60000 ff43), (a3, zI K 60000 ff45), (a4, zI K 60000 ff47), (a5, zI K 60000 ff49), (a6, zI K 60000 ff51), (a7, zI K 60000 ff53), (a8, zI K 60000 ff41)] H := hP
  have hD : va_D A [(a0, zO 10 83 g0), (a1, zI K 210000 f1), (a2, zI K 60000 ff43), (a3, zI K 60000 ff45), (a4, zI K 60000 ff47), (a5, zI K 60000 ff49), (a6, zI K 60000 ff51), (a7, zI K 60000 ff53), (a8, zI K 60000 ff41)] := hD
  refine lv_aload_n hx hb dX12_movesCells_164 rfl (lv_at hl 3 rfl) ?_
  refine z_get (v := .ref a8) hx hb hg hown hK hP i_X12 rfl 0 rfl 39 (by decide) mt1319 e12 dX12_movesCells_165 ?_
  refine lv_iload_n hx hb dX12_movesCells_168 rfl (lv_at hl 1 rfl) ?_
  refine lv_aload_n hx hb dX12_movesCells_169 rfl (lv_at hl 3 rfl) ?_
  refine z_get (v := .ref a8) hx hb hg hown hK hP i_X12 rfl 0 rfl 39 (by decide) mt1319 e12 dX12_movesCells_170 ?_
  refine lv_iload_n hx hb dX12_movesCells_173 rfl (lv_at hl 2 rfl) ?_
  refine z_iald (v := 0) (j := 3) hx hb hK hP 8 rfl rfl (Nat.le_of_ble_eq_true rfl) (Nat.le_of_ble_eq_true rfl) (zu_of y42 (zu_ne (by decide) (zu_of y28 (zu_ne (by decide) (zu_of y14 (zu_ne (by decide) e28)))))) dX12_movesCells_174 ?_
  refine z_iast (j := 3) hx hb hK hP hD hS 8 rfl rfl (Nat.le_of_ble_eq_true rfl) (Nat.le_of_ble_eq_true rfl) dX12_movesCells_175 (fun ff55 H locs y56 hP hD hS => ?_)
  have hP : va_P K.1 classes [(a0, zO 10 83 g0), (a1, zI K 210000 f1), (a2, zI K 60000 ff43), (a3, zI K 60000 ff45), (a4, zI K 60000 ff47), (a5, zI K 60000 ff49), (a6, zI K 60000 ff51), (a7, zI K 60000 ff53), (a8, zI K 60000 ff55)] H := hP
  have hD : va_D A [(a0, zO 10 83 g0), (a1, zI K 210000 f1), (a2, zI K 60000 ff43), (a3, zI K 60000 ff45), (a4, zI K 60000 ff47), (a5, zI K 60000 ff49), (a6, zI K 60000 ff51), (a7, zI K 60000 ff53), (a8, zI K 60000 ff55)] := hD
  refine lv_iinc (v := 4) (lv' := [(1, .int 4), (3, .int 0), (2, .int 3), (0, .ref a0)]) hx hb dX12_movesCells_176 hl (k := 2) rfl (by decide +kernel) (by decide) rfl (fun ls hl => ?_)
  refine lv_goto (tgt := 2) hx hb dX12_movesCells_179 (by decide) ?_
  refine lv_iload_n hx hb dX12_movesCells_2 rfl (lv_at hl 0 rfl) ?_
  refine lv_aload_n hx hb dX12_movesCells_3 rfl (lv_at hl 3 rfl) ?_
  refine z_get (v := .int 16) hx hb hg hown hK hP i_X12 rfl 0 rfl 32 (by decide) mt1312 e0 dX12_movesCells_4 ?_
  refine lv_icmp_ge (tgt := 182) hx hb dX12_movesCells_7 (by decide) (fun c => absurd c (by decide)) (fun _ => ?_)
  refine lv_aload_n hx hb dX12_movesCells_10 rfl (lv_at hl 3 rfl) ?_
  refine z_get (v := .ref a1) hx hb hg hown hK hP i_X12 rfl 0 rfl 52 (by decide) mt1332 e1 dX12_movesCells_11 ?_
  refine lv_iload_n hx hb dX12_movesCells_14 rfl (lv_at hl 0 rfl) ?_
  refine z_iald (v := 4) (j := 4) hx hb hK hP 1 rfl rfl (Nat.le_of_ble_eq_true rfl) (Nat.le_of_ble_eq_true rfl) e29 dX12_movesCells_15 ?_
  refine lv_istore_n (lv' := [(2, .int 4), (1, .int 4), (3, .int 0), (0, .ref a0)]) hx hb dX12_movesCells_16 rfl hl (by decide) rfl (fun ls hl => ?_)
  refine lv_iload_n hx hb dX12_movesCells_17 rfl (lv_at hl 0 rfl) ?_
  refine lv_iconst (v := (-1)) hx hb dX12_movesCells_18 (by decide) ?_
  refine lv_icmp_eq (tgt := 176) hx hb dX12_movesCells_19 (by decide) (fun c => absurd c (by decide)) (fun _ => ?_)
  refine lv_aload_n hx hb dX12_movesCells_22 rfl (lv_at hl 3 rfl) ?_
  refine z_get (v := .ref a2) hx hb hg hown hK hP i_X12 rfl 0 rfl 33 (by decide) mt1313 e3 dX12_movesCells_23 ?_
  refine lv_iload_n hx hb dX12_movesCells_26 rfl (lv_at hl 1 rfl) ?_
  refine z_iald (v := 0) (j := 4) hx hb hK hP 2 rfl rfl (Nat.le_of_ble_eq_true rfl) (Nat.le_of_ble_eq_true rfl) (zu_of y44 (zu_ne (by decide) (zu_of y30 (zu_ne (by decide) (zu_of y16 (zu_ne (by decide) (zu_of y2 (zu_ne (by decide) e30)))))))) dX12_movesCells_27 ?_
  refine lv_iconst (v := 2) hx hb dX12_movesCells_28 (by decide) ?_
  refine lv_icmp_ne (tgt := 36) hx hb dX12_movesCells_29 (by decide) (fun _ => ?_) (fun c => absurd c (by decide))
  refine lv_iconst (v := 0) hx hb dX12_movesCells_36 (by decide) ?_
  refine lv_istore_n (lv' := [(3, .int 0), (2, .int 4), (1, .int 4), (0, .ref a0)]) hx hb dX12_movesCells_37 rfl hl (by decide) rfl (fun ls hl => ?_)
  refine lv_aload_n hx hb dX12_movesCells_38 rfl (lv_at hl 3 rfl) ?_
  refine z_get (v := .ref a2) hx hb hg hown hK hP i_X12 rfl 0 rfl 33 (by decide) mt1313 e3 dX12_movesCells_39 ?_
  refine lv_iload_n hx hb dX12_movesCells_42 rfl (lv_at hl 1 rfl) ?_
  refine lv_aload_n hx hb dX12_movesCells_43 rfl (lv_at hl 3 rfl) ?_
  refine z_get (v := .ref a2) hx hb hg hown hK hP i_X12 rfl 0 rfl 33 (by decide) mt1313 e3 dX12_movesCells_44 ?_
  refine lv_iload_n hx hb dX12_movesCells_47 rfl (lv_at hl 2 rfl) ?_
  refine z_iald (v := 0) (j := 4) hx hb hK hP 2 rfl rfl (Nat.le_of_ble_eq_true rfl) (Nat.le_of_ble_eq_true rfl) (zu_of y44 (zu_ne (by decide) (zu_of y30 (zu_ne (by decide) (zu_of y16 (zu_ne (by decide) (zu_of y2 (zu_ne (by decide) e30)))))))) dX12_movesCells_48 ?_
  refine z_iast (j := 4) hx hb hK hP hD hS 2 rfl rfl (Nat.le_of_ble_eq_true rfl) (Nat.le_of_ble_eq_true rfl) dX12_movesCells_49 (fun ff57 H locs y58 hP hD hS => ?_)
  have hP : va_P K.1 classes [(a0, zO 10 83 g0), (a1, zI K 210000 f1), (a2, zI K 60000 ff57), (a3, zI K 60000 ff45), (a4, zI K 60000 ff47), (a5, zI K 60000 ff49), (a6, zI K 60000 ff51), (a7, zI K 60000 ff53), (a8, zI K 60000 ff55)] H := hP
  have hD : va_D A [(a0, zO 10 83 g0), (a1, zI K 210000 f1), (a2, zI K 60000 ff57), (a3, zI K 60000 ff45), (a4, zI K 60000 ff47), (a5, zI K 60000 ff49), (a6, zI K 60000 ff51), (a7, zI K 60000 ff53), (a8, zI K 60000 ff55)] := hD
  refine lv_aload_n hx hb dX12_movesCells_50 rfl (lv_at hl 3 rfl) ?_
  refine z_get (v := .ref a3) hx hb hg hown hK hP i_X12 rfl 0 rfl 34 (by decide) mt1314 e5 dX12_movesCells_51 ?_
  refine lv_iload_n hx hb dX12_movesCells_54 rfl (lv_at hl 1 rfl) ?_
  refine lv_aload_n hx hb dX12_movesCells_55 rfl (lv_at hl 3 rfl) ?_
  refine z_get (v := .ref a3) hx hb hg hown hK hP i_X12 rfl 0 rfl 34 (by decide) mt1314 e5 dX12_movesCells_56 ?_
  refine lv_iload_n hx hb dX12_movesCells_59 rfl (lv_at hl 2 rfl) ?_
  refine z_iald (v := 0) (j := 4) hx hb hK hP 3 rfl rfl (Nat.le_of_ble_eq_true rfl) (Nat.le_of_ble_eq_true rfl) (zu_of y46 (zu_ne (by decide) (zu_of y32 (zu_ne (by decide) (zu_of y18 (zu_ne (by decide) (zu_of y4 (zu_ne (by decide) e31)))))))) dX12_movesCells_60 ?_
  refine z_iast (j := 4) hx hb hK hP hD hS 3 rfl rfl (Nat.le_of_ble_eq_true rfl) (Nat.le_of_ble_eq_true rfl) dX12_movesCells_61 (fun ff59 H locs y60 hP hD hS => ?_)
  have hP : va_P K.1 classes [(a0, zO 10 83 g0), (a1, zI K 210000 f1), (a2, zI K 60000 ff57), (a3, zI K 60000 ff59), (a4, zI K 60000 ff47), (a5, zI K 60000 ff49), (a6, zI K 60000 ff51), (a7, zI K 60000 ff53), (a8, zI K 60000 ff55)] H := hP
  have hD : va_D A [(a0, zO 10 83 g0), (a1, zI K 210000 f1), (a2, zI K 60000 ff57), (a3, zI K 60000 ff59), (a4, zI K 60000 ff47), (a5, zI K 60000 ff49), (a6, zI K 60000 ff51), (a7, zI K 60000 ff53), (a8, zI K 60000 ff55)] := hD
  refine lv_aload_n hx hb dX12_movesCells_62 rfl (lv_at hl 3 rfl) ?_
  refine z_get (v := .ref a4) hx hb hg hown hK hP i_X12 rfl 0 rfl 35 (by decide) mt1315 e7 dX12_movesCells_63 ?_
  refine lv_iload_n hx hb dX12_movesCells_66 rfl (lv_at hl 1 rfl) ?_
  refine lv_iload_n hx hb dX12_movesCells_67 rfl (lv_at hl 0 rfl) ?_
  refine lv_if_eq (tgt := 90) hx hb dX12_movesCells_68 (by decide) (fun _ => ?_) (fun c => absurd (by decide) c)
  refine lv_iconst (v := 0) hx hb dX12_movesCells_90 (by decide) ?_
  refine z_iast (j := 4) hx hb hK hP hD hS 4 rfl rfl (Nat.le_of_ble_eq_true rfl) (Nat.le_of_ble_eq_true rfl) dX12_movesCells_91 (fun ff61 H locs y62 hP hD hS => ?_)
  have hP : va_P K.1 classes [(a0, zO 10 83 g0), (a1, zI K 210000 f1), (a2, zI K 60000 ff57), (a3, zI K 60000 ff59), (a4, zI K 60000 ff61), (a5, zI K 60000 ff49), (a6, zI K 60000 ff51), (a7, zI K 60000 ff53), (a8, zI K 60000 ff55)] H := hP
  have hD : va_D A [(a0, zO 10 83 g0), (a1, zI K 210000 f1), (a2, zI K 60000 ff57), (a3, zI K 60000 ff59), (a4, zI K 60000 ff61), (a5, zI K 60000 ff49), (a6, zI K 60000 ff51), (a7, zI K 60000 ff53), (a8, zI K 60000 ff55)] := hD
  refine lv_aload_n hx hb dX12_movesCells_92 rfl (lv_at hl 3 rfl) ?_
  refine z_get (v := .ref a5) hx hb hg hown hK hP i_X12 rfl 0 rfl 36 (by decide) mt1316 e8 dX12_movesCells_93 ?_
  refine lv_iload_n hx hb dX12_movesCells_96 rfl (lv_at hl 1 rfl) ?_
  refine lv_iload_n hx hb dX12_movesCells_97 rfl (lv_at hl 0 rfl) ?_
  refine lv_if_eq (tgt := 120) hx hb dX12_movesCells_98 (by decide) (fun _ => ?_) (fun c => absurd (by decide) c)
  refine lv_iconst (v := 0) hx hb dX12_movesCells_120 (by decide) ?_
  refine z_iast (j := 4) hx hb hK hP hD hS 5 rfl rfl (Nat.le_of_ble_eq_true rfl) (Nat.le_of_ble_eq_true rfl) dX12_movesCells_121 (fun ff63 H locs y64 hP hD hS => ?_)
  have hP : va_P K.1 classes [(a0, zO 10 83 g0), (a1, zI K 210000 f1), (a2, zI K 60000 ff57), (a3, zI K 60000 ff59), (a4, zI K 60000 ff61), (a5, zI K 60000 ff63), (a6, zI K 60000 ff51), (a7, zI K 60000 ff53), (a8, zI K 60000 ff55)] H := hP
  have hD : va_D A [(a0, zO 10 83 g0), (a1, zI K 210000 f1), (a2, zI K 60000 ff57), (a3, zI K 60000 ff59), (a4, zI K 60000 ff61), (a5, zI K 60000 ff63), (a6, zI K 60000 ff51), (a7, zI K 60000 ff53), (a8, zI K 60000 ff55)] := hD
  refine lv_aload_n hx hb dX12_movesCells_122 rfl (lv_at hl 3 rfl) ?_
  refine z_get (v := .ref a6) hx hb hg hown hK hP i_X12 rfl 0 rfl 37 (by decide) mt1317 e9 dX12_movesCells_123 ?_
  refine lv_iload_n hx hb dX12_movesCells_126 rfl (lv_at hl 1 rfl) ?_
  refine lv_aload_n hx hb dX12_movesCells_127 rfl (lv_at hl 3 rfl) ?_
  refine z_get (v := .ref a6) hx hb hg hown hK hP i_X12 rfl 0 rfl 37 (by decide) mt1317 e9 dX12_movesCells_128 ?_
  refine lv_iload_n hx hb dX12_movesCells_131 rfl (lv_at hl 2 rfl) ?_
  refine z_iald (v := 0) (j := 4) hx hb hK hP 6 rfl rfl (Nat.le_of_ble_eq_true rfl) (Nat.le_of_ble_eq_true rfl) (zu_of y52 (zu_ne (by decide) (zu_of y38 (zu_ne (by decide) (zu_of y24 (zu_ne (by decide) (zu_of y10 (zu_ne (by decide) e32)))))))) dX12_movesCells_132 ?_
  refine z_iast (j := 4) hx hb hK hP hD hS 6 rfl rfl (Nat.le_of_ble_eq_true rfl) (Nat.le_of_ble_eq_true rfl) dX12_movesCells_133 (fun ff65 H locs y66 hP hD hS => ?_)
  have hP : va_P K.1 classes [(a0, zO 10 83 g0), (a1, zI K 210000 f1), (a2, zI K 60000 ff57), (a3, zI K 60000 ff59), (a4, zI K 60000 ff61), (a5, zI K 60000 ff63), (a6, zI K 60000 ff65), (a7, zI K 60000 ff53), (a8, zI K 60000 ff55)] H := hP
  have hD : va_D A [(a0, zO 10 83 g0), (a1, zI K 210000 f1), (a2, zI K 60000 ff57), (a3, zI K 60000 ff59), (a4, zI K 60000 ff61), (a5, zI K 60000 ff63), (a6, zI K 60000 ff65), (a7, zI K 60000 ff53), (a8, zI K 60000 ff55)] := hD
  refine lv_aload_n hx hb dX12_movesCells_134 rfl (lv_at hl 3 rfl) ?_
  refine z_get (v := .ref a7) hx hb hg hown hK hP i_X12 rfl 0 rfl 38 (by decide) mt1318 e11 dX12_movesCells_135 ?_
  refine lv_iload_n hx hb dX12_movesCells_138 rfl (lv_at hl 1 rfl) ?_
  refine lv_iload_n hx hb dX12_movesCells_139 rfl (lv_at hl 0 rfl) ?_
  refine lv_if_ne (tgt := 149) hx hb dX12_movesCells_140 (by decide) (fun c => absurd (by decide) c) (fun _ => ?_)
  refine lv_iload_n hx hb dX12_movesCells_143 rfl (lv_at hl 2 rfl) ?_
  refine lv_bipush (v := 16) hx hb dX12_movesCells_144 (by decide) ?_
  refine lv_icmp_ge (tgt := 153) hx hb dX12_movesCells_146 (by decide) (fun c => absurd c (by decide)) (fun _ => ?_)
  refine lv_iconst (v := (-1)) hx hb dX12_movesCells_149 (by decide) ?_
  refine lv_goto (tgt := 163) hx hb dX12_movesCells_150 (by decide) ?_
  refine z_iast (j := 4) hx hb hK hP hD hS 7 rfl rfl (Nat.le_of_ble_eq_true rfl) (Nat.le_of_ble_eq_true rfl) dX12_movesCells_163 (fun ff67 H locs y68 hP hD hS => ?_)
  have hP : va_P K.1 classes [(a0, zO 10 83 g0), (a1, zI K 210000 f1), (a2, zI K 60000 ff57), (a3, zI K 60000 ff59), (a4, zI K 60000 ff61), (a5, zI K 60000 ff63), (a6, zI K 60000 ff65), (a7, zI K 60000 ff67), (a8, zI K 60000 ff55)] H := hP
  have hD : va_D A [(a0, zO 10 83 g0), (a1, zI K 210000 f1), (a2, zI K 60000 ff57), (a3, zI K 60000 ff59), (a4, zI K 60000 ff61), (a5, zI K 60000 ff63), (a6, zI K 60000 ff65), (a7, zI K 60000 ff67), (a8, zI K 60000 ff55)] := hD
  refine lv_aload_n hx hb dX12_movesCells_164 rfl (lv_at hl 3 rfl) ?_
  refine z_get (v := .ref a8) hx hb hg hown hK hP i_X12 rfl 0 rfl 39 (by decide) mt1319 e12 dX12_movesCells_165 ?_
  refine lv_iload_n hx hb dX12_movesCells_168 rfl (lv_at hl 1 rfl) ?_
  refine lv_aload_n hx hb dX12_movesCells_169 rfl (lv_at hl 3 rfl) ?_
  refine z_get (v := .ref a8) hx hb hg hown hK hP i_X12 rfl 0 rfl 39 (by decide) mt1319 e12 dX12_movesCells_170 ?_
  refine lv_iload_n hx hb dX12_movesCells_173 rfl (lv_at hl 2 rfl) ?_
  refine z_iald (v := 0) (j := 4) hx hb hK hP 8 rfl rfl (Nat.le_of_ble_eq_true rfl) (Nat.le_of_ble_eq_true rfl) (zu_of y56 (zu_ne (by decide) (zu_of y42 (zu_ne (by decide) (zu_of y28 (zu_ne (by decide) (zu_of y14 (zu_ne (by decide) e33)))))))) dX12_movesCells_174 ?_
  refine z_iast (j := 4) hx hb hK hP hD hS 8 rfl rfl (Nat.le_of_ble_eq_true rfl) (Nat.le_of_ble_eq_true rfl) dX12_movesCells_175 (fun ff69 H locs y70 hP hD hS => ?_)
  have hP : va_P K.1 classes [(a0, zO 10 83 g0), (a1, zI K 210000 f1), (a2, zI K 60000 ff57), (a3, zI K 60000 ff59), (a4, zI K 60000 ff61), (a5, zI K 60000 ff63), (a6, zI K 60000 ff65), (a7, zI K 60000 ff67), (a8, zI K 60000 ff69)] H := hP
  have hD : va_D A [(a0, zO 10 83 g0), (a1, zI K 210000 f1), (a2, zI K 60000 ff57), (a3, zI K 60000 ff59), (a4, zI K 60000 ff61), (a5, zI K 60000 ff63), (a6, zI K 60000 ff65), (a7, zI K 60000 ff67), (a8, zI K 60000 ff69)] := hD
  refine lv_iinc (v := 5) (lv' := [(1, .int 5), (3, .int 0), (2, .int 4), (0, .ref a0)]) hx hb dX12_movesCells_176 hl (k := 2) rfl (by decide +kernel) (by decide) rfl (fun ls hl => ?_)
  refine lv_goto (tgt := 2) hx hb dX12_movesCells_179 (by decide) ?_
  refine lv_iload_n hx hb dX12_movesCells_2 rfl (lv_at hl 0 rfl) ?_
  refine lv_aload_n hx hb dX12_movesCells_3 rfl (lv_at hl 3 rfl) ?_
  refine z_get (v := .int 16) hx hb hg hown hK hP i_X12 rfl 0 rfl 32 (by decide) mt1312 e0 dX12_movesCells_4 ?_
  refine lv_icmp_ge (tgt := 182) hx hb dX12_movesCells_7 (by decide) (fun c => absurd c (by decide)) (fun _ => ?_)
  refine lv_aload_n hx hb dX12_movesCells_10 rfl (lv_at hl 3 rfl) ?_
  refine z_get (v := .ref a1) hx hb hg hown hK hP i_X12 rfl 0 rfl 52 (by decide) mt1332 e1 dX12_movesCells_11 ?_
  refine lv_iload_n hx hb dX12_movesCells_14 rfl (lv_at hl 0 rfl) ?_
  refine z_iald (v := 5) (j := 5) hx hb hK hP 1 rfl rfl (Nat.le_of_ble_eq_true rfl) (Nat.le_of_ble_eq_true rfl) e34 dX12_movesCells_15 ?_
  refine lv_istore_n (lv' := [(2, .int 5), (1, .int 5), (3, .int 0), (0, .ref a0)]) hx hb dX12_movesCells_16 rfl hl (by decide) rfl (fun ls hl => ?_)
  refine lv_iload_n hx hb dX12_movesCells_17 rfl (lv_at hl 0 rfl) ?_
  refine lv_iconst (v := (-1)) hx hb dX12_movesCells_18 (by decide) ?_
  refine lv_icmp_eq (tgt := 176) hx hb dX12_movesCells_19 (by decide) (fun c => absurd c (by decide)) (fun _ => ?_)
  refine lv_aload_n hx hb dX12_movesCells_22 rfl (lv_at hl 3 rfl) ?_
  refine z_get (v := .ref a2) hx hb hg hown hK hP i_X12 rfl 0 rfl 33 (by decide) mt1313 e3 dX12_movesCells_23 ?_
  refine lv_iload_n hx hb dX12_movesCells_26 rfl (lv_at hl 1 rfl) ?_
  refine z_iald (v := 0) (j := 5) hx hb hK hP 2 rfl rfl (Nat.le_of_ble_eq_true rfl) (Nat.le_of_ble_eq_true rfl) (zu_of y58 (zu_ne (by decide) (zu_of y44 (zu_ne (by decide) (zu_of y30 (zu_ne (by decide) (zu_of y16 (zu_ne (by decide) (zu_of y2 (zu_ne (by decide) e35)))))))))) dX12_movesCells_27 ?_
  refine lv_iconst (v := 2) hx hb dX12_movesCells_28 (by decide) ?_
  refine lv_icmp_ne (tgt := 36) hx hb dX12_movesCells_29 (by decide) (fun _ => ?_) (fun c => absurd c (by decide))
  refine lv_iconst (v := 0) hx hb dX12_movesCells_36 (by decide) ?_
  refine lv_istore_n (lv' := [(3, .int 0), (2, .int 5), (1, .int 5), (0, .ref a0)]) hx hb dX12_movesCells_37 rfl hl (by decide) rfl (fun ls hl => ?_)
  refine lv_aload_n hx hb dX12_movesCells_38 rfl (lv_at hl 3 rfl) ?_
  refine z_get (v := .ref a2) hx hb hg hown hK hP i_X12 rfl 0 rfl 33 (by decide) mt1313 e3 dX12_movesCells_39 ?_
  refine lv_iload_n hx hb dX12_movesCells_42 rfl (lv_at hl 1 rfl) ?_
  refine lv_aload_n hx hb dX12_movesCells_43 rfl (lv_at hl 3 rfl) ?_
  refine z_get (v := .ref a2) hx hb hg hown hK hP i_X12 rfl 0 rfl 33 (by decide) mt1313 e3 dX12_movesCells_44 ?_
  refine lv_iload_n hx hb dX12_movesCells_47 rfl (lv_at hl 2 rfl) ?_
  refine z_iald (v := 0) (j := 5) hx hb hK hP 2 rfl rfl (Nat.le_of_ble_eq_true rfl) (Nat.le_of_ble_eq_true rfl) (zu_of y58 (zu_ne (by decide) (zu_of y44 (zu_ne (by decide) (zu_of y30 (zu_ne (by decide) (zu_of y16 (zu_ne (by decide) (zu_of y2 (zu_ne (by decide) e35)))))))))) dX12_movesCells_48 ?_
  refine z_iast (j := 5) hx hb hK hP hD hS 2 rfl rfl (Nat.le_of_ble_eq_true rfl) (Nat.le_of_ble_eq_true rfl) dX12_movesCells_49 (fun ff71 H locs y72 hP hD hS => ?_)
  have hP : va_P K.1 classes [(a0, zO 10 83 g0), (a1, zI K 210000 f1), (a2, zI K 60000 ff71), (a3, zI K 60000 ff59), (a4, zI K 60000 ff61), (a5, zI K 60000 ff63), (a6, zI K 60000 ff65), (a7, zI K 60000 ff67), (a8, zI K 60000 ff69)] H := hP
  have hD : va_D A [(a0, zO 10 83 g0), (a1, zI K 210000 f1), (a2, zI K 60000 ff71), (a3, zI K 60000 ff59), (a4, zI K 60000 ff61), (a5, zI K 60000 ff63), (a6, zI K 60000 ff65), (a7, zI K 60000 ff67), (a8, zI K 60000 ff69)] := hD
  refine lv_aload_n hx hb dX12_movesCells_50 rfl (lv_at hl 3 rfl) ?_
  refine z_get (v := .ref a3) hx hb hg hown hK hP i_X12 rfl 0 rfl 34 (by decide) mt1314 e5 dX12_movesCells_51 ?_
  refine lv_iload_n hx hb dX12_movesCells_54 rfl (lv_at hl 1 rfl) ?_
  refine lv_aload_n hx hb dX12_movesCells_55 rfl (lv_at hl 3 rfl) ?_
  refine z_get (v := .ref a3) hx hb hg hown hK hP i_X12 rfl 0 rfl 34 (by decide) mt1314 e5 dX12_movesCells_56 ?_
  refine lv_iload_n hx hb dX12_movesCells_59 rfl (lv_at hl 2 rfl) ?_
  refine z_iald (v := 0) (j := 5) hx hb hK hP 3 rfl rfl (Nat.le_of_ble_eq_true rfl) (Nat.le_of_ble_eq_true rfl) (zu_of y60 (zu_ne (by decide) (zu_of y46 (zu_ne (by decide) (zu_of y32 (zu_ne (by decide) (zu_of y18 (zu_ne (by decide) (zu_of y4 (zu_ne (by decide) e36)))))))))) dX12_movesCells_60 ?_
  refine z_iast (j := 5) hx hb hK hP hD hS 3 rfl rfl (Nat.le_of_ble_eq_true rfl) (Nat.le_of_ble_eq_true rfl) dX12_movesCells_61 (fun ff73 H locs y74 hP hD hS => ?_)
  have hP : va_P K.1 classes [(a0, zO 10 83 g0), (a1, zI K 210000 f1), (a2, zI K 60000 ff71), (a3, zI K 60000 ff73), (a4, zI K 60000 ff61), (a5, zI K 60000 ff63), (a6, zI K 60000 ff65), (a7, zI K 60000 ff67), (a8, zI K 60000 ff69)] H := hP
  have hD : va_D A [(a0, zO 10 83 g0), (a1, zI K 210000 f1), (a2, zI K 60000 ff71), (a3, zI K 60000 ff73), (a4, zI K 60000 ff61), (a5, zI K 60000 ff63), (a6, zI K 60000 ff65), (a7, zI K 60000 ff67), (a8, zI K 60000 ff69)] := hD
  refine lv_aload_n hx hb dX12_movesCells_62 rfl (lv_at hl 3 rfl) ?_
  refine z_get (v := .ref a4) hx hb hg hown hK hP i_X12 rfl 0 rfl 35 (by decide) mt1315 e7 dX12_movesCells_63 ?_
  refine lv_iload_n hx hb dX12_movesCells_66 rfl (lv_at hl 1 rfl) ?_
  refine lv_iload_n hx hb dX12_movesCells_67 rfl (lv_at hl 0 rfl) ?_
  refine lv_if_eq (tgt := 90) hx hb dX12_movesCells_68 (by decide) (fun _ => ?_) (fun c => absurd (by decide) c)
  refine lv_iconst (v := 0) hx hb dX12_movesCells_90 (by decide) ?_
  refine z_iast (j := 5) hx hb hK hP hD hS 4 rfl rfl (Nat.le_of_ble_eq_true rfl) (Nat.le_of_ble_eq_true rfl) dX12_movesCells_91 (fun ff75 H locs y76 hP hD hS => ?_)
  have hP : va_P K.1 classes [(a0, zO 10 83 g0), (a1, zI K 210000 f1), (a2, zI K 60000 ff71), (a3, zI K 60000 ff73), (a4, zI K 60000 ff75), (a5, zI K 60000 ff63), (a6, zI K 60000 ff65), (a7, zI K 60000 ff67), (a8, zI K 60000 ff69)] H := hP
  have hD : va_D A [(a0, zO 10 83 g0), (a1, zI K 210000 f1), (a2, zI K 60000 ff71), (a3, zI K 60000 ff73), (a4, zI K 60000 ff75), (a5, zI K 60000 ff63), (a6, zI K 60000 ff65), (a7, zI K 60000 ff67), (a8, zI K 60000 ff69)] := hD
  refine lv_aload_n hx hb dX12_movesCells_92 rfl (lv_at hl 3 rfl) ?_
  refine z_get (v := .ref a5) hx hb hg hown hK hP i_X12 rfl 0 rfl 36 (by decide) mt1316 e8 dX12_movesCells_93 ?_
  refine lv_iload_n hx hb dX12_movesCells_96 rfl (lv_at hl 1 rfl) ?_
  refine lv_iload_n hx hb dX12_movesCells_97 rfl (lv_at hl 0 rfl) ?_
  refine lv_if_eq (tgt := 120) hx hb dX12_movesCells_98 (by decide) (fun _ => ?_) (fun c => absurd (by decide) c)
  refine lv_iconst (v := 0) hx hb dX12_movesCells_120 (by decide) ?_
  refine z_iast (j := 5) hx hb hK hP hD hS 5 rfl rfl (Nat.le_of_ble_eq_true rfl) (Nat.le_of_ble_eq_true rfl) dX12_movesCells_121 (fun ff77 H locs y78 hP hD hS => ?_)
  have hP : va_P K.1 classes [(a0, zO 10 83 g0), (a1, zI K 210000 f1), (a2, zI K 60000 ff71), (a3, zI K 60000 ff73), (a4, zI K 60000 ff75), (a5, zI K 60000 ff77), (a6, zI K 60000 ff65), (a7, zI K 60000 ff67), (a8, zI K 60000 ff69)] H := hP
  have hD : va_D A [(a0, zO 10 83 g0), (a1, zI K 210000 f1), (a2, zI K 60000 ff71), (a3, zI K 60000 ff73), (a4, zI K 60000 ff75), (a5, zI K 60000 ff77), (a6, zI K 60000 ff65), (a7, zI K 60000 ff67), (a8, zI K 60000 ff69)] := hD
  refine lv_aload_n hx hb dX12_movesCells_122 rfl (lv_at hl 3 rfl) ?_
  refine z_get (v := .ref a6) hx hb hg hown hK hP i_X12 rfl 0 rfl 37 (by decide) mt1317 e9 dX12_movesCells_123 ?_
  refine lv_iload_n hx hb dX12_movesCells_126 rfl (lv_at hl 1 rfl) ?_
  refine lv_aload_n hx hb dX12_movesCells_127 rfl (lv_at hl 3 rfl) ?_
  refine z_get (v := .ref a6) hx hb hg hown hK hP i_X12 rfl 0 rfl 37 (by decide) mt1317 e9 dX12_movesCells_128 ?_
  refine lv_iload_n hx hb dX12_movesCells_131 rfl (lv_at hl 2 rfl) ?_
  refine z_iald (v := 0) (j := 5) hx hb hK hP 6 rfl rfl (Nat.le_of_ble_eq_true rfl) (Nat.le_of_ble_eq_true rfl) (zu_of y66 (zu_ne (by decide) (zu_of y52 (zu_ne (by decide) (zu_of y38 (zu_ne (by decide) (zu_of y24 (zu_ne (by decide) (zu_of y10 (zu_ne (by decide) e37)))))))))) dX12_movesCells_132 ?_
  refine z_iast (j := 5) hx hb hK hP hD hS 6 rfl rfl (Nat.le_of_ble_eq_true rfl) (Nat.le_of_ble_eq_true rfl) dX12_movesCells_133 (fun ff79 H locs y80 hP hD hS => ?_)
  have hP : va_P K.1 classes [(a0, zO 10 83 g0), (a1, zI K 210000 f1), (a2, zI K 60000 ff71), (a3, zI K 60000 ff73), (a4, zI K 60000 ff75), (a5, zI K 60000 ff77), (a6, zI K 60000 ff79), (a7, zI K 60000 ff67), (a8, zI K 60000 ff69)] H := hP
  have hD : va_D A [(a0, zO 10 83 g0), (a1, zI K 210000 f1), (a2, zI K 60000 ff71), (a3, zI K 60000 ff73), (a4, zI K 60000 ff75), (a5, zI K 60000 ff77), (a6, zI K 60000 ff79), (a7, zI K 60000 ff67), (a8, zI K 60000 ff69)] := hD
  refine lv_aload_n hx hb dX12_movesCells_134 rfl (lv_at hl 3 rfl) ?_
  refine z_get (v := .ref a7) hx hb hg hown hK hP i_X12 rfl 0 rfl 38 (by decide) mt1318 e11 dX12_movesCells_135 ?_
  refine lv_iload_n hx hb dX12_movesCells_138 rfl (lv_at hl 1 rfl) ?_
  refine lv_iload_n hx hb dX12_movesCells_139 rfl (lv_at hl 0 rfl) ?_
  refine lv_if_ne (tgt := 149) hx hb dX12_movesCells_140 (by decide) (fun c => absurd (by decide) c) (fun _ => ?_)
  refine lv_iload_n hx hb dX12_movesCells_143 rfl (lv_at hl 2 rfl) ?_
  refine lv_bipush (v := 16) hx hb dX12_movesCells_144 (by decide) ?_
  refine lv_icmp_ge (tgt := 153) hx hb dX12_movesCells_146 (by decide) (fun c => absurd c (by decide)) (fun _ => ?_)
  refine lv_iconst (v := (-1)) hx hb dX12_movesCells_149 (by decide) ?_
  refine lv_goto (tgt := 163) hx hb dX12_movesCells_150 (by decide) ?_
  refine z_iast (j := 5) hx hb hK hP hD hS 7 rfl rfl (Nat.le_of_ble_eq_true rfl) (Nat.le_of_ble_eq_true rfl) dX12_movesCells_163 (fun ff81 H locs y82 hP hD hS => ?_)
  have hP : va_P K.1 classes [(a0, zO 10 83 g0), (a1, zI K 210000 f1), (a2, zI K 60000 ff71), (a3, zI K 60000 ff73), (a4, zI K 60000 ff75), (a5, zI K 60000 ff77), (a6, zI K 60000 ff79), (a7, zI K 60000 ff81), (a8, zI K 60000 ff69)] H := hP
  have hD : va_D A [(a0, zO 10 83 g0), (a1, zI K 210000 f1), (a2, zI K 60000 ff71), (a3, zI K 60000 ff73), (a4, zI K 60000 ff75), (a5, zI K 60000 ff77), (a6, zI K 60000 ff79), (a7, zI K 60000 ff81), (a8, zI K 60000 ff69)] := hD
  refine lv_aload_n hx hb dX12_movesCells_164 rfl (lv_at hl 3 rfl) ?_
  refine z_get (v := .ref a8) hx hb hg hown hK hP i_X12 rfl 0 rfl 39 (by decide) mt1319 e12 dX12_movesCells_165 ?_
  refine lv_iload_n hx hb dX12_movesCells_168 rfl (lv_at hl 1 rfl) ?_
  refine lv_aload_n hx hb dX12_movesCells_169 rfl (lv_at hl 3 rfl) ?_
  refine z_get (v := .ref a8) hx hb hg hown hK hP i_X12 rfl 0 rfl 39 (by decide) mt1319 e12 dX12_movesCells_170 ?_
  refine lv_iload_n hx hb dX12_movesCells_173 rfl (lv_at hl 2 rfl) ?_
  refine z_iald (v := 0) (j := 5) hx hb hK hP 8 rfl rfl (Nat.le_of_ble_eq_true rfl) (Nat.le_of_ble_eq_true rfl) (zu_of y70 (zu_ne (by decide) (zu_of y56 (zu_ne (by decide) (zu_of y42 (zu_ne (by decide) (zu_of y28 (zu_ne (by decide) (zu_of y14 (zu_ne (by decide) e38)))))))))) dX12_movesCells_174 ?_
  refine z_iast (j := 5) hx hb hK hP hD hS 8 rfl rfl (Nat.le_of_ble_eq_true rfl) (Nat.le_of_ble_eq_true rfl) dX12_movesCells_175 (fun ff83 H locs y84 hP hD hS => ?_)
  have hP : va_P K.1 classes [(a0, zO 10 83 g0), (a1, zI K 210000 f1), (a2, zI K 60000 ff71), (a3, zI K 60000 ff73), (a4, zI K 60000 ff75), (a5, zI K 60000 ff77), (a6, zI K 60000 ff79), (a7, zI K 60000 ff81), (a8, zI K 60000 ff83)] H := hP
  have hD : va_D A [(a0, zO 10 83 g0), (a1, zI K 210000 f1), (a2, zI K 60000 ff71), (a3, zI K 60000 ff73), (a4, zI K 60000 ff75), (a5, zI K 60000 ff77), (a6, zI K 60000 ff79), (a7, zI K 60000 ff81), (a8, zI K 60000 ff83)] := hD
  refine lv_iinc (v := 6) (lv' := [(1, .int 6), (3, .int 0), (2, .int 5), (0, .ref a0)]) hx hb dX12_movesCells_176 hl (k := 2) rfl (by decide +kernel) (by decide) rfl (fun ls hl => ?_)
  refine lv_goto (tgt := 2) hx hb dX12_movesCells_179 (by decide) ?_
  refine lv_iload_n hx hb dX12_movesCells_2 rfl (lv_at hl 0 rfl) ?_
  refine lv_aload_n hx hb dX12_movesCells_3 rfl (lv_at hl 3 rfl) ?_
  refine z_get (v := .int 16) hx hb hg hown hK hP i_X12 rfl 0 rfl 32 (by decide) mt1312 e0 dX12_movesCells_4 ?_
  refine lv_icmp_ge (tgt := 182) hx hb dX12_movesCells_7 (by decide) (fun c => absurd c (by decide)) (fun _ => ?_)
  refine lv_aload_n hx hb dX12_movesCells_10 rfl (lv_at hl 3 rfl) ?_
  refine z_get (v := .ref a1) hx hb hg hown hK hP i_X12 rfl 0 rfl 52 (by decide) mt1332 e1 dX12_movesCells_11 ?_
  refine lv_iload_n hx hb dX12_movesCells_14 rfl (lv_at hl 0 rfl) ?_
  refine z_iald (v := 6) (j := 6) hx hb hK hP 1 rfl rfl (Nat.le_of_ble_eq_true rfl) (Nat.le_of_ble_eq_true rfl) e39 dX12_movesCells_15 ?_
  refine lv_istore_n (lv' := [(2, .int 6), (1, .int 6), (3, .int 0), (0, .ref a0)]) hx hb dX12_movesCells_16 rfl hl (by decide) rfl (fun ls hl => ?_)
  refine lv_iload_n hx hb dX12_movesCells_17 rfl (lv_at hl 0 rfl) ?_
  refine lv_iconst (v := (-1)) hx hb dX12_movesCells_18 (by decide) ?_
  refine lv_icmp_eq (tgt := 176) hx hb dX12_movesCells_19 (by decide) (fun c => absurd c (by decide)) (fun _ => ?_)
  refine lv_aload_n hx hb dX12_movesCells_22 rfl (lv_at hl 3 rfl) ?_
  refine z_get (v := .ref a2) hx hb hg hown hK hP i_X12 rfl 0 rfl 33 (by decide) mt1313 e3 dX12_movesCells_23 ?_
  refine lv_iload_n hx hb dX12_movesCells_26 rfl (lv_at hl 1 rfl) ?_
  refine z_iald (v := 0) (j := 6) hx hb hK hP 2 rfl rfl (Nat.le_of_ble_eq_true rfl) (Nat.le_of_ble_eq_true rfl) (zu_of y72 (zu_ne (by decide) (zu_of y58 (zu_ne (by decide) (zu_of y44 (zu_ne (by decide) (zu_of y30 (zu_ne (by decide) (zu_of y16 (zu_ne (by decide) (zu_of y2 (zu_ne (by decide) e40)))))))))))) dX12_movesCells_27 ?_
  refine lv_iconst (v := 2) hx hb dX12_movesCells_28 (by decide) ?_
  refine lv_icmp_ne (tgt := 36) hx hb dX12_movesCells_29 (by decide) (fun _ => ?_) (fun c => absurd c (by decide))
  refine lv_iconst (v := 0) hx hb dX12_movesCells_36 (by decide) ?_
  refine lv_istore_n (lv' := [(3, .int 0), (2, .int 6), (1, .int 6), (0, .ref a0)]) hx hb dX12_movesCells_37 rfl hl (by decide) rfl (fun ls hl => ?_)
  refine lv_aload_n hx hb dX12_movesCells_38 rfl (lv_at hl 3 rfl) ?_
  refine z_get (v := .ref a2) hx hb hg hown hK hP i_X12 rfl 0 rfl 33 (by decide) mt1313 e3 dX12_movesCells_39 ?_
  refine lv_iload_n hx hb dX12_movesCells_42 rfl (lv_at hl 1 rfl) ?_
  refine lv_aload_n hx hb dX12_movesCells_43 rfl (lv_at hl 3 rfl) ?_
  refine z_get (v := .ref a2) hx hb hg hown hK hP i_X12 rfl 0 rfl 33 (by decide) mt1313 e3 dX12_movesCells_44 ?_
  refine lv_iload_n hx hb dX12_movesCells_47 rfl (lv_at hl 2 rfl) ?_
  refine z_iald (v := 0) (j := 6) hx hb hK hP 2 rfl rfl (Nat.le_of_ble_eq_true rfl) (Nat.le_of_ble_eq_true rfl) (zu_of y72 (zu_ne (by decide) (zu_of y58 (zu_ne (by decide) (zu_of y44 (zu_ne (by decide) (zu_of y30 (zu_ne (by decide) (zu_of y16 (zu_ne (by decide) (zu_of y2 (zu_ne (by decide) e40)))))))))))) dX12_movesCells_48 ?_
  refine z_iast (j := 6) hx hb hK hP hD hS 2 rfl rfl (Nat.le_of_ble_eq_true rfl) (Nat.le_of_ble_eq_true rfl) dX12_movesCells_49 (fun ff85 H locs y86 hP hD hS => ?_)
  have hP : va_P K.1 classes [(a0, zO 10 83 g0), (a1, zI K 210000 f1), (a2, zI K 60000 ff85), (a3, zI K 60000 ff73), (a4, zI K 60000 ff75), (a5, zI K 60000 ff77), (a6, zI K 60000 ff79), (a7, zI K 60000 ff81), (a8, zI K 60000 ff83)] H := hP
  have hD : va_D A [(a0, zO 10 83 g0), (a1, zI K 210000 f1), (a2, zI K 60000 ff85), (a3, zI K 60000 ff73), (a4, zI K 60000 ff75), (a5, zI K 60000 ff77), (a6, zI K 60000 ff79), (a7, zI K 60000 ff81), (a8, zI K 60000 ff83)] := hD
  refine lv_aload_n hx hb dX12_movesCells_50 rfl (lv_at hl 3 rfl) ?_
  refine z_get (v := .ref a3) hx hb hg hown hK hP i_X12 rfl 0 rfl 34 (by decide) mt1314 e5 dX12_movesCells_51 ?_
  refine lv_iload_n hx hb dX12_movesCells_54 rfl (lv_at hl 1 rfl) ?_
  refine lv_aload_n hx hb dX12_movesCells_55 rfl (lv_at hl 3 rfl) ?_
  refine z_get (v := .ref a3) hx hb hg hown hK hP i_X12 rfl 0 rfl 34 (by decide) mt1314 e5 dX12_movesCells_56 ?_
  refine lv_iload_n hx hb dX12_movesCells_59 rfl (lv_at hl 2 rfl) ?_
  refine z_iald (v := 0) (j := 6) hx hb hK hP 3 rfl rfl (Nat.le_of_ble_eq_true rfl) (Nat.le_of_ble_eq_true rfl) (zu_of y74 (zu_ne (by decide) (zu_of y60 (zu_ne (by decide) (zu_of y46 (zu_ne (by decide) (zu_of y32 (zu_ne (by decide) (zu_of y18 (zu_ne (by decide) (zu_of y4 (zu_ne (by decide) e41)))))))))))) dX12_movesCells_60 ?_
  refine z_iast (j := 6) hx hb hK hP hD hS 3 rfl rfl (Nat.le_of_ble_eq_true rfl) (Nat.le_of_ble_eq_true rfl) dX12_movesCells_61 (fun ff87 H locs y88 hP hD hS => ?_)
  have hP : va_P K.1 classes [(a0, zO 10 83 g0), (a1, zI K 210000 f1), (a2, zI K 60000 ff85), (a3, zI K 60000 ff87), (a4, zI K 60000 ff75), (a5, zI K 60000 ff77), (a6, zI K 60000 ff79), (a7, zI K 60000 ff81), (a8, zI K 60000 ff83)] H := hP
  have hD : va_D A [(a0, zO 10 83 g0), (a1, zI K 210000 f1), (a2, zI K 60000 ff85), (a3, zI K 60000 ff87), (a4, zI K 60000 ff75), (a5, zI K 60000 ff77), (a6, zI K 60000 ff79), (a7, zI K 60000 ff81), (a8, zI K 60000 ff83)] := hD
  refine lv_aload_n hx hb dX12_movesCells_62 rfl (lv_at hl 3 rfl) ?_
  refine z_get (v := .ref a4) hx hb hg hown hK hP i_X12 rfl 0 rfl 35 (by decide) mt1315 e7 dX12_movesCells_63 ?_
  refine lv_iload_n hx hb dX12_movesCells_66 rfl (lv_at hl 1 rfl) ?_
  refine lv_iload_n hx hb dX12_movesCells_67 rfl (lv_at hl 0 rfl) ?_
  refine lv_if_eq (tgt := 90) hx hb dX12_movesCells_68 (by decide) (fun _ => ?_) (fun c => absurd (by decide) c)
  refine lv_iconst (v := 0) hx hb dX12_movesCells_90 (by decide) ?_
  refine z_iast (j := 6) hx hb hK hP hD hS 4 rfl rfl (Nat.le_of_ble_eq_true rfl) (Nat.le_of_ble_eq_true rfl) dX12_movesCells_91 (fun ff89 H locs y90 hP hD hS => ?_)
  have hP : va_P K.1 classes [(a0, zO 10 83 g0), (a1, zI K 210000 f1), (a2, zI K 60000 ff85), (a3, zI K 60000 ff87), (a4, zI K 60000 ff89), (a5, zI K 60000 ff77), (a6, zI K 60000 ff79), (a7, zI K 60000 ff81), (a8, zI K 60000 ff83)] H := hP
  have hD : va_D A [(a0, zO 10 83 g0), (a1, zI K 210000 f1), (a2, zI K 60000 ff85), (a3, zI K 60000 ff87), (a4, zI K 60000 ff89), (a5, zI K 60000 ff77), (a6, zI K 60000 ff79), (a7, zI K 60000 ff81), (a8, zI K 60000 ff83)] := hD
  refine lv_aload_n hx hb dX12_movesCells_92 rfl (lv_at hl 3 rfl) ?_
  refine z_get (v := .ref a5) hx hb hg hown hK hP i_X12 rfl 0 rfl 36 (by decide) mt1316 e8 dX12_movesCells_93 ?_
  refine lv_iload_n hx hb dX12_movesCells_96 rfl (lv_at hl 1 rfl) ?_
  refine lv_iload_n hx hb dX12_movesCells_97 rfl (lv_at hl 0 rfl) ?_
  refine lv_if_eq (tgt := 120) hx hb dX12_movesCells_98 (by decide) (fun _ => ?_) (fun c => absurd (by decide) c)
  refine lv_iconst (v := 0) hx hb dX12_movesCells_120 (by decide) ?_
  refine z_iast (j := 6) hx hb hK hP hD hS 5 rfl rfl (Nat.le_of_ble_eq_true rfl) (Nat.le_of_ble_eq_true rfl) dX12_movesCells_121 (fun ff91 H locs y92 hP hD hS => ?_)
  have hP : va_P K.1 classes [(a0, zO 10 83 g0), (a1, zI K 210000 f1), (a2, zI K 60000 ff85), (a3, zI K 60000 ff87), (a4, zI K 60000 ff89), (a5, zI K 60000 ff91), (a6, zI K 60000 ff79), (a7, zI K 60000 ff81), (a8, zI K 60000 ff83)] H := hP
  have hD : va_D A [(a0, zO 10 83 g0), (a1, zI K 210000 f1), (a2, zI K 60000 ff85), (a3, zI K 60000 ff87), (a4, zI K 60000 ff89), (a5, zI K 60000 ff91), (a6, zI K 60000 ff79), (a7, zI K 60000 ff81), (a8, zI K 60000 ff83)] := hD
  refine lv_aload_n hx hb dX12_movesCells_122 rfl (lv_at hl 3 rfl) ?_
  refine z_get (v := .ref a6) hx hb hg hown hK hP i_X12 rfl 0 rfl 37 (by decide) mt1317 e9 dX12_movesCells_123 ?_
  refine lv_iload_n hx hb dX12_movesCells_126 rfl (lv_at hl 1 rfl) ?_
  refine lv_aload_n hx hb dX12_movesCells_127 rfl (lv_at hl 3 rfl) ?_
  refine z_get (v := .ref a6) hx hb hg hown hK hP i_X12 rfl 0 rfl 37 (by decide) mt1317 e9 dX12_movesCells_128 ?_
  refine lv_iload_n hx hb dX12_movesCells_131 rfl (lv_at hl 2 rfl) ?_
  refine z_iald (v := 0) (j := 6) hx hb hK hP 6 rfl rfl (Nat.le_of_ble_eq_true rfl) (Nat.le_of_ble_eq_true rfl) (zu_of y80 (zu_ne (by decide) (zu_of y66 (zu_ne (by decide) (zu_of y52 (zu_ne (by decide) (zu_of y38 (zu_ne (by decide) (zu_of y24 (zu_ne (by decide) (zu_of y10 (zu_ne (by decide) e42)))))))))))) dX12_movesCells_132 ?_
  refine z_iast (j := 6) hx hb hK hP hD hS 6 rfl rfl (Nat.le_of_ble_eq_true rfl) (Nat.le_of_ble_eq_true rfl) dX12_movesCells_133 (fun ff93 H locs y94 hP hD hS => ?_)
  have hP : va_P K.1 classes [(a0, zO 10 83 g0), (a1, zI K 210000 f1), (a2, zI K 60000 ff85), (a3, zI K 60000 ff87), (a4, zI K 60000 ff89), (a5, zI K 60000 ff91), (a6, zI K 60000 ff93), (a7, zI K 60000 ff81), (a8, zI K 60000 ff83)] H := hP
  have hD : va_D A [(a0, zO 10 83 g0), (a1, zI K 210000 f1), (a2, zI K 60000 ff85), (a3, zI K 60000 ff87), (a4, zI K 60000 ff89), (a5, zI K 60000 ff91), (a6, zI K 60000 ff93), (a7, zI K 60000 ff81), (a8, zI K 60000 ff83)] := hD
  refine lv_aload_n hx hb dX12_movesCells_134 rfl (lv_at hl 3 rfl) ?_
  refine z_get (v := .ref a7) hx hb hg hown hK hP i_X12 rfl 0 rfl 38 (by decide) mt1318 e11 dX12_movesCells_135 ?_
  refine lv_iload_n hx hb dX12_movesCells_138 rfl (lv_at hl 1 rfl) ?_
  refine lv_iload_n hx hb dX12_movesCells_139 rfl (lv_at hl 0 rfl) ?_
  refine lv_if_ne (tgt := 149) hx hb dX12_movesCells_140 (by decide) (fun c => absurd (by decide) c) (fun _ => ?_)
  refine lv_iload_n hx hb dX12_movesCells_143 rfl (lv_at hl 2 rfl) ?_
  refine lv_bipush (v := 16) hx hb dX12_movesCells_144 (by decide) ?_
  refine lv_icmp_ge (tgt := 153) hx hb dX12_movesCells_146 (by decide) (fun c => absurd c (by decide)) (fun _ => ?_)
  refine lv_iconst (v := (-1)) hx hb dX12_movesCells_149 (by decide) ?_
  refine lv_goto (tgt := 163) hx hb dX12_movesCells_150 (by decide) ?_
  refine z_iast (j := 6) hx hb hK hP hD hS 7 rfl rfl (Nat.le_of_ble_eq_true rfl) (Nat.le_of_ble_eq_true rfl) dX12_movesCells_163 (fun ff95 H locs y96 hP hD hS => ?_)
  have hP : va_P K.1 classes [(a0, zO 10 83 g0), (a1, zI K 210000 f1), (a2, zI K 60000 ff85), (a3, zI K 60000 ff87), (a4, zI K 60000 ff89), (a5, zI K 60000 ff91), (a6, zI K 60000 ff93), (a7, zI K 60000 ff95), (a8, zI K 60000 ff83)] H := hP
  have hD : va_D A [(a0, zO 10 83 g0), (a1, zI K 210000 f1), (a2, zI K 60000 ff85), (a3, zI K 60000 ff87), (a4, zI K 60000 ff89), (a5, zI K 60000 ff91), (a6, zI K 60000 ff93), (a7, zI K 60000 ff95), (a8, zI K 60000 ff83)] := hD
  refine lv_aload_n hx hb dX12_movesCells_164 rfl (lv_at hl 3 rfl) ?_
  refine z_get (v := .ref a8) hx hb hg hown hK hP i_X12 rfl 0 rfl 39 (by decide) mt1319 e12 dX12_movesCells_165 ?_
  refine lv_iload_n hx hb dX12_movesCells_168 rfl (lv_at hl 1 rfl) ?_
  refine lv_aload_n hx hb dX12_movesCells_169 rfl (lv_at hl 3 rfl) ?_
  refine z_get (v := .ref a8) hx hb hg hown hK hP i_X12 rfl 0 rfl 39 (by decide) mt1319 e12 dX12_movesCells_170 ?_
  refine lv_iload_n hx hb dX12_movesCells_173 rfl (lv_at hl 2 rfl) ?_
  refine z_iald (v := 0) (j := 6) hx hb hK hP 8 rfl rfl (Nat.le_of_ble_eq_true rfl) (Nat.le_of_ble_eq_true rfl) (zu_of y84 (zu_ne (by decide) (zu_of y70 (zu_ne (by decide) (zu_of y56 (zu_ne (by decide) (zu_of y42 (zu_ne (by decide) (zu_of y28 (zu_ne (by decide) (zu_of y14 (zu_ne (by decide) e43)))))))))))) dX12_movesCells_174 ?_
  refine z_iast (j := 6) hx hb hK hP hD hS 8 rfl rfl (Nat.le_of_ble_eq_true rfl) (Nat.le_of_ble_eq_true rfl) dX12_movesCells_175 (fun ff97 H locs y98 hP hD hS => ?_)
  have hP : va_P K.1 classes [(a0, zO 10 83 g0), (a1, zI K 210000 f1), (a2, zI K 60000 ff85), (a3, zI K 60000 ff87), (a4, zI K 60000 ff89), (a5, zI K 60000 ff91), (a6, zI K 60000 ff93), (a7, zI K 60000 ff95), (a8, zI K 60000 ff97)] H := hP
  have hD : va_D A [(a0, zO 10 83 g0), (a1, zI K 210000 f1), (a2, zI K 60000 ff85), (a3, zI K 60000 ff87), (a4, zI K 60000 ff89), (a5, zI K 60000 ff91), (a6, zI K 60000 ff93), (a7, zI K 60000 ff95), (a8, zI K 60000 ff97)] := hD
  refine lv_iinc (v := 7) (lv' := [(1, .int 7), (3, .int 0), (2, .int 6), (0, .ref a0)]) hx hb dX12_movesCells_176 hl (k := 2) rfl (by decide +kernel) (by decide) rfl (fun ls hl => ?_)
  refine lv_goto (tgt := 2) hx hb dX12_movesCells_179 (by decide) ?_
  refine lv_iload_n hx hb dX12_movesCells_2 rfl (lv_at hl 0 rfl) ?_
  refine lv_aload_n hx hb dX12_movesCells_3 rfl (lv_at hl 3 rfl) ?_
  refine z_get (v := .int 16) hx hb hg hown hK hP i_X12 rfl 0 rfl 32 (by decide) mt1312 e0 dX12_movesCells_4 ?_
  refine lv_icmp_ge (tgt := 182) hx hb dX12_movesCells_7 (by decide) (fun c => absurd c (by decide)) (fun _ => ?_)
  refine lv_aload_n hx hb dX12_movesCells_10 rfl (lv_at hl 3 rfl) ?_
  refine z_get (v := .ref a1) hx hb hg hown hK hP i_X12 rfl 0 rfl 52 (by decide) mt1332 e1 dX12_movesCells_11 ?_
  refine lv_iload_n hx hb dX12_movesCells_14 rfl (lv_at hl 0 rfl) ?_
  refine z_iald (v := 7) (j := 7) hx hb hK hP 1 rfl rfl (Nat.le_of_ble_eq_true rfl) (Nat.le_of_ble_eq_true rfl) e44 dX12_movesCells_15 ?_
  refine lv_istore_n (lv' := [(2, .int 7), (1, .int 7), (3, .int 0), (0, .ref a0)]) hx hb dX12_movesCells_16 rfl hl (by decide) rfl (fun ls hl => ?_)
  refine lv_iload_n hx hb dX12_movesCells_17 rfl (lv_at hl 0 rfl) ?_
  refine lv_iconst (v := (-1)) hx hb dX12_movesCells_18 (by decide) ?_
  refine lv_icmp_eq (tgt := 176) hx hb dX12_movesCells_19 (by decide) (fun c => absurd c (by decide)) (fun _ => ?_)
  refine lv_aload_n hx hb dX12_movesCells_22 rfl (lv_at hl 3 rfl) ?_
  refine z_get (v := .ref a2) hx hb hg hown hK hP i_X12 rfl 0 rfl 33 (by decide) mt1313 e3 dX12_movesCells_23 ?_
  refine lv_iload_n hx hb dX12_movesCells_26 rfl (lv_at hl 1 rfl) ?_
  refine z_iald (v := 0) (j := 7) hx hb hK hP 2 rfl rfl (Nat.le_of_ble_eq_true rfl) (Nat.le_of_ble_eq_true rfl) (zu_of y86 (zu_ne (by decide) (zu_of y72 (zu_ne (by decide) (zu_of y58 (zu_ne (by decide) (zu_of y44 (zu_ne (by decide) (zu_of y30 (zu_ne (by decide) (zu_of y16 (zu_ne (by decide) (zu_of y2 (zu_ne (by decide) e45)))))))))))))) dX12_movesCells_27 ?_
  refine lv_iconst (v := 2) hx hb dX12_movesCells_28 (by decide) ?_
  refine lv_icmp_ne (tgt := 36) hx hb dX12_movesCells_29 (by decide) (fun _ => ?_) (fun c => absurd c (by decide))
  refine lv_iconst (v := 0) hx hb dX12_movesCells_36 (by decide) ?_
  refine lv_istore_n (lv' := [(3, .int 0), (2, .int 7), (1, .int 7), (0, .ref a0)]) hx hb dX12_movesCells_37 rfl hl (by decide) rfl (fun ls hl => ?_)
  refine lv_aload_n hx hb dX12_movesCells_38 rfl (lv_at hl 3 rfl) ?_
  refine z_get (v := .ref a2) hx hb hg hown hK hP i_X12 rfl 0 rfl 33 (by decide) mt1313 e3 dX12_movesCells_39 ?_
  refine lv_iload_n hx hb dX12_movesCells_42 rfl (lv_at hl 1 rfl) ?_
  refine lv_aload_n hx hb dX12_movesCells_43 rfl (lv_at hl 3 rfl) ?_
  refine z_get (v := .ref a2) hx hb hg hown hK hP i_X12 rfl 0 rfl 33 (by decide) mt1313 e3 dX12_movesCells_44 ?_
  refine lv_iload_n hx hb dX12_movesCells_47 rfl (lv_at hl 2 rfl) ?_
  refine z_iald (v := 0) (j := 7) hx hb hK hP 2 rfl rfl (Nat.le_of_ble_eq_true rfl) (Nat.le_of_ble_eq_true rfl) (zu_of y86 (zu_ne (by decide) (zu_of y72 (zu_ne (by decide) (zu_of y58 (zu_ne (by decide) (zu_of y44 (zu_ne (by decide) (zu_of y30 (zu_ne (by decide) (zu_of y16 (zu_ne (by decide) (zu_of y2 (zu_ne (by decide) e45)))))))))))))) dX12_movesCells_48 ?_
  refine z_iast (j := 7) hx hb hK hP hD hS 2 rfl rfl (Nat.le_of_ble_eq_true rfl) (Nat.le_of_ble_eq_true rfl) dX12_movesCells_49 (fun ff99 H locs y100 hP hD hS => ?_)
  have hP : va_P K.1 classes [(a0, zO 10 83 g0), (a1, zI K 210000 f1), (a2, zI K 60000 ff99), (a3, zI K 60000 ff87), (a4, zI K 60000 ff89), (a5, zI K 60000 ff91), (a6, zI K 60000 ff93), (a7, zI K 60000 ff95), (a8, zI K 60000 ff97)] H := hP
  have hD : va_D A [(a0, zO 10 83 g0), (a1, zI K 210000 f1), (a2, zI K 60000 ff99), (a3, zI K 60000 ff87), (a4, zI K 60000 ff89), (a5, zI K 60000 ff91), (a6, zI K 60000 ff93), (a7, zI K 60000 ff95), (a8, zI K 60000 ff97)] := hD
  refine lv_aload_n hx hb dX12_movesCells_50 rfl (lv_at hl 3 rfl) ?_
  refine z_get (v := .ref a3) hx hb hg hown hK hP i_X12 rfl 0 rfl 34 (by decide) mt1314 e5 dX12_movesCells_51 ?_
  refine lv_iload_n hx hb dX12_movesCells_54 rfl (lv_at hl 1 rfl) ?_
  refine lv_aload_n hx hb dX12_movesCells_55 rfl (lv_at hl 3 rfl) ?_
  refine z_get (v := .ref a3) hx hb hg hown hK hP i_X12 rfl 0 rfl 34 (by decide) mt1314 e5 dX12_movesCells_56 ?_
  refine lv_iload_n hx hb dX12_movesCells_59 rfl (lv_at hl 2 rfl) ?_
  refine z_iald (v := 0) (j := 7) hx hb hK hP 3 rfl rfl (Nat.le_of_ble_eq_true rfl) (Nat.le_of_ble_eq_true rfl) (zu_of y88 (zu_ne (by decide) (zu_of y74 (zu_ne (by decide) (zu_of y60 (zu_ne (by decide) (zu_of y46 (zu_ne (by decide) (zu_of y32 (zu_ne (by decide) (zu_of y18 (zu_ne (by decide) (zu_of y4 (zu_ne (by decide) e46)))))))))))))) dX12_movesCells_60 ?_
  refine z_iast (j := 7) hx hb hK hP hD hS 3 rfl rfl (Nat.le_of_ble_eq_true rfl) (Nat.le_of_ble_eq_true rfl) dX12_movesCells_61 (fun ff101 H locs y102 hP hD hS => ?_)
  have hP : va_P K.1 classes [(a0, zO 10 83 g0), (a1, zI K 210000 f1), (a2, zI K 60000 ff99), (a3, zI K 60000 ff101), (a4, zI K 60000 ff89), (a5, zI K 60000 ff91), (a6, zI K 60000 ff93), (a7, zI K 60000 ff95), (a8, zI K 60000 ff97)] H := hP
  have hD : va_D A [(a0, zO 10 83 g0), (a1, zI K 210000 f1), (a2, zI K 60000 ff99), (a3, zI K 60000 ff101), (a4, zI K 60000 ff89), (a5, zI K 60000 ff91), (a6, zI K 60000 ff93), (a7, zI K 60000 ff95), (a8, zI K 60000 ff97)] := hD
  refine lv_aload_n hx hb dX12_movesCells_62 rfl (lv_at hl 3 rfl) ?_
  refine z_get (v := .ref a4) hx hb hg hown hK hP i_X12 rfl 0 rfl 35 (by decide) mt1315 e7 dX12_movesCells_63 ?_
  refine lv_iload_n hx hb dX12_movesCells_66 rfl (lv_at hl 1 rfl) ?_
  refine lv_iload_n hx hb dX12_movesCells_67 rfl (lv_at hl 0 rfl) ?_
  refine lv_if_eq (tgt := 90) hx hb dX12_movesCells_68 (by decide) (fun _ => ?_) (fun c => absurd (by decide) c)
  refine lv_iconst (v := 0) hx hb dX12_movesCells_90 (by decide) ?_
  refine z_iast (j := 7) hx hb hK hP hD hS 4 rfl rfl (Nat.le_of_ble_eq_true rfl) (Nat.le_of_ble_eq_true rfl) dX12_movesCells_91 (fun ff103 H locs y104 hP hD hS => ?_)
  have hP : va_P K.1 classes [(a0, zO 10 83 g0), (a1, zI K 210000 f1), (a2, zI K 60000 ff99), (a3, zI K 60000 ff101), (a4, zI K 60000 ff103), (a5, zI K 60000 ff91), (a6, zI K 60000 ff93), (a7, zI K 60000 ff95), (a8, zI K 60000 ff97)] H := hP
  have hD : va_D A [(a0, zO 10 83 g0), (a1, zI K 210000 f1), (a2, zI K 60000 ff99), (a3, zI K 60000 ff101), (a4, zI K 60000 ff103), (a5, zI K 60000 ff91), (a6, zI K 60000 ff93), (a7, zI K 60000 ff95), (a8, zI K 60000 ff97)] := hD
  refine lv_aload_n hx hb dX12_movesCells_92 rfl (lv_at hl 3 rfl) ?_
  refine z_get (v := .ref a5) hx hb hg hown hK hP i_X12 rfl 0 rfl 36 (by decide) mt1316 e8 dX12_movesCells_93 ?_
  refine lv_iload_n hx hb dX12_movesCells_96 rfl (lv_at hl 1 rfl) ?_
  refine lv_iload_n hx hb dX12_movesCells_97 rfl (lv_at hl 0 rfl) ?_
  refine lv_if_eq (tgt := 120) hx hb dX12_movesCells_98 (by decide) (fun _ => ?_) (fun c => absurd (by decide) c)
  refine lv_iconst (v := 0) hx hb dX12_movesCells_120 (by decide) ?_
  refine z_iast (j := 7) hx hb hK hP hD hS 5 rfl rfl (Nat.le_of_ble_eq_true rfl) (Nat.le_of_ble_eq_true rfl) dX12_movesCells_121 (fun ff105 H locs y106 hP hD hS => ?_)
  have hP : va_P K.1 classes [(a0, zO 10 83 g0), (a1, zI K 210000 f1), (a2, zI K 60000 ff99), (a3, zI K 60000 ff101), (a4, zI K 60000 ff103), (a5, zI K 60000 ff105), (a6, zI K 60000 ff93), (a7, zI K 60000 ff95), (a8, zI K 60000 ff97)] H := hP
  have hD : va_D A [(a0, zO 10 83 g0), (a1, zI K 210000 f1), (a2, zI K 60000 ff99), (a3, zI K 60000 ff101), (a4, zI K 60000 ff103), (a5, zI K 60000 ff105), (a6, zI K 60000 ff93), (a7, zI K 60000 ff95), (a8, zI K 60000 ff97)] := hD
  refine lv_aload_n hx hb dX12_movesCells_122 rfl (lv_at hl 3 rfl) ?_
  refine z_get (v := .ref a6) hx hb hg hown hK hP i_X12 rfl 0 rfl 37 (by decide) mt1317 e9 dX12_movesCells_123 ?_
  refine lv_iload_n hx hb dX12_movesCells_126 rfl (lv_at hl 1 rfl) ?_
  refine lv_aload_n hx hb dX12_movesCells_127 rfl (lv_at hl 3 rfl) ?_
  refine z_get (v := .ref a6) hx hb hg hown hK hP i_X12 rfl 0 rfl 37 (by decide) mt1317 e9 dX12_movesCells_128 ?_
  refine lv_iload_n hx hb dX12_movesCells_131 rfl (lv_at hl 2 rfl) ?_
  refine z_iald (v := 0) (j := 7) hx hb hK hP 6 rfl rfl (Nat.le_of_ble_eq_true rfl) (Nat.le_of_ble_eq_true rfl) (zu_of y94 (zu_ne (by decide) (zu_of y80 (zu_ne (by decide) (zu_of y66 (zu_ne (by decide) (zu_of y52 (zu_ne (by decide) (zu_of y38 (zu_ne (by decide) (zu_of y24 (zu_ne (by decide) (zu_of y10 (zu_ne (by decide) e47)))))))))))))) dX12_movesCells_132 ?_
  refine z_iast (j := 7) hx hb hK hP hD hS 6 rfl rfl (Nat.le_of_ble_eq_true rfl) (Nat.le_of_ble_eq_true rfl) dX12_movesCells_133 (fun ff107 H locs y108 hP hD hS => ?_)
  have hP : va_P K.1 classes [(a0, zO 10 83 g0), (a1, zI K 210000 f1), (a2, zI K 60000 ff99), (a3, zI K 60000 ff101), (a4, zI K 60000 ff103), (a5, zI K 60000 ff105), (a6, zI K 60000 ff107), (a7, zI K 60000 ff95), (a8, zI K 60000 ff97)] H := hP
  have hD : va_D A [(a0, zO 10 83 g0), (a1, zI K 210000 f1), (a2, zI K 60000 ff99), (a3, zI K 60000 ff101), (a4, zI K 60000 ff103), (a5, zI K 60000 ff105), (a6, zI K 60000 ff107), (a7, zI K 60000 ff95), (a8, zI K 60000 ff97)] := hD
  refine lv_aload_n hx hb dX12_movesCells_134 rfl (lv_at hl 3 rfl) ?_
  refine z_get (v := .ref a7) hx hb hg hown hK hP i_X12 rfl 0 rfl 38 (by decide) mt1318 e11 dX12_movesCells_135 ?_
  refine lv_iload_n hx hb dX12_movesCells_138 rfl (lv_at hl 1 rfl) ?_
  refine lv_iload_n hx hb dX12_movesCells_139 rfl (lv_at hl 0 rfl) ?_
  refine lv_if_ne (tgt := 149) hx hb dX12_movesCells_140 (by decide) (fun c => absurd (by decide) c) (fun _ => ?_)
  refine lv_iload_n hx hb dX12_movesCells_143 rfl (lv_at hl 2 rfl) ?_
  refine lv_bipush (v := 16) hx hb dX12_movesCells_144 (by decide) ?_
  refine lv_icmp_ge (tgt := 153) hx hb dX12_movesCells_146 (by decide) (fun c => absurd c (by decide)) (fun _ => ?_)
  refine lv_iconst (v := (-1)) hx hb dX12_movesCells_149 (by decide) ?_
  refine lv_goto (tgt := 163) hx hb dX12_movesCells_150 (by decide) ?_
  refine z_iast (j := 7) hx hb hK hP hD hS 7 rfl rfl (Nat.le_of_ble_eq_true rfl) (Nat.le_of_ble_eq_true rfl) dX12_movesCells_163 (fun ff109 H locs y110 hP hD hS => ?_)
  have hP : va_P K.1 classes [(a0, zO 10 83 g0), (a1, zI K 210000 f1), (a2, zI K 60000 ff99), (a3, zI K 60000 ff101), (a4, zI K 60000 ff103), (a5, zI K 60000 ff105), (a6, zI K 60000 ff107), (a7, zI K 60000 ff109), (a8, zI K 60000 ff97)] H := hP
  have hD : va_D A [(a0, zO 10 83 g0), (a1, zI K 210000 f1), (a2, zI K 60000 ff99), (a3, zI K 60000 ff101), (a4, zI K 60000 ff103), (a5, zI K 60000 ff105), (a6, zI K 60000 ff107), (a7, zI K 60000 ff109), (a8, zI K 60000 ff97)] := hD
  refine lv_aload_n hx hb dX12_movesCells_164 rfl (lv_at hl 3 rfl) ?_
  refine z_get (v := .ref a8) hx hb hg hown hK hP i_X12 rfl 0 rfl 39 (by decide) mt1319 e12 dX12_movesCells_165 ?_
  refine lv_iload_n hx hb dX12_movesCells_168 rfl (lv_at hl 1 rfl) ?_
  refine lv_aload_n hx hb dX12_movesCells_169 rfl (lv_at hl 3 rfl) ?_
  refine z_get (v := .ref a8) hx hb hg hown hK hP i_X12 rfl 0 rfl 39 (by decide) mt1319 e12 dX12_movesCells_170 ?_
  refine lv_iload_n hx hb dX12_movesCells_173 rfl (lv_at hl 2 rfl) ?_
  refine z_iald (v := 0) (j := 7) hx hb hK hP 8 rfl rfl (Nat.le_of_ble_eq_true rfl) (Nat.le_of_ble_eq_true rfl) (zu_of y98 (zu_ne (by decide) (zu_of y84 (zu_ne (by decide) (zu_of y70 (zu_ne (by decide) (zu_of y56 (zu_ne (by decide) (zu_of y42 (zu_ne (by decide) (zu_of y28 (zu_ne (by decide) (zu_of y14 (zu_ne (by decide) e48)))))))))))))) dX12_movesCells_174 ?_
  refine z_iast (j := 7) hx hb hK hP hD hS 8 rfl rfl (Nat.le_of_ble_eq_true rfl) (Nat.le_of_ble_eq_true rfl) dX12_movesCells_175 (fun ff111 H locs y112 hP hD hS => ?_)
  have hP : va_P K.1 classes [(a0, zO 10 83 g0), (a1, zI K 210000 f1), (a2, zI K 60000 ff99), (a3, zI K 60000 ff101), (a4, zI K 60000 ff103), (a5, zI K 60000 ff105), (a6, zI K 60000 ff107), (a7, zI K 60000 ff109), (a8, zI K 60000 ff111)] H := hP
  have hD : va_D A [(a0, zO 10 83 g0), (a1, zI K 210000 f1), (a2, zI K 60000 ff99), (a3, zI K 60000 ff101), (a4, zI K 60000 ff103), (a5, zI K 60000 ff105), (a6, zI K 60000 ff107), (a7, zI K 60000 ff109), (a8, zI K 60000 ff111)] := hD
  refine lv_iinc (v := 8) (lv' := [(1, .int 8), (3, .int 0), (2, .int 7), (0, .ref a0)]) hx hb dX12_movesCells_176 hl (k := 2) rfl (by decide +kernel) (by decide) rfl (fun ls hl => ?_)
  refine lv_goto (tgt := 2) hx hb dX12_movesCells_179 (by decide) ?_
  refine lv_iload_n hx hb dX12_movesCells_2 rfl (lv_at hl 0 rfl) ?_
  refine lv_aload_n hx hb dX12_movesCells_3 rfl (lv_at hl 3 rfl) ?_
  refine z_get (v := .int 16) hx hb hg hown hK hP i_X12 rfl 0 rfl 32 (by decide) mt1312 e0 dX12_movesCells_4 ?_
  refine lv_icmp_ge (tgt := 182) hx hb dX12_movesCells_7 (by decide) (fun c => absurd c (by decide)) (fun _ => ?_)
  refine lv_aload_n hx hb dX12_movesCells_10 rfl (lv_at hl 3 rfl) ?_
  refine z_get (v := .ref a1) hx hb hg hown hK hP i_X12 rfl 0 rfl 52 (by decide) mt1332 e1 dX12_movesCells_11 ?_
  refine lv_iload_n hx hb dX12_movesCells_14 rfl (lv_at hl 0 rfl) ?_
  refine z_iald (v := 8) (j := 8) hx hb hK hP 1 rfl rfl (Nat.le_of_ble_eq_true rfl) (Nat.le_of_ble_eq_true rfl) e49 dX12_movesCells_15 ?_
  refine lv_istore_n (lv' := [(2, .int 8), (1, .int 8), (3, .int 0), (0, .ref a0)]) hx hb dX12_movesCells_16 rfl hl (by decide) rfl (fun ls hl => ?_)
  refine lv_iload_n hx hb dX12_movesCells_17 rfl (lv_at hl 0 rfl) ?_
  refine lv_iconst (v := (-1)) hx hb dX12_movesCells_18 (by decide) ?_
  refine lv_icmp_eq (tgt := 176) hx hb dX12_movesCells_19 (by decide) (fun c => absurd c (by decide)) (fun _ => ?_)
  refine lv_aload_n hx hb dX12_movesCells_22 rfl (lv_at hl 3 rfl) ?_
  refine z_get (v := .ref a2) hx hb hg hown hK hP i_X12 rfl 0 rfl 33 (by decide) mt1313 e3 dX12_movesCells_23 ?_
  refine lv_iload_n hx hb dX12_movesCells_26 rfl (lv_at hl 1 rfl) ?_
  refine z_iald (v := 0) (j := 8) hx hb hK hP 2 rfl rfl (Nat.le_of_ble_eq_true rfl) (Nat.le_of_ble_eq_true rfl) (zu_of y100 (zu_ne (by decide) (zu_of y86 (zu_ne (by decide) (zu_of y72 (zu_ne (by decide) (zu_of y58 (zu_ne (by decide) (zu_of y44 (zu_ne (by decide) (zu_of y30 (zu_ne (by decide) (zu_of y16 (zu_ne (by decide) (zu_of y2 (zu_ne (by decide) e50)))))))))))))))) dX12_movesCells_27 ?_
  refine lv_iconst (v := 2) hx hb dX12_movesCells_28 (by decide) ?_
  refine lv_icmp_ne (tgt := 36) hx hb dX12_movesCells_29 (by decide) (fun _ => ?_) (fun c => absurd c (by decide))
  refine lv_iconst (v := 0) hx hb dX12_movesCells_36 (by decide) ?_
  refine lv_istore_n (lv' := [(3, .int 0), (2, .int 8), (1, .int 8), (0, .ref a0)]) hx hb dX12_movesCells_37 rfl hl (by decide) rfl (fun ls hl => ?_)
  refine lv_aload_n hx hb dX12_movesCells_38 rfl (lv_at hl 3 rfl) ?_
  refine z_get (v := .ref a2) hx hb hg hown hK hP i_X12 rfl 0 rfl 33 (by decide) mt1313 e3 dX12_movesCells_39 ?_
  refine lv_iload_n hx hb dX12_movesCells_42 rfl (lv_at hl 1 rfl) ?_
  refine lv_aload_n hx hb dX12_movesCells_43 rfl (lv_at hl 3 rfl) ?_
  refine z_get (v := .ref a2) hx hb hg hown hK hP i_X12 rfl 0 rfl 33 (by decide) mt1313 e3 dX12_movesCells_44 ?_
  refine lv_iload_n hx hb dX12_movesCells_47 rfl (lv_at hl 2 rfl) ?_
  refine z_iald (v := 0) (j := 8) hx hb hK hP 2 rfl rfl (Nat.le_of_ble_eq_true rfl) (Nat.le_of_ble_eq_true rfl) (zu_of y100 (zu_ne (by decide) (zu_of y86 (zu_ne (by decide) (zu_of y72 (zu_ne (by decide) (zu_of y58 (zu_ne (by decide) (zu_of y44 (zu_ne (by decide) (zu_of y30 (zu_ne (by decide) (zu_of y16 (zu_ne (by decide) (zu_of y2 (zu_ne (by decide) e50)))))))))))))))) dX12_movesCells_48 ?_
  refine z_iast (j := 8) hx hb hK hP hD hS 2 rfl rfl (Nat.le_of_ble_eq_true rfl) (Nat.le_of_ble_eq_true rfl) dX12_movesCells_49 (fun ff113 H locs y114 hP hD hS => ?_)
  have hP : va_P K.1 classes [(a0, zO 10 83 g0), (a1, zI K 210000 f1), (a2, zI K 60000 ff113), (a3, zI K 60000 ff101), (a4, zI K 60000 ff103), (a5, zI K 60000 ff105), (a6, zI K 60000 ff107), (a7, zI K 60000 ff109), (a8, zI K 60000 ff111)] H := hP
  have hD : va_D A [(a0, zO 10 83 g0), (a1, zI K 210000 f1), (a2, zI K 60000 ff113), (a3, zI K 60000 ff101), (a4, zI K 60000 ff103), (a5, zI K 60000 ff105), (a6, zI K 60000 ff107), (a7, zI K 60000 ff109), (a8, zI K 60000 ff111)] := hD
  refine lv_aload_n hx hb dX12_movesCells_50 rfl (lv_at hl 3 rfl) ?_
  refine z_get (v := .ref a3) hx hb hg hown hK hP i_X12 rfl 0 rfl 34 (by decide) mt1314 e5 dX12_movesCells_51 ?_
  refine lv_iload_n hx hb dX12_movesCells_54 rfl (lv_at hl 1 rfl) ?_
  refine lv_aload_n hx hb dX12_movesCells_55 rfl (lv_at hl 3 rfl) ?_
  refine z_get (v := .ref a3) hx hb hg hown hK hP i_X12 rfl 0 rfl 34 (by decide) mt1314 e5 dX12_movesCells_56 ?_
  refine lv_iload_n hx hb dX12_movesCells_59 rfl (lv_at hl 2 rfl) ?_
  refine z_iald (v := 0) (j := 8) hx hb hK hP 3 rfl rfl (Nat.le_of_ble_eq_true rfl) (Nat.le_of_ble_eq_true rfl) (zu_of y102 (zu_ne (by decide) (zu_of y88 (zu_ne (by decide) (zu_of y74 (zu_ne (by decide) (zu_of y60 (zu_ne (by decide) (zu_of y46 (zu_ne (by decide) (zu_of y32 (zu_ne (by decide) (zu_of y18 (zu_ne (by decide) (zu_of y4 (zu_ne (by decide) e51)))))))))))))))) dX12_movesCells_60 ?_
  refine z_iast (j := 8) hx hb hK hP hD hS 3 rfl rfl (Nat.le_of_ble_eq_true rfl) (Nat.le_of_ble_eq_true rfl) dX12_movesCells_61 (fun ff115 H locs y116 hP hD hS => ?_)
  have hP : va_P K.1 classes [(a0, zO 10 83 g0), (a1, zI K 210000 f1), (a2, zI K 60000 ff113), (a3, zI K 60000 ff115), (a4, zI K 60000 ff103), (a5, zI K 60000 ff105), (a6, zI K 60000 ff107), (a7, zI K 60000 ff109), (a8, zI K 60000 ff111)] H := hP
  have hD : va_D A [(a0, zO 10 83 g0), (a1, zI K 210000 f1), (a2, zI K 60000 ff113), (a3, zI K 60000 ff115), (a4, zI K 60000 ff103), (a5, zI K 60000 ff105), (a6, zI K 60000 ff107), (a7, zI K 60000 ff109), (a8, zI K 60000 ff111)] := hD
  refine lv_aload_n hx hb dX12_movesCells_62 rfl (lv_at hl 3 rfl) ?_
  refine z_get (v := .ref a4) hx hb hg hown hK hP i_X12 rfl 0 rfl 35 (by decide) mt1315 e7 dX12_movesCells_63 ?_
  refine lv_iload_n hx hb dX12_movesCells_66 rfl (lv_at hl 1 rfl) ?_
  refine lv_iload_n hx hb dX12_movesCells_67 rfl (lv_at hl 0 rfl) ?_
  refine lv_if_eq (tgt := 90) hx hb dX12_movesCells_68 (by decide) (fun _ => ?_) (fun c => absurd (by decide) c)
  refine lv_iconst (v := 0) hx hb dX12_movesCells_90 (by decide) ?_
  refine z_iast (j := 8) hx hb hK hP hD hS 4 rfl rfl (Nat.le_of_ble_eq_true rfl) (Nat.le_of_ble_eq_true rfl) dX12_movesCells_91 (fun ff117 H locs y118 hP hD hS => ?_)
  have hP : va_P K.1 classes [(a0, zO 10 83 g0), (a1, zI K 210000 f1), (a2, zI K 60000 ff113), (a3, zI K 60000 ff115), (a4, zI K 60000 ff117), (a5, zI K 60000 ff105), (a6, zI K 60000 ff107), (a7, zI K 60000 ff109), (a8, zI K 60000 ff111)] H := hP
  have hD : va_D A [(a0, zO 10 83 g0), (a1, zI K 210000 f1), (a2, zI K 60000 ff113), (a3, zI K 60000 ff115), (a4, zI K 60000 ff117), (a5, zI K 60000 ff105), (a6, zI K 60000 ff107), (a7, zI K 60000 ff109), (a8, zI K 60000 ff111)] := hD
  refine lv_aload_n hx hb dX12_movesCells_92 rfl (lv_at hl 3 rfl) ?_
  refine z_get (v := .ref a5) hx hb hg hown hK hP i_X12 rfl 0 rfl 36 (by decide) mt1316 e8 dX12_movesCells_93 ?_
  refine lv_iload_n hx hb dX12_movesCells_96 rfl (lv_at hl 1 rfl) ?_
  refine lv_iload_n hx hb dX12_movesCells_97 rfl (lv_at hl 0 rfl) ?_
  refine lv_if_eq (tgt := 120) hx hb dX12_movesCells_98 (by decide) (fun _ => ?_) (fun c => absurd (by decide) c)
  refine lv_iconst (v := 0) hx hb dX12_movesCells_120 (by decide) ?_
  refine z_iast (j := 8) hx hb hK hP hD hS 5 rfl rfl (Nat.le_of_ble_eq_true rfl) (Nat.le_of_ble_eq_true rfl) dX12_movesCells_121 (fun ff119 H locs y120 hP hD hS => ?_)
  have hP : va_P K.1 classes [(a0, zO 10 83 g0), (a1, zI K 210000 f1), (a2, zI K 60000 ff113), (a3, zI K 60000 ff115), (a4, zI K 60000 ff117), (a5, zI K 60000 ff119), (a6, zI K 60000 ff107), (a7, zI K 60000 ff109), (a8, zI K 60000 ff111)] H := hP
  have hD : va_D A [(a0, zO 10 83 g0), (a1, zI K 210000 f1), (a2, zI K 60000 ff113), (a3, zI K 60000 ff115), (a4, zI K 60000 ff117), (a5, zI K 60000 ff119), (a6, zI K 60000 ff107), (a7, zI K 60000 ff109), (a8, zI K 60000 ff111)] := hD
  refine lv_aload_n hx hb dX12_movesCells_122 rfl (lv_at hl 3 rfl) ?_
  refine z_get (v := .ref a6) hx hb hg hown hK hP i_X12 rfl 0 rfl 37 (by decide) mt1317 e9 dX12_movesCells_123 ?_
  refine lv_iload_n hx hb dX12_movesCells_126 rfl (lv_at hl 1 rfl) ?_
  refine lv_aload_n hx hb dX12_movesCells_127 rfl (lv_at hl 3 rfl) ?_
  refine z_get (v := .ref a6) hx hb hg hown hK hP i_X12 rfl 0 rfl 37 (by decide) mt1317 e9 dX12_movesCells_128 ?_
  refine lv_iload_n hx hb dX12_movesCells_131 rfl (lv_at hl 2 rfl) ?_
  refine z_iald (v := 0) (j := 8) hx hb hK hP 6 rfl rfl (Nat.le_of_ble_eq_true rfl) (Nat.le_of_ble_eq_true rfl) (zu_of y108 (zu_ne (by decide) (zu_of y94 (zu_ne (by decide) (zu_of y80 (zu_ne (by decide) (zu_of y66 (zu_ne (by decide) (zu_of y52 (zu_ne (by decide) (zu_of y38 (zu_ne (by decide) (zu_of y24 (zu_ne (by decide) (zu_of y10 (zu_ne (by decide) e52)))))))))))))))) dX12_movesCells_132 ?_
  refine z_iast (j := 8) hx hb hK hP hD hS 6 rfl rfl (Nat.le_of_ble_eq_true rfl) (Nat.le_of_ble_eq_true rfl) dX12_movesCells_133 (fun ff121 H locs y122 hP hD hS => ?_)
  have hP : va_P K.1 classes [(a0, zO 10 83 g0), (a1, zI K 210000 f1), (a2, zI K 60000 ff113), (a3, zI K 60000 ff115), (a4, zI K 60000 ff117), (a5, zI K 60000 ff119), (a6, zI K 60000 ff121), (a7, zI K 60000 ff109), (a8, zI K 60000 ff111)] H := hP
  have hD : va_D A [(a0, zO 10 83 g0), (a1, zI K 210000 f1), (a2, zI K 60000 ff113), (a3, zI K 60000 ff115), (a4, zI K 60000 ff117), (a5, zI K 60000 ff119), (a6, zI K 60000 ff121), (a7, zI K 60000 ff109), (a8, zI K 60000 ff111)] := hD
  refine lv_aload_n hx hb dX12_movesCells_134 rfl (lv_at hl 3 rfl) ?_
  refine z_get (v := .ref a7) hx hb hg hown hK hP i_X12 rfl 0 rfl 38 (by decide) mt1318 e11 dX12_movesCells_135 ?_
  refine lv_iload_n hx hb dX12_movesCells_138 rfl (lv_at hl 1 rfl) ?_
  refine lv_iload_n hx hb dX12_movesCells_139 rfl (lv_at hl 0 rfl) ?_
  refine lv_if_ne (tgt := 149) hx hb dX12_movesCells_140 (by decide) (fun c => absurd (by decide) c) (fun _ => ?_)
  refine lv_iload_n hx hb dX12_movesCells_143 rfl (lv_at hl 2 rfl) ?_
  refine lv_bipush (v := 16) hx hb dX12_movesCells_144 (by decide) ?_
  refine lv_icmp_ge (tgt := 153) hx hb dX12_movesCells_146 (by decide) (fun c => absurd c (by decide)) (fun _ => ?_)
  refine lv_iconst (v := (-1)) hx hb dX12_movesCells_149 (by decide) ?_
  refine lv_goto (tgt := 163) hx hb dX12_movesCells_150 (by decide) ?_
  refine z_iast (j := 8) hx hb hK hP hD hS 7 rfl rfl (Nat.le_of_ble_eq_true rfl) (Nat.le_of_ble_eq_true rfl) dX12_movesCells_163 (fun ff123 H locs y124 hP hD hS => ?_)
  have hP : va_P K.1 classes [(a0, zO 10 83 g0), (a1, zI K 210000 f1), (a2, zI K 60000 ff113), (a3, zI K 60000 ff115), (a4, zI K 60000 ff117), (a5, zI K 60000 ff119), (a6, zI K 60000 ff121), (a7, zI K 60000 ff123), (a8, zI K 60000 ff111)] H := hP
  have hD : va_D A [(a0, zO 10 83 g0), (a1, zI K 210000 f1), (a2, zI K 60000 ff113), (a3, zI K 60000 ff115), (a4, zI K 60000 ff117), (a5, zI K 60000 ff119), (a6, zI K 60000 ff121), (a7, zI K 60000 ff123), (a8, zI K 60000 ff111)] := hD
  refine lv_aload_n hx hb dX12_movesCells_164 rfl (lv_at hl 3 rfl) ?_
  refine z_get (v := .ref a8) hx hb hg hown hK hP i_X12 rfl 0 rfl 39 (by decide) mt1319 e12 dX12_movesCells_165 ?_
  refine lv_iload_n hx hb dX12_movesCells_168 rfl (lv_at hl 1 rfl) ?_
  refine lv_aload_n hx hb dX12_movesCells_169 rfl (lv_at hl 3 rfl) ?_
  refine z_get (v := .ref a8) hx hb hg hown hK hP i_X12 rfl 0 rfl 39 (by decide) mt1319 e12 dX12_movesCells_170 ?_
  refine lv_iload_n hx hb dX12_movesCells_173 rfl (lv_at hl 2 rfl) ?_
  refine z_iald (v := 0) (j := 8) hx hb hK hP 8 rfl rfl (Nat.le_of_ble_eq_true rfl) (Nat.le_of_ble_eq_true rfl) (zu_of y112 (zu_ne (by decide) (zu_of y98 (zu_ne (by decide) (zu_of y84 (zu_ne (by decide) (zu_of y70 (zu_ne (by decide) (zu_of y56 (zu_ne (by decide) (zu_of y42 (zu_ne (by decide) (zu_of y28 (zu_ne (by decide) (zu_of y14 (zu_ne (by decide) e53)))))))))))))))) dX12_movesCells_174 ?_
  refine z_iast (j := 8) hx hb hK hP hD hS 8 rfl rfl (Nat.le_of_ble_eq_true rfl) (Nat.le_of_ble_eq_true rfl) dX12_movesCells_175 (fun ff125 H locs y126 hP hD hS => ?_)
  have hP : va_P K.1 classes [(a0, zO 10 83 g0), (a1, zI K 210000 f1), (a2, zI K 60000 ff113), (a3, zI K 60000 ff115), (a4, zI K 60000 ff117), (a5, zI K 60000 ff119), (a6, zI K 60000 ff121), (a7, zI K 60000 ff123), (a8, zI K 60000 ff125)] H := hP
  have hD : va_D A [(a0, zO 10 83 g0), (a1, zI K 210000 f1), (a2, zI K 60000 ff113), (a3, zI K 60000 ff115), (a4, zI K 60000 ff117), (a5, zI K 60000 ff119), (a6, zI K 60000 ff121), (a7, zI K 60000 ff123), (a8, zI K 60000 ff125)] := hD
  refine lv_iinc (v := 9) (lv' := [(1, .int 9), (3, .int 0), (2, .int 8), (0, .ref a0)]) hx hb dX12_movesCells_176 hl (k := 2) rfl (by decide +kernel) (by decide) rfl (fun ls hl => ?_)
  refine lv_goto (tgt := 2) hx hb dX12_movesCells_179 (by decide) ?_
  refine lv_iload_n hx hb dX12_movesCells_2 rfl (lv_at hl 0 rfl) ?_
  refine lv_aload_n hx hb dX12_movesCells_3 rfl (lv_at hl 3 rfl) ?_
  refine z_get (v := .int 16) hx hb hg hown hK hP i_X12 rfl 0 rfl 32 (by decide) mt1312 e0 dX12_movesCells_4 ?_
  refine lv_icmp_ge (tgt := 182) hx hb dX12_movesCells_7 (by decide) (fun c => absurd c (by decide)) (fun _ => ?_)
  refine lv_aload_n hx hb dX12_movesCells_10 rfl (lv_at hl 3 rfl) ?_
  refine z_get (v := .ref a1) hx hb hg hown hK hP i_X12 rfl 0 rfl 52 (by decide) mt1332 e1 dX12_movesCells_11 ?_
  refine lv_iload_n hx hb dX12_movesCells_14 rfl (lv_at hl 0 rfl) ?_
  refine z_iald (v := 9) (j := 9) hx hb hK hP 1 rfl rfl (Nat.le_of_ble_eq_true rfl) (Nat.le_of_ble_eq_true rfl) e54 dX12_movesCells_15 ?_
  refine lv_istore_n (lv' := [(2, .int 9), (1, .int 9), (3, .int 0), (0, .ref a0)]) hx hb dX12_movesCells_16 rfl hl (by decide) rfl (fun ls hl => ?_)
  refine lv_iload_n hx hb dX12_movesCells_17 rfl (lv_at hl 0 rfl) ?_
  refine lv_iconst (v := (-1)) hx hb dX12_movesCells_18 (by decide) ?_
  refine lv_icmp_eq (tgt := 176) hx hb dX12_movesCells_19 (by decide) (fun c => absurd c (by decide)) (fun _ => ?_)
  refine lv_aload_n hx hb dX12_movesCells_22 rfl (lv_at hl 3 rfl) ?_
  refine z_get (v := .ref a2) hx hb hg hown hK hP i_X12 rfl 0 rfl 33 (by decide) mt1313 e3 dX12_movesCells_23 ?_
  refine lv_iload_n hx hb dX12_movesCells_26 rfl (lv_at hl 1 rfl) ?_
  refine z_iald (v := 0) (j := 9) hx hb hK hP 2 rfl rfl (Nat.le_of_ble_eq_true rfl) (Nat.le_of_ble_eq_true rfl) (zu_of y114 (zu_ne (by decide) (zu_of y100 (zu_ne (by decide) (zu_of y86 (zu_ne (by decide) (zu_of y72 (zu_ne (by decide) (zu_of y58 (zu_ne (by decide) (zu_of y44 (zu_ne (by decide) (zu_of y30 (zu_ne (by decide) (zu_of y16 (zu_ne (by decide) (zu_of y2 (zu_ne (by decide) e55)))))))))))))))))) dX12_movesCells_27 ?_
  refine lv_iconst (v := 2) hx hb dX12_movesCells_28 (by decide) ?_
  refine lv_icmp_ne (tgt := 36) hx hb dX12_movesCells_29 (by decide) (fun _ => ?_) (fun c => absurd c (by decide))
  refine lv_iconst (v := 0) hx hb dX12_movesCells_36 (by decide) ?_
  refine lv_istore_n (lv' := [(3, .int 0), (2, .int 9), (1, .int 9), (0, .ref a0)]) hx hb dX12_movesCells_37 rfl hl (by decide) rfl (fun ls hl => ?_)
  refine lv_aload_n hx hb dX12_movesCells_38 rfl (lv_at hl 3 rfl) ?_
  refine z_get (v := .ref a2) hx hb hg hown hK hP i_X12 rfl 0 rfl 33 (by decide) mt1313 e3 dX12_movesCells_39 ?_
  refine lv_iload_n hx hb dX12_movesCells_42 rfl (lv_at hl 1 rfl) ?_
  refine lv_aload_n hx hb dX12_movesCells_43 rfl (lv_at hl 3 rfl) ?_
  refine z_get (v := .ref a2) hx hb hg hown hK hP i_X12 rfl 0 rfl 33 (by decide) mt1313 e3 dX12_movesCells_44 ?_
  refine lv_iload_n hx hb dX12_movesCells_47 rfl (lv_at hl 2 rfl) ?_
  refine z_iald (v := 0) (j := 9) hx hb hK hP 2 rfl rfl (Nat.le_of_ble_eq_true rfl) (Nat.le_of_ble_eq_true rfl) (zu_of y114 (zu_ne (by decide) (zu_of y100 (zu_ne (by decide) (zu_of y86 (zu_ne (by decide) (zu_of y72 (zu_ne (by decide) (zu_of y58 (zu_ne (by decide) (zu_of y44 (zu_ne (by decide) (zu_of y30 (zu_ne (by decide) (zu_of y16 (zu_ne (by decide) (zu_of y2 (zu_ne (by decide) e55)))))))))))))))))) dX12_movesCells_48 ?_
  refine z_iast (j := 9) hx hb hK hP hD hS 2 rfl rfl (Nat.le_of_ble_eq_true rfl) (Nat.le_of_ble_eq_true rfl) dX12_movesCells_49 (fun ff127 H locs y128 hP hD hS => ?_)
  have hP : va_P K.1 classes [(a0, zO 10 83 g0), (a1, zI K 210000 f1), (a2, zI K 60000 ff127), (a3, zI K 60000 ff115), (a4, zI K 60000 ff117), (a5, zI K 60000 ff119), (a6, zI K 60000 ff121), (a7, zI K 60000 ff123), (a8, zI K 60000 ff125)] H := hP
  have hD : va_D A [(a0, zO 10 83 g0), (a1, zI K 210000 f1), (a2, zI K 60000 ff127), (a3, zI K 60000 ff115), (a4, zI K 60000 ff117), (a5, zI K 60000 ff119), (a6, zI K 60000 ff121), (a7, zI K 60000 ff123), (a8, zI K 60000 ff125)] := hD
  refine lv_aload_n hx hb dX12_movesCells_50 rfl (lv_at hl 3 rfl) ?_
  refine z_get (v := .ref a3) hx hb hg hown hK hP i_X12 rfl 0 rfl 34 (by decide) mt1314 e5 dX12_movesCells_51 ?_
  refine lv_iload_n hx hb dX12_movesCells_54 rfl (lv_at hl 1 rfl) ?_
  refine lv_aload_n hx hb dX12_movesCells_55 rfl (lv_at hl 3 rfl) ?_
  refine z_get (v := .ref a3) hx hb hg hown hK hP i_X12 rfl 0 rfl 34 (by decide) mt1314 e5 dX12_movesCells_56 ?_
  refine lv_iload_n hx hb dX12_movesCells_59 rfl (lv_at hl 2 rfl) ?_
  refine z_iald (v := 0) (j := 9) hx hb hK hP 3 rfl rfl (Nat.le_of_ble_eq_true rfl) (Nat.le_of_ble_eq_true rfl) (zu_of y116 (zu_ne (by decide) (zu_of y102 (zu_ne (by decide) (zu_of y88 (zu_ne (by decide) (zu_of y74 (zu_ne (by decide) (zu_of y60 (zu_ne (by decide) (zu_of y46 (zu_ne (by decide) (zu_of y32 (zu_ne (by decide) (zu_of y18 (zu_ne (by decide) (zu_of y4 (zu_ne (by decide) e56)))))))))))))))))) dX12_movesCells_60 ?_
  refine z_iast (j := 9) hx hb hK hP hD hS 3 rfl rfl (Nat.le_of_ble_eq_true rfl) (Nat.le_of_ble_eq_true rfl) dX12_movesCells_61 (fun ff129 H locs y130 hP hD hS => ?_)
  have hP : va_P K.1 classes [(a0, zO 10 83 g0), (a1, zI K 210000 f1), (a2, zI K 60000 ff127), (a3, zI K 60000 ff129), (a4, zI K 60000 ff117), (a5, zI K 60000 ff119), (a6, zI K 60000 ff121), (a7, zI K 60000 ff123), (a8, zI K 60000 ff125)] H := hP
  have hD : va_D A [(a0, zO 10 83 g0), (a1, zI K 210000 f1), (a2, zI K 60000 ff127), (a3, zI K 60000 ff129), (a4, zI K 60000 ff117), (a5, zI K 60000 ff119), (a6, zI K 60000 ff121), (a7, zI K 60000 ff123), (a8, zI K 60000 ff125)] := hD
  refine lv_aload_n hx hb dX12_movesCells_62 rfl (lv_at hl 3 rfl) ?_
  refine z_get (v := .ref a4) hx hb hg hown hK hP i_X12 rfl 0 rfl 35 (by decide) mt1315 e7 dX12_movesCells_63 ?_
  refine lv_iload_n hx hb dX12_movesCells_66 rfl (lv_at hl 1 rfl) ?_
  refine lv_iload_n hx hb dX12_movesCells_67 rfl (lv_at hl 0 rfl) ?_
  refine lv_if_eq (tgt := 90) hx hb dX12_movesCells_68 (by decide) (fun _ => ?_) (fun c => absurd (by decide) c)
  refine lv_iconst (v := 0) hx hb dX12_movesCells_90 (by decide) ?_
  refine z_iast (j := 9) hx hb hK hP hD hS 4 rfl rfl (Nat.le_of_ble_eq_true rfl) (Nat.le_of_ble_eq_true rfl) dX12_movesCells_91 (fun ff131 H locs y132 hP hD hS => ?_)
  have hP : va_P K.1 classes [(a0, zO 10 83 g0), (a1, zI K 210000 f1), (a2, zI K 60000 ff127), (a3, zI K 60000 ff129), (a4, zI K 60000 ff131), (a5, zI K 60000 ff119), (a6, zI K 60000 ff121), (a7, zI K 60000 ff123), (a8, zI K 60000 ff125)] H := hP
  have hD : va_D A [(a0, zO 10 83 g0), (a1, zI K 210000 f1), (a2, zI K 60000 ff127), (a3, zI K 60000 ff129), (a4, zI K 60000 ff131), (a5, zI K 60000 ff119), (a6, zI K 60000 ff121), (a7, zI K 60000 ff123), (a8, zI K 60000 ff125)] := hD
  refine lv_aload_n hx hb dX12_movesCells_92 rfl (lv_at hl 3 rfl) ?_
  refine z_get (v := .ref a5) hx hb hg hown hK hP i_X12 rfl 0 rfl 36 (by decide) mt1316 e8 dX12_movesCells_93 ?_
  refine lv_iload_n hx hb dX12_movesCells_96 rfl (lv_at hl 1 rfl) ?_
  refine lv_iload_n hx hb dX12_movesCells_97 rfl (lv_at hl 0 rfl) ?_
  refine lv_if_eq (tgt := 120) hx hb dX12_movesCells_98 (by decide) (fun _ => ?_) (fun c => absurd (by decide) c)
  refine lv_iconst (v := 0) hx hb dX12_movesCells_120 (by decide) ?_
  refine z_iast (j := 9) hx hb hK hP hD hS 5 rfl rfl (Nat.le_of_ble_eq_true rfl) (Nat.le_of_ble_eq_true rfl) dX12_movesCells_121 (fun ff133 H locs y134 hP hD hS => ?_)
  have hP : va_P K.1 classes [(a0, zO 10 83 g0), (a1, zI K 210000 f1), (a2, zI K 60000 ff127), (a3, zI K 60000 ff129), (a4, zI K 60000 ff131), (a5, zI K 60000 ff133), (a6, zI K 60000 ff121), (a7, zI K 60000 ff123), (a8, zI K 60000 ff125)] H := hP
  have hD : va_D A [(a0, zO 10 83 g0), (a1, zI K 210000 f1), (a2, zI K 60000 ff127), (a3, zI K 60000 ff129), (a4, zI K 60000 ff131), (a5, zI K 60000 ff133), (a6, zI K 60000 ff121), (a7, zI K 60000 ff123), (a8, zI K 60000 ff125)] := hD
  refine lv_aload_n hx hb dX12_movesCells_122 rfl (lv_at hl 3 rfl) ?_
  refine z_get (v := .ref a6) hx hb hg hown hK hP i_X12 rfl 0 rfl 37 (by decide) mt1317 e9 dX12_movesCells_123 ?_
  refine lv_iload_n hx hb dX12_movesCells_126 rfl (lv_at hl 1 rfl) ?_
  refine lv_aload_n hx hb dX12_movesCells_127 rfl (lv_at hl 3 rfl) ?_
  refine z_get (v := .ref a6) hx hb hg hown hK hP i_X12 rfl 0 rfl 37 (by decide) mt1317 e9 dX12_movesCells_128 ?_
  refine lv_iload_n hx hb dX12_movesCells_131 rfl (lv_at hl 2 rfl) ?_
  refine z_iald (v := 0) (j := 9) hx hb hK hP 6 rfl rfl (Nat.le_of_ble_eq_true rfl) (Nat.le_of_ble_eq_true rfl) (zu_of y122 (zu_ne (by decide) (zu_of y108 (zu_ne (by decide) (zu_of y94 (zu_ne (by decide) (zu_of y80 (zu_ne (by decide) (zu_of y66 (zu_ne (by decide) (zu_of y52 (zu_ne (by decide) (zu_of y38 (zu_ne (by decide) (zu_of y24 (zu_ne (by decide) (zu_of y10 (zu_ne (by decide) e57)))))))))))))))))) dX12_movesCells_132 ?_
  refine z_iast (j := 9) hx hb hK hP hD hS 6 rfl rfl (Nat.le_of_ble_eq_true rfl) (Nat.le_of_ble_eq_true rfl) dX12_movesCells_133 (fun ff135 H locs y136 hP hD hS => ?_)
  have hP : va_P K.1 classes [(a0, zO 10 83 g0), (a1, zI K 210000 f1), (a2, zI K 60000 ff127), (a3, zI K 60000 ff129), (a4, zI K 60000 ff131), (a5, zI K 60000 ff133), (a6, zI K 60000 ff135), (a7, zI K 60000 ff123), (a8, zI K 60000 ff125)] H := hP
  have hD : va_D A [(a0, zO 10 83 g0), (a1, zI K 210000 f1), (a2, zI K 60000 ff127), (a3, zI K 60000 ff129), (a4, zI K 60000 ff131), (a5, zI K 60000 ff133), (a6, zI K 60000 ff135), (a7, zI K 60000 ff123), (a8, zI K 60000 ff125)] := hD
  refine lv_aload_n hx hb dX12_movesCells_134 rfl (lv_at hl 3 rfl) ?_
  refine z_get (v := .ref a7) hx hb hg hown hK hP i_X12 rfl 0 rfl 38 (by decide) mt1318 e11 dX12_movesCells_135 ?_
  refine lv_iload_n hx hb dX12_movesCells_138 rfl (lv_at hl 1 rfl) ?_
  refine lv_iload_n hx hb dX12_movesCells_139 rfl (lv_at hl 0 rfl) ?_
  refine lv_if_ne (tgt := 149) hx hb dX12_movesCells_140 (by decide) (fun c => absurd (by decide) c) (fun _ => ?_)
  refine lv_iload_n hx hb dX12_movesCells_143 rfl (lv_at hl 2 rfl) ?_
  refine lv_bipush (v := 16) hx hb dX12_movesCells_144 (by decide) ?_
  refine lv_icmp_ge (tgt := 153) hx hb dX12_movesCells_146 (by decide) (fun c => absurd c (by decide)) (fun _ => ?_)
  refine lv_iconst (v := (-1)) hx hb dX12_movesCells_149 (by decide) ?_
  refine lv_goto (tgt := 163) hx hb dX12_movesCells_150 (by decide) ?_
  refine z_iast (j := 9) hx hb hK hP hD hS 7 rfl rfl (Nat.le_of_ble_eq_true rfl) (Nat.le_of_ble_eq_true rfl) dX12_movesCells_163 (fun ff137 H locs y138 hP hD hS => ?_)
  have hP : va_P K.1 classes [(a0, zO 10 83 g0), (a1, zI K 210000 f1), (a2, zI K 60000 ff127), (a3, zI K 60000 ff129), (a4, zI K 60000 ff131), (a5, zI K 60000 ff133), (a6, zI K 60000 ff135), (a7, zI K 60000 ff137), (a8, zI K 60000 ff125)] H := hP
  have hD : va_D A [(a0, zO 10 83 g0), (a1, zI K 210000 f1), (a2, zI K 60000 ff127), (a3, zI K 60000 ff129), (a4, zI K 60000 ff131), (a5, zI K 60000 ff133), (a6, zI K 60000 ff135), (a7, zI K 60000 ff137), (a8, zI K 60000 ff125)] := hD
  refine lv_aload_n hx hb dX12_movesCells_164 rfl (lv_at hl 3 rfl) ?_
  refine z_get (v := .ref a8) hx hb hg hown hK hP i_X12 rfl 0 rfl 39 (by decide) mt1319 e12 dX12_movesCells_165 ?_
  refine lv_iload_n hx hb dX12_movesCells_168 rfl (lv_at hl 1 rfl) ?_
  refine lv_aload_n hx hb dX12_movesCells_169 rfl (lv_at hl 3 rfl) ?_
  refine z_get (v := .ref a8) hx hb hg hown hK hP i_X12 rfl 0 rfl 39 (by decide) mt1319 e12 dX12_movesCells_170 ?_
  refine lv_iload_n hx hb dX12_movesCells_173 rfl (lv_at hl 2 rfl) ?_
  refine z_iald (v := 0) (j := 9) hx hb hK hP 8 rfl rfl (Nat.le_of_ble_eq_true rfl) (Nat.le_of_ble_eq_true rfl) (zu_of y126 (zu_ne (by decide) (zu_of y112 (zu_ne (by decide) (zu_of y98 (zu_ne (by decide) (zu_of y84 (zu_ne (by decide) (zu_of y70 (zu_ne (by decide) (zu_of y56 (zu_ne (by decide) (zu_of y42 (zu_ne (by decide) (zu_of y28 (zu_ne (by decide) (zu_of y14 (zu_ne (by decide) e58)))))))))))))))))) dX12_movesCells_174 ?_
  refine z_iast (j := 9) hx hb hK hP hD hS 8 rfl rfl (Nat.le_of_ble_eq_true rfl) (Nat.le_of_ble_eq_true rfl) dX12_movesCells_175 (fun ff139 H locs y140 hP hD hS => ?_)
  have hP : va_P K.1 classes [(a0, zO 10 83 g0), (a1, zI K 210000 f1), (a2, zI K 60000 ff127), (a3, zI K 60000 ff129), (a4, zI K 60000 ff131), (a5, zI K 60000 ff133), (a6, zI K 60000 ff135), (a7, zI K 60000 ff137), (a8, zI K 60000 ff139)] H := hP
  have hD : va_D A [(a0, zO 10 83 g0), (a1, zI K 210000 f1), (a2, zI K 60000 ff127), (a3, zI K 60000 ff129), (a4, zI K 60000 ff131), (a5, zI K 60000 ff133), (a6, zI K 60000 ff135), (a7, zI K 60000 ff137), (a8, zI K 60000 ff139)] := hD
  refine lv_iinc (v := 10) (lv' := [(1, .int 10), (3, .int 0), (2, .int 9), (0, .ref a0)]) hx hb dX12_movesCells_176 hl (k := 2) rfl (by decide +kernel) (by decide) rfl (fun ls hl => ?_)
  refine lv_goto (tgt := 2) hx hb dX12_movesCells_179 (by decide) ?_
  refine lv_iload_n hx hb dX12_movesCells_2 rfl (lv_at hl 0 rfl) ?_
  refine lv_aload_n hx hb dX12_movesCells_3 rfl (lv_at hl 3 rfl) ?_
  refine z_get (v := .int 16) hx hb hg hown hK hP i_X12 rfl 0 rfl 32 (by decide) mt1312 e0 dX12_movesCells_4 ?_
  refine lv_icmp_ge (tgt := 182) hx hb dX12_movesCells_7 (by decide) (fun c => absurd c (by decide)) (fun _ => ?_)
  refine lv_aload_n hx hb dX12_movesCells_10 rfl (lv_at hl 3 rfl) ?_
  refine z_get (v := .ref a1) hx hb hg hown hK hP i_X12 rfl 0 rfl 52 (by decide) mt1332 e1 dX12_movesCells_11 ?_
  refine lv_iload_n hx hb dX12_movesCells_14 rfl (lv_at hl 0 rfl) ?_
  refine z_iald (v := 10) (j := 10) hx hb hK hP 1 rfl rfl (Nat.le_of_ble_eq_true rfl) (Nat.le_of_ble_eq_true rfl) e59 dX12_movesCells_15 ?_
  refine lv_istore_n (lv' := [(2, .int 10), (1, .int 10), (3, .int 0), (0, .ref a0)]) hx hb dX12_movesCells_16 rfl hl (by decide) rfl (fun ls hl => ?_)
  refine lv_iload_n hx hb dX12_movesCells_17 rfl (lv_at hl 0 rfl) ?_
  refine lv_iconst (v := (-1)) hx hb dX12_movesCells_18 (by decide) ?_
  refine lv_icmp_eq (tgt := 176) hx hb dX12_movesCells_19 (by decide) (fun c => absurd c (by decide)) (fun _ => ?_)
  refine lv_aload_n hx hb dX12_movesCells_22 rfl (lv_at hl 3 rfl) ?_
  refine z_get (v := .ref a2) hx hb hg hown hK hP i_X12 rfl 0 rfl 33 (by decide) mt1313 e3 dX12_movesCells_23 ?_
  refine lv_iload_n hx hb dX12_movesCells_26 rfl (lv_at hl 1 rfl) ?_
  refine z_iald (v := 0) (j := 10) hx hb hK hP 2 rfl rfl (Nat.le_of_ble_eq_true rfl) (Nat.le_of_ble_eq_true rfl) (zu_of y128 (zu_ne (by decide) (zu_of y114 (zu_ne (by decide) (zu_of y100 (zu_ne (by decide) (zu_of y86 (zu_ne (by decide) (zu_of y72 (zu_ne (by decide) (zu_of y58 (zu_ne (by decide) (zu_of y44 (zu_ne (by decide) (zu_of y30 (zu_ne (by decide) (zu_of y16 (zu_ne (by decide) (zu_of y2 (zu_ne (by decide) e60)))))))))))))))))))) dX12_movesCells_27 ?_
  refine lv_iconst (v := 2) hx hb dX12_movesCells_28 (by decide) ?_
  refine lv_icmp_ne (tgt := 36) hx hb dX12_movesCells_29 (by decide) (fun _ => ?_) (fun c => absurd c (by decide))
  refine lv_iconst (v := 0) hx hb dX12_movesCells_36 (by decide) ?_
  refine lv_istore_n (lv' := [(3, .int 0), (2, .int 10), (1, .int 10), (0, .ref a0)]) hx hb dX12_movesCells_37 rfl hl (by decide) rfl (fun ls hl => ?_)
  refine lv_aload_n hx hb dX12_movesCells_38 rfl (lv_at hl 3 rfl) ?_
  refine z_get (v := .ref a2) hx hb hg hown hK hP i_X12 rfl 0 rfl 33 (by decide) mt1313 e3 dX12_movesCells_39 ?_
  refine lv_iload_n hx hb dX12_movesCells_42 rfl (lv_at hl 1 rfl) ?_
  refine lv_aload_n hx hb dX12_movesCells_43 rfl (lv_at hl 3 rfl) ?_
  refine z_get (v := .ref a2) hx hb hg hown hK hP i_X12 rfl 0 rfl 33 (by decide) mt1313 e3 dX12_movesCells_44 ?_
  refine lv_iload_n hx hb dX12_movesCells_47 rfl (lv_at hl 2 rfl) ?_
  refine z_iald (v := 0) (j := 10) hx hb hK hP 2 rfl rfl (Nat.le_of_ble_eq_true rfl) (Nat.le_of_ble_eq_true rfl) (zu_of y128 (zu_ne (by decide) (zu_of y114 (zu_ne (by decide) (zu_of y100 (zu_ne (by decide) (zu_of y86 (zu_ne (by decide) (zu_of y72 (zu_ne (by decide) (zu_of y58 (zu_ne (by decide) (zu_of y44 (zu_ne (by decide) (zu_of y30 (zu_ne (by decide) (zu_of y16 (zu_ne (by decide) (zu_of y2 (zu_ne (by decide) e60)))))))))))))))))))) dX12_movesCells_48 ?_
  refine z_iast (j := 10) hx hb hK hP hD hS 2 rfl rfl (Nat.le_of_ble_eq_true rfl) (Nat.le_of_ble_eq_true rfl) dX12_movesCells_49 (fun ff141 H locs y142 hP hD hS => ?_)
  have hP : va_P K.1 classes [(a0, zO 10 83 g0), (a1, zI K 210000 f1), (a2, zI K 60000 ff141), (a3, zI K 60000 ff129), (a4, zI K 60000 ff131), (a5, zI K 60000 ff133), (a6, zI K 60000 ff135), (a7, zI K 60000 ff137), (a8, zI K 60000 ff139)] H := hP
  have hD : va_D A [(a0, zO 10 83 g0), (a1, zI K 210000 f1), (a2, zI K 60000 ff141), (a3, zI K 60000 ff129), (a4, zI K 60000 ff131), (a5, zI K 60000 ff133), (a6, zI K 60000 ff135), (a7, zI K 60000 ff137), (a8, zI K 60000 ff139)] := hD
  refine lv_aload_n hx hb dX12_movesCells_50 rfl (lv_at hl 3 rfl) ?_
  refine z_get (v := .ref a3) hx hb hg hown hK hP i_X12 rfl 0 rfl 34 (by decide) mt1314 e5 dX12_movesCells_51 ?_
  refine lv_iload_n hx hb dX12_movesCells_54 rfl (lv_at hl 1 rfl) ?_
  refine lv_aload_n hx hb dX12_movesCells_55 rfl (lv_at hl 3 rfl) ?_
  refine z_get (v := .ref a3) hx hb hg hown hK hP i_X12 rfl 0 rfl 34 (by decide) mt1314 e5 dX12_movesCells_56 ?_
  refine lv_iload_n hx hb dX12_movesCells_59 rfl (lv_at hl 2 rfl) ?_
  refine z_iald (v := 0) (j := 10) hx hb hK hP 3 rfl rfl (Nat.le_of_ble_eq_true rfl) (Nat.le_of_ble_eq_true rfl) (zu_of y130 (zu_ne (by decide) (zu_of y116 (zu_ne (by decide) (zu_of y102 (zu_ne (by decide) (zu_of y88 (zu_ne (by decide) (zu_of y74 (zu_ne (by decide) (zu_of y60 (zu_ne (by decide) (zu_of y46 (zu_ne (by decide) (zu_of y32 (zu_ne (by decide) (zu_of y18 (zu_ne (by decide) (zu_of y4 (zu_ne (by decide) e61)))))))))))))))))))) dX12_movesCells_60 ?_
  refine z_iast (j := 10) hx hb hK hP hD hS 3 rfl rfl (Nat.le_of_ble_eq_true rfl) (Nat.le_of_ble_eq_true rfl) dX12_movesCells_61 (fun ff143 H locs y144 hP hD hS => ?_)
  have hP : va_P K.1 classes [(a0, zO 10 83 g0), (a1, zI K 210000 f1), (a2, zI K 60000 ff141), (a3, zI K 60000 ff143), (a4, zI K 60000 ff131), (a5, zI K 60000 ff133), (a6, zI K 60000 ff135), (a7, zI K 60000 ff137), (a8, zI K 60000 ff139)] H := hP
  have hD : va_D A [(a0, zO 10 83 g0), (a1, zI K 210000 f1), (a2, zI K 60000 ff141), (a3, zI K 60000 ff143), (a4, zI K 60000 ff131), (a5, zI K 60000 ff133), (a6, zI K 60000 ff135), (a7, zI K 60000 ff137), (a8, zI K 60000 ff139)] := hD
  refine lv_aload_n hx hb dX12_movesCells_62 rfl (lv_at hl 3 rfl) ?_
  refine z_get (v := .ref a4) hx hb hg hown hK hP i_X12 rfl 0 rfl 35 (by decide) mt1315 e7 dX12_movesCells_63 ?_
  refine lv_iload_n hx hb dX12_movesCells_66 rfl (lv_at hl 1 rfl) ?_
  refine lv_iload_n hx hb dX12_movesCells_67 rfl (lv_at hl 0 rfl) ?_
  refine lv_if_eq (tgt := 90) hx hb dX12_movesCells_68 (by decide) (fun _ => ?_) (fun c => absurd (by decide) c)
  refine lv_iconst (v := 0) hx hb dX12_movesCells_90 (by decide) ?_
  refine z_iast (j := 10) hx hb hK hP hD hS 4 rfl rfl (Nat.le_of_ble_eq_true rfl) (Nat.le_of_ble_eq_true rfl) dX12_movesCells_91 (fun ff145 H locs y146 hP hD hS => ?_)
  have hP : va_P K.1 classes [(a0, zO 10 83 g0), (a1, zI K 210000 f1), (a2, zI K 60000 ff141), (a3, zI K 60000 ff143), (a4, zI K 60000 ff145), (a5, zI K 60000 ff133), (a6, zI K 60000 ff135), (a7, zI K 60000 ff137), (a8, zI K 60000 ff139)] H := hP
  have hD : va_D A [(a0, zO 10 83 g0), (a1, zI K 210000 f1), (a2, zI K 60000 ff141), (a3, zI K 60000 ff143), (a4, zI K 60000 ff145), (a5, zI K 60000 ff133), (a6, zI K 60000 ff135), (a7, zI K 60000 ff137), (a8, zI K 60000 ff139)] := hD
  refine lv_aload_n hx hb dX12_movesCells_92 rfl (lv_at hl 3 rfl) ?_
  refine z_get (v := .ref a5) hx hb hg hown hK hP i_X12 rfl 0 rfl 36 (by decide) mt1316 e8 dX12_movesCells_93 ?_
  refine lv_iload_n hx hb dX12_movesCells_96 rfl (lv_at hl 1 rfl) ?_
  refine lv_iload_n hx hb dX12_movesCells_97 rfl (lv_at hl 0 rfl) ?_
  refine lv_if_eq (tgt := 120) hx hb dX12_movesCells_98 (by decide) (fun _ => ?_) (fun c => absurd (by decide) c)
  refine lv_iconst (v := 0) hx hb dX12_movesCells_120 (by decide) ?_
  refine z_iast (j := 10) hx hb hK hP hD hS 5 rfl rfl (Nat.le_of_ble_eq_true rfl) (Nat.le_of_ble_eq_true rfl) dX12_movesCells_121 (fun ff147 H locs y148 hP hD hS => ?_)
  have hP : va_P K.1 classes [(a0, zO 10 83 g0), (a1, zI K 210000 f1), (a2, zI K 60000 ff141), (a3, zI K 60000 ff143), (a4, zI K 60000 ff145), (a5, zI K 60000 ff147), (a6, zI K 60000 ff135), (a7, zI K 60000 ff137), (a8, zI K 60000 ff139)] H := hP
  have hD : va_D A [(a0, zO 10 83 g0), (a1, zI K 210000 f1), (a2, zI K 60000 ff141), (a3, zI K 60000 ff143), (a4, zI K 60000 ff145), (a5, zI K 60000 ff147), (a6, zI K 60000 ff135), (a7, zI K 60000 ff137), (a8, zI K 60000 ff139)] := hD
  refine lv_aload_n hx hb dX12_movesCells_122 rfl (lv_at hl 3 rfl) ?_
  refine z_get (v := .ref a6) hx hb hg hown hK hP i_X12 rfl 0 rfl 37 (by decide) mt1317 e9 dX12_movesCells_123 ?_
  refine lv_iload_n hx hb dX12_movesCells_126 rfl (lv_at hl 1 rfl) ?_
  refine lv_aload_n hx hb dX12_movesCells_127 rfl (lv_at hl 3 rfl) ?_
  refine z_get (v := .ref a6) hx hb hg hown hK hP i_X12 rfl 0 rfl 37 (by decide) mt1317 e9 dX12_movesCells_128 ?_
  refine lv_iload_n hx hb dX12_movesCells_131 rfl (lv_at hl 2 rfl) ?_
  refine z_iald (v := 0) (j := 10) hx hb hK hP 6 rfl rfl (Nat.le_of_ble_eq_true rfl) (Nat.le_of_ble_eq_true rfl) (zu_of y136 (zu_ne (by decide) (zu_of y122 (zu_ne (by decide) (zu_of y108 (zu_ne (by decide) (zu_of y94 (zu_ne (by decide) (zu_of y80 (zu_ne (by decide) (zu_of y66 (zu_ne (by decide) (zu_of y52 (zu_ne (by decide) (zu_of y38 (zu_ne (by decide) (zu_of y24 (zu_ne (by decide) (zu_of y10 (zu_ne (by decide) e62)))))))))))))))))))) dX12_movesCells_132 ?_
  refine z_iast (j := 10) hx hb hK hP hD hS 6 rfl rfl (Nat.le_of_ble_eq_true rfl) (Nat.le_of_ble_eq_true rfl) dX12_movesCells_133 (fun ff149 H locs y150 hP hD hS => ?_)
  have hP : va_P K.1 classes [(a0, zO 10 83 g0), (a1, zI K 210000 f1), (a2, zI K 60000 ff141), (a3, zI K 60000 ff143), (a4, zI K 60000 ff145), (a5, zI K 60000 ff147), (a6, zI K 60000 ff149), (a7, zI K 60000 ff137), (a8, zI K 60000 ff139)] H := hP
  have hD : va_D A [(a0, zO 10 83 g0), (a1, zI K 210000 f1), (a2, zI K 60000 ff141), (a3, zI K 60000 ff143), (a4, zI K 60000 ff145), (a5, zI K 60000 ff147), (a6, zI K 60000 ff149), (a7, zI K 60000 ff137), (a8, zI K 60000 ff139)] := hD
  refine lv_aload_n hx hb dX12_movesCells_134 rfl (lv_at hl 3 rfl) ?_
  refine z_get (v := .ref a7) hx hb hg hown hK hP i_X12 rfl 0 rfl 38 (by decide) mt1318 e11 dX12_movesCells_135 ?_
  refine lv_iload_n hx hb dX12_movesCells_138 rfl (lv_at hl 1 rfl) ?_
  refine lv_iload_n hx hb dX12_movesCells_139 rfl (lv_at hl 0 rfl) ?_
  refine lv_if_ne (tgt := 149) hx hb dX12_movesCells_140 (by decide) (fun c => absurd (by decide) c) (fun _ => ?_)
  refine lv_iload_n hx hb dX12_movesCells_143 rfl (lv_at hl 2 rfl) ?_
  refine lv_bipush (v := 16) hx hb dX12_movesCells_144 (by decide) ?_
  refine lv_icmp_ge (tgt := 153) hx hb dX12_movesCells_146 (by decide) (fun c => absurd c (by decide)) (fun _ => ?_)
  refine lv_iconst (v := (-1)) hx hb dX12_movesCells_149 (by decide) ?_
  refine lv_goto (tgt := 163) hx hb dX12_movesCells_150 (by decide) ?_
  refine z_iast (j := 10) hx hb hK hP hD hS 7 rfl rfl (Nat.le_of_ble_eq_true rfl) (Nat.le_of_ble_eq_true rfl) dX12_movesCells_163 (fun ff151 H locs y152 hP hD hS => ?_)
  have hP : va_P K.1 classes [(a0, zO 10 83 g0), (a1, zI K 210000 f1), (a2, zI K 60000 ff141), (a3, zI K 60000 ff143), (a4, zI K 60000 ff145), (a5, zI K 60000 ff147), (a6, zI K 60000 ff149), (a7, zI K 60000 ff151), (a8, zI K 60000 ff139)] H := hP
  have hD : va_D A [(a0, zO 10 83 g0), (a1, zI K 210000 f1), (a2, zI K 60000 ff141), (a3, zI K 60000 ff143), (a4, zI K 60000 ff145), (a5, zI K 60000 ff147), (a6, zI K 60000 ff149), (a7, zI K 60000 ff151), (a8, zI K 60000 ff139)] := hD
  refine lv_aload_n hx hb dX12_movesCells_164 rfl (lv_at hl 3 rfl) ?_
  refine z_get (v := .ref a8) hx hb hg hown hK hP i_X12 rfl 0 rfl 39 (by decide) mt1319 e12 dX12_movesCells_165 ?_
  refine lv_iload_n hx hb dX12_movesCells_168 rfl (lv_at hl 1 rfl) ?_
  refine lv_aload_n hx hb dX12_movesCells_169 rfl (lv_at hl 3 rfl) ?_
  refine z_get (v := .ref a8) hx hb hg hown hK hP i_X12 rfl 0 rfl 39 (by decide) mt1319 e12 dX12_movesCells_170 ?_
  refine lv_iload_n hx hb dX12_movesCells_173 rfl (lv_at hl 2 rfl) ?_
  refine z_iald (v := 0) (j := 10) hx hb hK hP 8 rfl rfl (Nat.le_of_ble_eq_true rfl) (Nat.le_of_ble_eq_true rfl) (zu_of y140 (zu_ne (by decide) (zu_of y126 (zu_ne (by decide) (zu_of y112 (zu_ne (by decide) (zu_of y98 (zu_ne (by decide) (zu_of y84 (zu_ne (by decide) (zu_of y70 (zu_ne (by decide) (zu_of y56 (zu_ne (by decide) (zu_of y42 (zu_ne (by decide) (zu_of y28 (zu_ne (by decide) (zu_of y14 (zu_ne (by decide) e63)))))))))))))))))))) dX12_movesCells_174 ?_
  refine z_iast (j := 10) hx hb hK hP hD hS 8 rfl rfl (Nat.le_of_ble_eq_true rfl) (Nat.le_of_ble_eq_true rfl) dX12_movesCells_175 (fun ff153 H locs y154 hP hD hS => ?_)
  have hP : va_P K.1 classes [(a0, zO 10 83 g0), (a1, zI K 210000 f1), (a2, zI K 60000 ff141), (a3, zI K 60000 ff143), (a4, zI K 60000 ff145), (a5, zI K 60000 ff147), (a6, zI K 60000 ff149), (a7, zI K 60000 ff151), (a8, zI K 60000 ff153)] H := hP
  have hD : va_D A [(a0, zO 10 83 g0), (a1, zI K 210000 f1), (a2, zI K 60000 ff141), (a3, zI K 60000 ff143), (a4, zI K 60000 ff145), (a5, zI K 60000 ff147), (a6, zI K 60000 ff149), (a7, zI K 60000 ff151), (a8, zI K 60000 ff153)] := hD
  refine lv_iinc (v := 11) (lv' := [(1, .int 11), (3, .int 0), (2, .int 10), (0, .ref a0)]) hx hb dX12_movesCells_176 hl (k := 2) rfl (by decide +kernel) (by decide) rfl (fun ls hl => ?_)
  refine lv_goto (tgt := 2) hx hb dX12_movesCells_179 (by decide) ?_
  refine lv_iload_n hx hb dX12_movesCells_2 rfl (lv_at hl 0 rfl) ?_
  refine lv_aload_n hx hb dX12_movesCells_3 rfl (lv_at hl 3 rfl) ?_
  refine z_get (v := .int 16) hx hb hg hown hK hP i_X12 rfl 0 rfl 32 (by decide) mt1312 e0 dX12_movesCells_4 ?_
  refine lv_icmp_ge (tgt := 182) hx hb dX12_movesCells_7 (by decide) (fun c => absurd c (by decide)) (fun _ => ?_)
  refine lv_aload_n hx hb dX12_movesCells_10 rfl (lv_at hl 3 rfl) ?_
  refine z_get (v := .ref a1) hx hb hg hown hK hP i_X12 rfl 0 rfl 52 (by decide) mt1332 e1 dX12_movesCells_11 ?_
  refine lv_iload_n hx hb dX12_movesCells_14 rfl (lv_at hl 0 rfl) ?_
  refine z_iald (v := 11) (j := 11) hx hb hK hP 1 rfl rfl (Nat.le_of_ble_eq_true rfl) (Nat.le_of_ble_eq_true rfl) e64 dX12_movesCells_15 ?_
  refine lv_istore_n (lv' := [(2, .int 11), (1, .int 11), (3, .int 0), (0, .ref a0)]) hx hb dX12_movesCells_16 rfl hl (by decide) rfl (fun ls hl => ?_)
  refine lv_iload_n hx hb dX12_movesCells_17 rfl (lv_at hl 0 rfl) ?_
  refine lv_iconst (v := (-1)) hx hb dX12_movesCells_18 (by decide) ?_
  refine lv_icmp_eq (tgt := 176) hx hb dX12_movesCells_19 (by decide) (fun c => absurd c (by decide)) (fun _ => ?_)
  refine lv_aload_n hx hb dX12_movesCells_22 rfl (lv_at hl 3 rfl) ?_
  refine z_get (v := .ref a2) hx hb hg hown hK hP i_X12 rfl 0 rfl 33 (by decide) mt1313 e3 dX12_movesCells_23 ?_
  refine lv_iload_n hx hb dX12_movesCells_26 rfl (lv_at hl 1 rfl) ?_
  refine z_iald (v := 0) (j := 11) hx hb hK hP 2 rfl rfl (Nat.le_of_ble_eq_true rfl) (Nat.le_of_ble_eq_true rfl) (zu_of y142 (zu_ne (by decide) (zu_of y128 (zu_ne (by decide) (zu_of y114 (zu_ne (by decide) (zu_of y100 (zu_ne (by decide) (zu_of y86 (zu_ne (by decide) (zu_of y72 (zu_ne (by decide) (zu_of y58 (zu_ne (by decide) (zu_of y44 (zu_ne (by decide) (zu_of y30 (zu_ne (by decide) (zu_of y16 (zu_ne (by decide) (zu_of y2 (zu_ne (by decide) e65)))))))))))))))))))))) dX12_movesCells_27 ?_
  refine lv_iconst (v := 2) hx hb dX12_movesCells_28 (by decide) ?_
  refine lv_icmp_ne (tgt := 36) hx hb dX12_movesCells_29 (by decide) (fun _ => ?_) (fun c => absurd c (by decide))
  refine lv_iconst (v := 0) hx hb dX12_movesCells_36 (by decide) ?_
  refine lv_istore_n (lv' := [(3, .int 0), (2, .int 11), (1, .int 11), (0, .ref a0)]) hx hb dX12_movesCells_37 rfl hl (by decide) rfl (fun ls hl => ?_)
  refine lv_aload_n hx hb dX12_movesCells_38 rfl (lv_at hl 3 rfl) ?_
  refine z_get (v := .ref a2) hx hb hg hown hK hP i_X12 rfl 0 rfl 33 (by decide) mt1313 e3 dX12_movesCells_39 ?_
  refine lv_iload_n hx hb dX12_movesCells_42 rfl (lv_at hl 1 rfl) ?_
  refine lv_aload_n hx hb dX12_movesCells_43 rfl (lv_at hl 3 rfl) ?_
  refine z_get (v := .ref a2) hx hb hg hown hK hP i_X12 rfl 0 rfl 33 (by decide) mt1313 e3 dX12_movesCells_44 ?_
  refine lv_iload_n hx hb dX12_movesCells_47 rfl (lv_at hl 2 rfl) ?_
  refine z_iald (v := 0) (j := 11) hx hb hK hP 2 rfl rfl (Nat.le_of_ble_eq_true rfl) (Nat.le_of_ble_eq_true rfl) (zu_of y142 (zu_ne (by decide) (zu_of y128 (zu_ne (by decide) (zu_of y114 (zu_ne (by decide) (zu_of y100 (zu_ne (by decide) (zu_of y86 (zu_ne (by decide) (zu_of y72 (zu_ne (by decide) (zu_of y58 (zu_ne (by decide) (zu_of y44 (zu_ne (by decide) (zu_of y30 (zu_ne (by decide) (zu_of y16 (zu_ne (by decide) (zu_of y2 (zu_ne (by decide) e65)))))))))))))))))))))) dX12_movesCells_48 ?_
  refine z_iast (j := 11) hx hb hK hP hD hS 2 rfl rfl (Nat.le_of_ble_eq_true rfl) (Nat.le_of_ble_eq_true rfl) dX12_movesCells_49 (fun ff155 H locs y156 hP hD hS => ?_)
  have hP : va_P K.1 classes [(a0, zO 10 83 g0), (a1, zI K 210000 f1), (a2, zI K 60000 ff155), (a3, zI K 60000 ff143), (a4, zI K 60000 ff145), (a5, zI K 60000 ff147), (a6, zI K 60000 ff149), (a7, zI K 60000 ff151), (a8, zI K 60000 ff153)] H := hP
  have hD : va_D A [(a0, zO 10 83 g0), (a1, zI K 210000 f1), (a2, zI K 60000 ff155), (a3, zI K 60000 ff143), (a4, zI K 60000 ff145), (a5, zI K 60000 ff147), (a6, zI K 60000 ff149), (a7, zI K 60000 ff151), (a8, zI K 60000 ff153)] := hD
  refine lv_aload_n hx hb dX12_movesCells_50 rfl (lv_at hl 3 rfl) ?_
  refine z_get (v := .ref a3) hx hb hg hown hK hP i_X12 rfl 0 rfl 34 (by decide) mt1314 e5 dX12_movesCells_51 ?_
  refine lv_iload_n hx hb dX12_movesCells_54 rfl (lv_at hl 1 rfl) ?_
  refine lv_aload_n hx hb dX12_movesCells_55 rfl (lv_at hl 3 rfl) ?_
  refine z_get (v := .ref a3) hx hb hg hown hK hP i_X12 rfl 0 rfl 34 (by decide) mt1314 e5 dX12_movesCells_56 ?_
  refine lv_iload_n hx hb dX12_movesCells_59 rfl (lv_at hl 2 rfl) ?_
  refine z_iald (v := 0) (j := 11) hx hb hK hP 3 rfl rfl (Nat.le_of_ble_eq_true rfl) (Nat.le_of_ble_eq_true rfl) (zu_of y144 (zu_ne (by decide) (zu_of y130 (zu_ne (by decide) (zu_of y116 (zu_ne (by decide) (zu_of y102 (zu_ne (by decide) (zu_of y88 (zu_ne (by decide) (zu_of y74 (zu_ne (by decide) (zu_of y60 (zu_ne (by decide) (zu_of y46 (zu_ne (by decide) (zu_of y32 (zu_ne (by decide) (zu_of y18 (zu_ne (by decide) (zu_of y4 (zu_ne (by decide) e66)))))))))))))))))))))) dX12_movesCells_60 ?_
  refine z_iast (j := 11) hx hb hK hP hD hS 3 rfl rfl (Nat.le_of_ble_eq_true rfl) (Nat.le_of_ble_eq_true rfl) dX12_movesCells_61 (fun ff157 H locs y158 hP hD hS => ?_)
  have hP : va_P K.1 classes [(a0, zO 10 83 g0), (a1, zI K 210000 f1), (a2, zI K 60000 ff155), (a3, zI K 60000 ff157), (a4, zI K 60000 ff145), (a5, zI K 60000 ff147), (a6, zI K 60000 ff149), (a7, zI K 60000 ff151), (a8, zI K 60000 ff153)] H := hP
  have hD : va_D A [(a0, zO 10 83 g0), (a1, zI K 210000 f1), (a2, zI K 60000 ff155), (a3, zI K 60000 ff157), (a4, zI K 60000 ff145), (a5, zI K 60000 ff147), (a6, zI K 60000 ff149), (a7, zI K 60000 ff151), (a8, zI K 60000 ff153)] := hD
  refine lv_aload_n hx hb dX12_movesCells_62 rfl (lv_at hl 3 rfl) ?_
  refine z_get (v := .ref a4) hx hb hg hown hK hP i_X12 rfl 0 rfl 35 (by decide) mt1315 e7 dX12_movesCells_63 ?_
  refine lv_iload_n hx hb dX12_movesCells_66 rfl (lv_at hl 1 rfl) ?_
  refine lv_iload_n hx hb dX12_movesCells_67 rfl (lv_at hl 0 rfl) ?_
  refine lv_if_eq (tgt := 90) hx hb dX12_movesCells_68 (by decide) (fun _ => ?_) (fun c => absurd (by decide) c)
  refine lv_iconst (v := 0) hx hb dX12_movesCells_90 (by decide) ?_
  refine z_iast (j := 11) hx hb hK hP hD hS 4 rfl rfl (Nat.le_of_ble_eq_true rfl) (Nat.le_of_ble_eq_true rfl) dX12_movesCells_91 (fun ff159 H locs y160 hP hD hS => ?_)
  have hP : va_P K.1 classes [(a0, zO 10 83 g0), (a1, zI K 210000 f1), (a2, zI K 60000 ff155), (a3, zI K 60000 ff157), (a4, zI K 60000 ff159), (a5, zI K 60000 ff147), (a6, zI K 60000 ff149), (a7, zI K 60000 ff151), (a8, zI K 60000 ff153)] H := hP
  have hD : va_D A [(a0, zO 10 83 g0), (a1, zI K 210000 f1), (a2, zI K 60000 ff155), (a3, zI K 60000 ff157), (a4, zI K 60000 ff159), (a5, zI K 60000 ff147), (a6, zI K 60000 ff149), (a7, zI K 60000 ff151), (a8, zI K 60000 ff153)] := hD
  refine lv_aload_n hx hb dX12_movesCells_92 rfl (lv_at hl 3 rfl) ?_
  refine z_get (v := .ref a5) hx hb hg hown hK hP i_X12 rfl 0 rfl 36 (by decide) mt1316 e8 dX12_movesCells_93 ?_
  refine lv_iload_n hx hb dX12_movesCells_96 rfl (lv_at hl 1 rfl) ?_
  refine lv_iload_n hx hb dX12_movesCells_97 rfl (lv_at hl 0 rfl) ?_
  refine lv_if_eq (tgt := 120) hx hb dX12_movesCells_98 (by decide) (fun _ => ?_) (fun c => absurd (by decide) c)
  refine lv_iconst (v := 0) hx hb dX12_movesCells_120 (by decide) ?_
  refine z_iast (j := 11) hx hb hK hP hD hS 5 rfl rfl (Nat.le_of_ble_eq_true rfl) (Nat.le_of_ble_eq_true rfl) dX12_movesCells_121 (fun ff161 H locs y162 hP hD hS => ?_)
  have hP : va_P K.1 classes [(a0, zO 10 83 g0), (a1, zI K 210000 f1), (a2, zI K 60000 ff155), (a3, zI K 60000 ff157), (a4, zI K 60000 ff159), (a5, zI K 60000 ff161), (a6, zI K 60000 ff149), (a7, zI K 60000 ff151), (a8, zI K 60000 ff153)] H := hP
  have hD : va_D A [(a0, zO 10 83 g0), (a1, zI K 210000 f1), (a2, zI K 60000 ff155), (a3, zI K 60000 ff157), (a4, zI K 60000 ff159), (a5, zI K 60000 ff161), (a6, zI K 60000 ff149), (a7, zI K 60000 ff151), (a8, zI K 60000 ff153)] := hD
  refine lv_aload_n hx hb dX12_movesCells_122 rfl (lv_at hl 3 rfl) ?_
  refine z_get (v := .ref a6) hx hb hg hown hK hP i_X12 rfl 0 rfl 37 (by decide) mt1317 e9 dX12_movesCells_123 ?_
  refine lv_iload_n hx hb dX12_movesCells_126 rfl (lv_at hl 1 rfl) ?_
  refine lv_aload_n hx hb dX12_movesCells_127 rfl (lv_at hl 3 rfl) ?_
  refine z_get (v := .ref a6) hx hb hg hown hK hP i_X12 rfl 0 rfl 37 (by decide) mt1317 e9 dX12_movesCells_128 ?_
  refine lv_iload_n hx hb dX12_movesCells_131 rfl (lv_at hl 2 rfl) ?_
  refine z_iald (v := 0) (j := 11) hx hb hK hP 6 rfl rfl (Nat.le_of_ble_eq_true rfl) (Nat.le_of_ble_eq_true rfl) (zu_of y150 (zu_ne (by decide) (zu_of y136 (zu_ne (by decide) (zu_of y122 (zu_ne (by decide) (zu_of y108 (zu_ne (by decide) (zu_of y94 (zu_ne (by decide) (zu_of y80 (zu_ne (by decide) (zu_of y66 (zu_ne (by decide) (zu_of y52 (zu_ne (by decide) (zu_of y38 (zu_ne (by decide) (zu_of y24 (zu_ne (by decide) (zu_of y10 (zu_ne (by decide) e67)))))))))))))))))))))) dX12_movesCells_132 ?_
  refine z_iast (j := 11) hx hb hK hP hD hS 6 rfl rfl (Nat.le_of_ble_eq_true rfl) (Nat.le_of_ble_eq_true rfl) dX12_movesCells_133 (fun ff163 H locs y164 hP hD hS => ?_)
  have hP : va_P K.1 classes [(a0, zO 10 83 g0), (a1, zI K 210000 f1), (a2, zI K 60000 ff155), (a3, zI K 60000 ff157), (a4, zI K 60000 ff159), (a5, zI K 60000 ff161), (a6, zI K 60000 ff163), (a7, zI K 60000 ff151), (a8, zI K 60000 ff153)] H := hP
  have hD : va_D A [(a0, zO 10 83 g0), (a1, zI K 210000 f1), (a2, zI K 60000 ff155), (a3, zI K 60000 ff157), (a4, zI K 60000 ff159), (a5, zI K 60000 ff161), (a6, zI K 60000 ff163), (a7, zI K 60000 ff151), (a8, zI K 60000 ff153)] := hD
  refine lv_aload_n hx hb dX12_movesCells_134 rfl (lv_at hl 3 rfl) ?_
  refine z_get (v := .ref a7) hx hb hg hown hK hP i_X12 rfl 0 rfl 38 (by decide) mt1318 e11 dX12_movesCells_135 ?_
  refine lv_iload_n hx hb dX12_movesCells_138 rfl (lv_at hl 1 rfl) ?_
  refine lv_iload_n hx hb dX12_movesCells_139 rfl (lv_at hl 0 rfl) ?_
  refine lv_if_ne (tgt := 149) hx hb dX12_movesCells_140 (by decide) (fun c => absurd (by decide) c) (fun _ => ?_)
  refine lv_iload_n hx hb dX12_movesCells_143 rfl (lv_at hl 2 rfl) ?_
  refine lv_bipush (v := 16) hx hb dX12_movesCells_144 (by decide) ?_
  refine lv_icmp_ge (tgt := 153) hx hb dX12_movesCells_146 (by decide) (fun c => absurd c (by decide)) (fun _ => ?_)
  refine lv_iconst (v := (-1)) hx hb dX12_movesCells_149 (by decide) ?_
  refine lv_goto (tgt := 163) hx hb dX12_movesCells_150 (by decide) ?_
  refine z_iast (j := 11) hx hb hK hP hD hS 7 rfl rfl (Nat.le_of_ble_eq_true rfl) (Nat.le_of_ble_eq_true rfl) dX12_movesCells_163 (fun ff165 H locs y166 hP hD hS => ?_)
  have hP : va_P K.1 classes [(a0, zO 10 83 g0), (a1, zI K 210000 f1), (a2, zI K 60000 ff155), (a3, zI K 60000 ff157), (a4, zI K 60000 ff159), (a5, zI K 60000 ff161), (a6, zI K 60000 ff163), (a7, zI K 60000 ff165), (a8, zI K 60000 ff153)] H := hP
  have hD : va_D A [(a0, zO 10 83 g0), (a1, zI K 210000 f1), (a2, zI K 60000 ff155), (a3, zI K 60000 ff157), (a4, zI K 60000 ff159), (a5, zI K 60000 ff161), (a6, zI K 60000 ff163), (a7, zI K 60000 ff165), (a8, zI K 60000 ff153)] := hD
  refine lv_aload_n hx hb dX12_movesCells_164 rfl (lv_at hl 3 rfl) ?_
  refine z_get (v := .ref a8) hx hb hg hown hK hP i_X12 rfl 0 rfl 39 (by decide) mt1319 e12 dX12_movesCells_165 ?_
  refine lv_iload_n hx hb dX12_movesCells_168 rfl (lv_at hl 1 rfl) ?_
  refine lv_aload_n hx hb dX12_movesCells_169 rfl (lv_at hl 3 rfl) ?_
  refine z_get (v := .ref a8) hx hb hg hown hK hP i_X12 rfl 0 rfl 39 (by decide) mt1319 e12 dX12_movesCells_170 ?_
  refine lv_iload_n hx hb dX12_movesCells_173 rfl (lv_at hl 2 rfl) ?_
  refine z_iald (v := 0) (j := 11) hx hb hK hP 8 rfl rfl (Nat.le_of_ble_eq_true rfl) (Nat.le_of_ble_eq_true rfl) (zu_of y154 (zu_ne (by decide) (zu_of y140 (zu_ne (by decide) (zu_of y126 (zu_ne (by decide) (zu_of y112 (zu_ne (by decide) (zu_of y98 (zu_ne (by decide) (zu_of y84 (zu_ne (by decide) (zu_of y70 (zu_ne (by decide) (zu_of y56 (zu_ne (by decide) (zu_of y42 (zu_ne (by decide) (zu_of y28 (zu_ne (by decide) (zu_of y14 (zu_ne (by decide) e68)))))))))))))))))))))) dX12_movesCells_174 ?_
  refine z_iast (j := 11) hx hb hK hP hD hS 8 rfl rfl (Nat.le_of_ble_eq_true rfl) (Nat.le_of_ble_eq_true rfl) dX12_movesCells_175 (fun ff167 H locs y168 hP hD hS => ?_)
  have hP : va_P K.1 classes [(a0, zO 10 83 g0), (a1, zI K 210000 f1), (a2, zI K 60000 ff155), (a3, zI K 60000 ff157), (a4, zI K 60000 ff159), (a5, zI K 60000 ff161), (a6, zI K 60000 ff163), (a7, zI K 60000 ff165), (a8, zI K 60000 ff167)] H := hP
  have hD : va_D A [(a0, zO 10 83 g0), (a1, zI K 210000 f1), (a2, zI K 60000 ff155), (a3, zI K 60000 ff157), (a4, zI K 60000 ff159), (a5, zI K 60000 ff161), (a6, zI K 60000 ff163), (a7, zI K 60000 ff165), (a8, zI K 60000 ff167)] := hD
  refine lv_iinc (v := 12) (lv' := [(1, .int 12), (3, .int 0), (2, .int 11), (0, .ref a0)]) hx hb dX12_movesCells_176 hl (k := 2) rfl (by decide +kernel) (by decide) rfl (fun ls hl => ?_)
  refine lv_goto (tgt := 2) hx hb dX12_movesCells_179 (by decide) ?_
  refine lv_iload_n hx hb dX12_movesCells_2 rfl (lv_at hl 0 rfl) ?_
  refine lv_aload_n hx hb dX12_movesCells_3 rfl (lv_at hl 3 rfl) ?_
  refine z_get (v := .int 16) hx hb hg hown hK hP i_X12 rfl 0 rfl 32 (by decide) mt1312 e0 dX12_movesCells_4 ?_
  refine lv_icmp_ge (tgt := 182) hx hb dX12_movesCells_7 (by decide) (fun c => absurd c (by decide)) (fun _ => ?_)
  refine lv_aload_n hx hb dX12_movesCells_10 rfl (lv_at hl 3 rfl) ?_
  refine z_get (v := .ref a1) hx hb hg hown hK hP i_X12 rfl 0 rfl 52 (by decide) mt1332 e1 dX12_movesCells_11 ?_
  refine lv_iload_n hx hb dX12_movesCells_14 rfl (lv_at hl 0 rfl) ?_
  refine z_iald (v := 12) (j := 12) hx hb hK hP 1 rfl rfl (Nat.le_of_ble_eq_true rfl) (Nat.le_of_ble_eq_true rfl) e69 dX12_movesCells_15 ?_
  refine lv_istore_n (lv' := [(2, .int 12), (1, .int 12), (3, .int 0), (0, .ref a0)]) hx hb dX12_movesCells_16 rfl hl (by decide) rfl (fun ls hl => ?_)
  refine lv_iload_n hx hb dX12_movesCells_17 rfl (lv_at hl 0 rfl) ?_
  refine lv_iconst (v := (-1)) hx hb dX12_movesCells_18 (by decide) ?_
  refine lv_icmp_eq (tgt := 176) hx hb dX12_movesCells_19 (by decide) (fun c => absurd c (by decide)) (fun _ => ?_)
  refine lv_aload_n hx hb dX12_movesCells_22 rfl (lv_at hl 3 rfl) ?_
  refine z_get (v := .ref a2) hx hb hg hown hK hP i_X12 rfl 0 rfl 33 (by decide) mt1313 e3 dX12_movesCells_23 ?_
  refine lv_iload_n hx hb dX12_movesCells_26 rfl (lv_at hl 1 rfl) ?_
  refine z_iald (v := 0) (j := 12) hx hb hK hP 2 rfl rfl (Nat.le_of_ble_eq_true rfl) (Nat.le_of_ble_eq_true rfl) (zu_of y156 (zu_ne (by decide) (zu_of y142 (zu_ne (by decide) (zu_of y128 (zu_ne (by decide) (zu_of y114 (zu_ne (by decide) (zu_of y100 (zu_ne (by decide) (zu_of y86 (zu_ne (by decide) (zu_of y72 (zu_ne (by decide) (zu_of y58 (zu_ne (by decide) (zu_of y44 (zu_ne (by decide) (zu_of y30 (zu_ne (by decide) (zu_of y16 (zu_ne (by decide) (zu_of y2 (zu_ne (by decide) e70)))))))))))))))))))))))) dX12_movesCells_27 ?_
  refine lv_iconst (v := 2) hx hb dX12_movesCells_28 (by decide) ?_
  refine lv_icmp_ne (tgt := 36) hx hb dX12_movesCells_29 (by decide) (fun _ => ?_) (fun c => absurd c (by decide))
  refine lv_iconst (v := 0) hx hb dX12_movesCells_36 (by decide) ?_
  refine lv_istore_n (lv' := [(3, .int 0), (2, .int 12), (1, .int 12), (0, .ref a0)]) hx hb dX12_movesCells_37 rfl hl (by decide) rfl (fun ls hl => ?_)
  refine lv_aload_n hx hb dX12_movesCells_38 rfl (lv_at hl 3 rfl) ?_
  refine z_get (v := .ref a2) hx hb hg hown hK hP i_X12 rfl 0 rfl 33 (by decide) mt1313 e3 dX12_movesCells_39 ?_
  refine lv_iload_n hx hb dX12_movesCells_42 rfl (lv_at hl 1 rfl) ?_
  refine lv_aload_n hx hb dX12_movesCells_43 rfl (lv_at hl 3 rfl) ?_
  refine z_get (v := .ref a2) hx hb hg hown hK hP i_X12 rfl 0 rfl 33 (by decide) mt1313 e3 dX12_movesCells_44 ?_
  refine lv_iload_n hx hb dX12_movesCells_47 rfl (lv_at hl 2 rfl) ?_
  refine z_iald (v := 0) (j := 12) hx hb hK hP 2 rfl rfl (Nat.le_of_ble_eq_true rfl) (Nat.le_of_ble_eq_true rfl) (zu_of y156 (zu_ne (by decide) (zu_of y142 (zu_ne (by decide) (zu_of y128 (zu_ne (by decide) (zu_of y114 (zu_ne (by decide) (zu_of y100 (zu_ne (by decide) (zu_of y86 (zu_ne (by decide) (zu_of y72 (zu_ne (by decide) (zu_of y58 (zu_ne (by decide) (zu_of y44 (zu_ne (by decide) (zu_of y30 (zu_ne (by decide) (zu_of y16 (zu_ne (by decide) (zu_of y2 (zu_ne (by decide) e70)))))))))))))))))))))))) dX12_movesCells_48 ?_
  refine z_iast (j := 12) hx hb hK hP hD hS 2 rfl rfl (Nat.le_of_ble_eq_true rfl) (Nat.le_of_ble_eq_true rfl) dX12_movesCells_49 (fun ff169 H locs y170 hP hD hS => ?_)
  have hP : va_P K.1 classes [(a0, zO 10 83 g0), (a1, zI K 210000 f1), (a2, zI K 60000 ff169), (a3, zI K 60000 ff157), (a4, zI K 60000 ff159), (a5, zI K 60000 ff161), (a6, zI K 60000 ff163), (a7, zI K 60000 ff165), (a8, zI K 60000 ff167)] H := hP
  have hD : va_D A [(a0, zO 10 83 g0), (a1, zI K 210000 f1), (a2, zI K 60000 ff169), (a3, zI K 60000 ff157), (a4, zI K 60000 ff159), (a5, zI K 60000 ff161), (a6, zI K 60000 ff163), (a7, zI K 60000 ff165), (a8, zI K 60000 ff167)] := hD
  refine lv_aload_n hx hb dX12_movesCells_50 rfl (lv_at hl 3 rfl) ?_
  refine z_get (v := .ref a3) hx hb hg hown hK hP i_X12 rfl 0 rfl 34 (by decide) mt1314 e5 dX12_movesCells_51 ?_
  refine lv_iload_n hx hb dX12_movesCells_54 rfl (lv_at hl 1 rfl) ?_
  refine lv_aload_n hx hb dX12_movesCells_55 rfl (lv_at hl 3 rfl) ?_
  refine z_get (v := .ref a3) hx hb hg hown hK hP i_X12 rfl 0 rfl 34 (by decide) mt1314 e5 dX12_movesCells_56 ?_
  refine lv_iload_n hx hb dX12_movesCells_59 rfl (lv_at hl 2 rfl) ?_
  refine z_iald (v := 0) (j := 12) hx hb hK hP 3 rfl rfl (Nat.le_of_ble_eq_true rfl) (Nat.le_of_ble_eq_true rfl) (zu_of y158 (zu_ne (by decide) (zu_of y144 (zu_ne (by decide) (zu_of y130 (zu_ne (by decide) (zu_of y116 (zu_ne (by decide) (zu_of y102 (zu_ne (by decide) (zu_of y88 (zu_ne (by decide) (zu_of y74 (zu_ne (by decide) (zu_of y60 (zu_ne (by decide) (zu_of y46 (zu_ne (by decide) (zu_of y32 (zu_ne (by decide) (zu_of y18 (zu_ne (by decide) (zu_of y4 (zu_ne (by decide) e71)))))))))))))))))))))))) dX12_movesCells_60 ?_
  refine z_iast (j := 12) hx hb hK hP hD hS 3 rfl rfl (Nat.le_of_ble_eq_true rfl) (Nat.le_of_ble_eq_true rfl) dX12_movesCells_61 (fun ff171 H locs y172 hP hD hS => ?_)
  have hP : va_P K.1 classes [(a0, zO 10 83 g0), (a1, zI K 210000 f1), (a2, zI K 60000 ff169), (a3, zI K 60000 ff171), (a4, zI K 60000 ff159), (a5, zI K 60000 ff161), (a6, zI K 60000 ff163), (a7, zI K 60000 ff165), (a8, zI K 60000 ff167)] H := hP
  have hD : va_D A [(a0, zO 10 83 g0), (a1, zI K 210000 f1), (a2, zI K 60000 ff169), (a3, zI K 60000 ff171), (a4, zI K 60000 ff159), (a5, zI K 60000 ff161), (a6, zI K 60000 ff163), (a7, zI K 60000 ff165), (a8, zI K 60000 ff167)] := hD
  refine lv_aload_n hx hb dX12_movesCells_62 rfl (lv_at hl 3 rfl) ?_
  refine z_get (v := .ref a4) hx hb hg hown hK hP i_X12 rfl 0 rfl 35 (by decide) mt1315 e7 dX12_movesCells_63 ?_
  refine lv_iload_n hx hb dX12_movesCells_66 rfl (lv_at hl 1 rfl) ?_
  refine lv_iload_n hx hb dX12_movesCells_67 rfl (lv_at hl 0 rfl) ?_
  refine lv_if_eq (tgt := 90) hx hb dX12_movesCells_68 (by decide) (fun _ => ?_) (fun c => absurd (by decide) c)
  refine lv_iconst (v := 0) hx hb dX12_movesCells_90 (by decide) ?_
  refine z_iast (j := 12) hx hb hK hP hD hS 4 rfl rfl (Nat.le_of_ble_eq_true rfl) (Nat.le_of_ble_eq_true rfl) dX12_movesCells_91 (fun ff173 H locs y174 hP hD hS => ?_)
  have hP : va_P K.1 classes [(a0, zO 10 83 g0), (a1, zI K 210000 f1), (a2, zI K 60000 ff169), (a3, zI K 60000 ff171), (a4, zI K 60000 ff173), (a5, zI K 60000 ff161), (a6, zI K 60000 ff163), (a7, zI K 60000 ff165), (a8, zI K 60000 ff167)] H := hP
  have hD : va_D A [(a0, zO 10 83 g0), (a1, zI K 210000 f1), (a2, zI K 60000 ff169), (a3, zI K 60000 ff171), (a4, zI K 60000 ff173), (a5, zI K 60000 ff161), (a6, zI K 60000 ff163), (a7, zI K 60000 ff165), (a8, zI K 60000 ff167)] := hD
  refine lv_aload_n hx hb dX12_movesCells_92 rfl (lv_at hl 3 rfl) ?_
  refine z_get (v := .ref a5) hx hb hg hown hK hP i_X12 rfl 0 rfl 36 (by decide) mt1316 e8 dX12_movesCells_93 ?_
  refine lv_iload_n hx hb dX12_movesCells_96 rfl (lv_at hl 1 rfl) ?_
  refine lv_iload_n hx hb dX12_movesCells_97 rfl (lv_at hl 0 rfl) ?_
  refine lv_if_eq (tgt := 120) hx hb dX12_movesCells_98 (by decide) (fun _ => ?_) (fun c => absurd (by decide) c)
  refine lv_iconst (v := 0) hx hb dX12_movesCells_120 (by decide) ?_
  refine z_iast (j := 12) hx hb hK hP hD hS 5 rfl rfl (Nat.le_of_ble_eq_true rfl) (Nat.le_of_ble_eq_true rfl) dX12_movesCells_121 (fun ff175 H locs y176 hP hD hS => ?_)
  have hP : va_P K.1 classes [(a0, zO 10 83 g0), (a1, zI K 210000 f1), (a2, zI K 60000 ff169), (a3, zI K 60000 ff171), (a4, zI K 60000 ff173), (a5, zI K 60000 ff175), (a6, zI K 60000 ff163), (a7, zI K 60000 ff165), (a8, zI K 60000 ff167)] H := hP
  have hD : va_D A [(a0, zO 10 83 g0), (a1, zI K 210000 f1), (a2, zI K 60000 ff169), (a3, zI K 60000 ff171), (a4, zI K 60000 ff173), (a5, zI K 60000 ff175), (a6, zI K 60000 ff163), (a7, zI K 60000 ff165), (a8, zI K 60000 ff167)] := hD
  refine lv_aload_n hx hb dX12_movesCells_122 rfl (lv_at hl 3 rfl) ?_
  refine z_get (v := .ref a6) hx hb hg hown hK hP i_X12 rfl 0 rfl 37 (by decide) mt1317 e9 dX12_movesCells_123 ?_
  refine lv_iload_n hx hb dX12_movesCells_126 rfl (lv_at hl 1 rfl) ?_
  refine lv_aload_n hx hb dX12_movesCells_127 rfl (lv_at hl 3 rfl) ?_
  refine z_get (v := .ref a6) hx hb hg hown hK hP i_X12 rfl 0 rfl 37 (by decide) mt1317 e9 dX12_movesCells_128 ?_
  refine lv_iload_n hx hb dX12_movesCells_131 rfl (lv_at hl 2 rfl) ?_
  refine z_iald (v := 0) (j := 12) hx hb hK hP 6 rfl rfl (Nat.le_of_ble_eq_true rfl) (Nat.le_of_ble_eq_true rfl) (zu_of y164 (zu_ne (by decide) (zu_of y150 (zu_ne (by decide) (zu_of y136 (zu_ne (by decide) (zu_of y122 (zu_ne (by decide) (zu_of y108 (zu_ne (by decide) (zu_of y94 (zu_ne (by decide) (zu_of y80 (zu_ne (by decide) (zu_of y66 (zu_ne (by decide) (zu_of y52 (zu_ne (by decide) (zu_of y38 (zu_ne (by decide) (zu_of y24 (zu_ne (by decide) (zu_of y10 (zu_ne (by decide) e72)))))))))))))))))))))))) dX12_movesCells_132 ?_
  refine z_iast (j := 12) hx hb hK hP hD hS 6 rfl rfl (Nat.le_of_ble_eq_true rfl) (Nat.le_of_ble_eq_true rfl) dX12_movesCells_133 (fun ff177 H locs y178 hP hD hS => ?_)
  have hP : va_P K.1 classes [(a0, zO 10 83 g0), (a1, zI K 210000 f1), (a2, zI K 60000 ff169), (a3, zI K 60000 ff171), (a4, zI K 60000 ff173), (a5, zI K 60000 ff175), (a6, zI K 60000 ff177), (a7, zI K 60000 ff165), (a8, zI K 60000 ff167)] H := hP
  have hD : va_D A [(a0, zO 10 83 g0), (a1, zI K 210000 f1), (a2, zI K 60000 ff169), (a3, zI K 60000 ff171), (a4, zI K 60000 ff173), (a5, zI K 60000 ff175), (a6, zI K 60000 ff177), (a7, zI K 60000 ff165), (a8, zI K 60000 ff167)] := hD
  refine lv_aload_n hx hb dX12_movesCells_134 rfl (lv_at hl 3 rfl) ?_
  refine z_get (v := .ref a7) hx hb hg hown hK hP i_X12 rfl 0 rfl 38 (by decide) mt1318 e11 dX12_movesCells_135 ?_
  refine lv_iload_n hx hb dX12_movesCells_138 rfl (lv_at hl 1 rfl) ?_
  refine lv_iload_n hx hb dX12_movesCells_139 rfl (lv_at hl 0 rfl) ?_
  refine lv_if_ne (tgt := 149) hx hb dX12_movesCells_140 (by decide) (fun c => absurd (by decide) c) (fun _ => ?_)
  refine lv_iload_n hx hb dX12_movesCells_143 rfl (lv_at hl 2 rfl) ?_
  refine lv_bipush (v := 16) hx hb dX12_movesCells_144 (by decide) ?_
  refine lv_icmp_ge (tgt := 153) hx hb dX12_movesCells_146 (by decide) (fun c => absurd c (by decide)) (fun _ => ?_)
  refine lv_iconst (v := (-1)) hx hb dX12_movesCells_149 (by decide) ?_
  refine lv_goto (tgt := 163) hx hb dX12_movesCells_150 (by decide) ?_
  refine z_iast (j := 12) hx hb hK hP hD hS 7 rfl rfl (Nat.le_of_ble_eq_true rfl) (Nat.le_of_ble_eq_true rfl) dX12_movesCells_163 (fun ff179 H locs y180 hP hD hS => ?_)
  have hP : va_P K.1 classes [(a0, zO 10 83 g0), (a1, zI K 210000 f1), (a2, zI K 60000 ff169), (a3, zI K 60000 ff171), (a4, zI K 60000 ff173), (a5, zI K 60000 ff175), (a6, zI K 60000 ff177), (a7, zI K 60000 ff179), (a8, zI K 60000 ff167)] H := hP
  have hD : va_D A [(a0, zO 10 83 g0), (a1, zI K 210000 f1), (a2, zI K 60000 ff169), (a3, zI K 60000 ff171), (a4, zI K 60000 ff173), (a5, zI K 60000 ff175), (a6, zI K 60000 ff177), (a7, zI K 60000 ff179), (a8, zI K 60000 ff167)] := hD
  refine lv_aload_n hx hb dX12_movesCells_164 rfl (lv_at hl 3 rfl) ?_
  refine z_get (v := .ref a8) hx hb hg hown hK hP i_X12 rfl 0 rfl 39 (by decide) mt1319 e12 dX12_movesCells_165 ?_
  refine lv_iload_n hx hb dX12_movesCells_168 rfl (lv_at hl 1 rfl) ?_
  refine lv_aload_n hx hb dX12_movesCells_169 rfl (lv_at hl 3 rfl) ?_
  refine z_get (v := .ref a8) hx hb hg hown hK hP i_X12 rfl 0 rfl 39 (by decide) mt1319 e12 dX12_movesCells_170 ?_
  refine lv_iload_n hx hb dX12_movesCells_173 rfl (lv_at hl 2 rfl) ?_
  refine z_iald (v := 0) (j := 12) hx hb hK hP 8 rfl rfl (Nat.le_of_ble_eq_true rfl) (Nat.le_of_ble_eq_true rfl) (zu_of y168 (zu_ne (by decide) (zu_of y154 (zu_ne (by decide) (zu_of y140 (zu_ne (by decide) (zu_of y126 (zu_ne (by decide) (zu_of y112 (zu_ne (by decide) (zu_of y98 (zu_ne (by decide) (zu_of y84 (zu_ne (by decide) (zu_of y70 (zu_ne (by decide) (zu_of y56 (zu_ne (by decide) (zu_of y42 (zu_ne (by decide) (zu_of y28 (zu_ne (by decide) (zu_of y14 (zu_ne (by decide) e73)))))))))))))))))))))))) dX12_movesCells_174 ?_
  refine z_iast (j := 12) hx hb hK hP hD hS 8 rfl rfl (Nat.le_of_ble_eq_true rfl) (Nat.le_of_ble_eq_true rfl) dX12_movesCells_175 (fun ff181 H locs y182 hP hD hS => ?_)
  have hP : va_P K.1 classes [(a0, zO 10 83 g0), (a1, zI K 210000 f1), (a2, zI K 60000 ff169), (a3, zI K 60000 ff171), (a4, zI K 60000 ff173), (a5, zI K 60000 ff175), (a6, zI K 60000 ff177), (a7, zI K 60000 ff179), (a8, zI K 60000 ff181)] H := hP
  have hD : va_D A [(a0, zO 10 83 g0), (a1, zI K 210000 f1), (a2, zI K 60000 ff169), (a3, zI K 60000 ff171), (a4, zI K 60000 ff173), (a5, zI K 60000 ff175), (a6, zI K 60000 ff177), (a7, zI K 60000 ff179), (a8, zI K 60000 ff181)] := hD
  refine lv_iinc (v := 13) (lv' := [(1, .int 13), (3, .int 0), (2, .int 12), (0, .ref a0)]) hx hb dX12_movesCells_176 hl (k := 2) rfl (by decide +kernel) (by decide) rfl (fun ls hl => ?_)
  refine lv_goto (tgt := 2) hx hb dX12_movesCells_179 (by decide) ?_
  refine lv_iload_n hx hb dX12_movesCells_2 rfl (lv_at hl 0 rfl) ?_
  refine lv_aload_n hx hb dX12_movesCells_3 rfl (lv_at hl 3 rfl) ?_
  refine z_get (v := .int 16) hx hb hg hown hK hP i_X12 rfl 0 rfl 32 (by decide) mt1312 e0 dX12_movesCells_4 ?_
  refine lv_icmp_ge (tgt := 182) hx hb dX12_movesCells_7 (by decide) (fun c => absurd c (by decide)) (fun _ => ?_)
  refine lv_aload_n hx hb dX12_movesCells_10 rfl (lv_at hl 3 rfl) ?_
  refine z_get (v := .ref a1) hx hb hg hown hK hP i_X12 rfl 0 rfl 52 (by decide) mt1332 e1 dX12_movesCells_11 ?_
  refine lv_iload_n hx hb dX12_movesCells_14 rfl (lv_at hl 0 rfl) ?_
  refine z_iald (v := 13) (j := 13) hx hb hK hP 1 rfl rfl (Nat.le_of_ble_eq_true rfl) (Nat.le_of_ble_eq_true rfl) e74 dX12_movesCells_15 ?_
  refine lv_istore_n (lv' := [(2, .int 13), (1, .int 13), (3, .int 0), (0, .ref a0)]) hx hb dX12_movesCells_16 rfl hl (by decide) rfl (fun ls hl => ?_)
  refine lv_iload_n hx hb dX12_movesCells_17 rfl (lv_at hl 0 rfl) ?_
  refine lv_iconst (v := (-1)) hx hb dX12_movesCells_18 (by decide) ?_
  refine lv_icmp_eq (tgt := 176) hx hb dX12_movesCells_19 (by decide) (fun c => absurd c (by decide)) (fun _ => ?_)
  refine lv_aload_n hx hb dX12_movesCells_22 rfl (lv_at hl 3 rfl) ?_
  refine z_get (v := .ref a2) hx hb hg hown hK hP i_X12 rfl 0 rfl 33 (by decide) mt1313 e3 dX12_movesCells_23 ?_
  refine lv_iload_n hx hb dX12_movesCells_26 rfl (lv_at hl 1 rfl) ?_
  refine z_iald (v := 0) (j := 13) hx hb hK hP 2 rfl rfl (Nat.le_of_ble_eq_true rfl) (Nat.le_of_ble_eq_true rfl) (zu_of y170 (zu_ne (by decide) (zu_of y156 (zu_ne (by decide) (zu_of y142 (zu_ne (by decide) (zu_of y128 (zu_ne (by decide) (zu_of y114 (zu_ne (by decide) (zu_of y100 (zu_ne (by decide) (zu_of y86 (zu_ne (by decide) (zu_of y72 (zu_ne (by decide) (zu_of y58 (zu_ne (by decide) (zu_of y44 (zu_ne (by decide) (zu_of y30 (zu_ne (by decide) (zu_of y16 (zu_ne (by decide) (zu_of y2 (zu_ne (by decide) e75)))))))))))))))))))))))))) dX12_movesCells_27 ?_
  refine lv_iconst (v := 2) hx hb dX12_movesCells_28 (by decide) ?_
  refine lv_icmp_ne (tgt := 36) hx hb dX12_movesCells_29 (by decide) (fun _ => ?_) (fun c => absurd c (by decide))
  refine lv_iconst (v := 0) hx hb dX12_movesCells_36 (by decide) ?_
  refine lv_istore_n (lv' := [(3, .int 0), (2, .int 13), (1, .int 13), (0, .ref a0)]) hx hb dX12_movesCells_37 rfl hl (by decide) rfl (fun ls hl => ?_)
  refine lv_aload_n hx hb dX12_movesCells_38 rfl (lv_at hl 3 rfl) ?_
  refine z_get (v := .ref a2) hx hb hg hown hK hP i_X12 rfl 0 rfl 33 (by decide) mt1313 e3 dX12_movesCells_39 ?_
  refine lv_iload_n hx hb dX12_movesCells_42 rfl (lv_at hl 1 rfl) ?_
  refine lv_aload_n hx hb dX12_movesCells_43 rfl (lv_at hl 3 rfl) ?_
  refine z_get (v := .ref a2) hx hb hg hown hK hP i_X12 rfl 0 rfl 33 (by decide) mt1313 e3 dX12_movesCells_44 ?_
  refine lv_iload_n hx hb dX12_movesCells_47 rfl (lv_at hl 2 rfl) ?_
  refine z_iald (v := 0) (j := 13) hx hb hK hP 2 rfl rfl (Nat.le_of_ble_eq_true rfl) (Nat.le_of_ble_eq_true rfl) (zu_of y170 (zu_ne (by decide) (zu_of y156 (zu_ne (by decide) (zu_of y142 (zu_ne (by decide) (zu_of y128 (zu_ne (by decide) (zu_of y114 (zu_ne (by decide) (zu_of y100 (zu_ne (by decide) (zu_of y86 (zu_ne (by decide) (zu_of y72 (zu_ne (by decide) (zu_of y58 (zu_ne (by decide) (zu_of y44 (zu_ne (by decide) (zu_of y30 (zu_ne (by decide) (zu_of y16 (zu_ne (by decide) (zu_of y2 (zu_ne (by decide) e75)))))))))))))))))))))))))) dX12_movesCells_48 ?_
  refine z_iast (j := 13) hx hb hK hP hD hS 2 rfl rfl (Nat.le_of_ble_eq_true rfl) (Nat.le_of_ble_eq_true rfl) dX12_movesCells_49 (fun ff183 H locs y184 hP hD hS => ?_)
  have hP : va_P K.1 classes [(a0, zO 10 83 g0), (a1, zI K 210000 f1), (a2, zI K 60000 ff183), (a3, zI K 60000 ff171), (a4, zI K 60000 ff173), (a5, zI K 60000 ff175), (a6, zI K 60000 ff177), (a7, zI K 60000 ff179), (a8, zI K 60000 ff181)] H := hP
  have hD : va_D A [(a0, zO 10 83 g0), (a1, zI K 210000 f1), (a2, zI K 60000 ff183), (a3, zI K 60000 ff171), (a4, zI K 60000 ff173), (a5, zI K 60000 ff175), (a6, zI K 60000 ff177), (a7, zI K 60000 ff179), (a8, zI K 60000 ff181)] := hD
  refine lv_aload_n hx hb dX12_movesCells_50 rfl (lv_at hl 3 rfl) ?_
  refine z_get (v := .ref a3) hx hb hg hown hK hP i_X12 rfl 0 rfl 34 (by decide) mt1314 e5 dX12_movesCells_51 ?_
  refine lv_iload_n hx hb dX12_movesCells_54 rfl (lv_at hl 1 rfl) ?_
  refine lv_aload_n hx hb dX12_movesCells_55 rfl (lv_at hl 3 rfl) ?_
  refine z_get (v := .ref a3) hx hb hg hown hK hP i_X12 rfl 0 rfl 34 (by decide) mt1314 e5 dX12_movesCells_56 ?_
  refine lv_iload_n hx hb dX12_movesCells_59 rfl (lv_at hl 2 rfl) ?_
  refine z_iald (v := 0) (j := 13) hx hb hK hP 3 rfl rfl (Nat.le_of_ble_eq_true rfl) (Nat.le_of_ble_eq_true rfl) (zu_of y172 (zu_ne (by decide) (zu_of y158 (zu_ne (by decide) (zu_of y144 (zu_ne (by decide) (zu_of y130 (zu_ne (by decide) (zu_of y116 (zu_ne (by decide) (zu_of y102 (zu_ne (by decide) (zu_of y88 (zu_ne (by decide) (zu_of y74 (zu_ne (by decide) (zu_of y60 (zu_ne (by decide) (zu_of y46 (zu_ne (by decide) (zu_of y32 (zu_ne (by decide) (zu_of y18 (zu_ne (by decide) (zu_of y4 (zu_ne (by decide) e76)))))))))))))))))))))))))) dX12_movesCells_60 ?_
  refine z_iast (j := 13) hx hb hK hP hD hS 3 rfl rfl (Nat.le_of_ble_eq_true rfl) (Nat.le_of_ble_eq_true rfl) dX12_movesCells_61 (fun ff185 H locs y186 hP hD hS => ?_)
  have hP : va_P K.1 classes [(a0, zO 10 83 g0), (a1, zI K 210000 f1), (a2, zI K 60000 ff183), (a3, zI K 60000 ff185), (a4, zI K 60000 ff173), (a5, zI K 60000 ff175), (a6, zI K 60000 ff177), (a7, zI K 60000 ff179), (a8, zI K 60000 ff181)] H := hP
  have hD : va_D A [(a0, zO 10 83 g0), (a1, zI K 210000 f1), (a2, zI K 60000 ff183), (a3, zI K 60000 ff185), (a4, zI K 60000 ff173), (a5, zI K 60000 ff175), (a6, zI K 60000 ff177), (a7, zI K 60000 ff179), (a8, zI K 60000 ff181)] := hD
  refine lv_aload_n hx hb dX12_movesCells_62 rfl (lv_at hl 3 rfl) ?_
  refine z_get (v := .ref a4) hx hb hg hown hK hP i_X12 rfl 0 rfl 35 (by decide) mt1315 e7 dX12_movesCells_63 ?_
  refine lv_iload_n hx hb dX12_movesCells_66 rfl (lv_at hl 1 rfl) ?_
  refine lv_iload_n hx hb dX12_movesCells_67 rfl (lv_at hl 0 rfl) ?_
  refine lv_if_eq (tgt := 90) hx hb dX12_movesCells_68 (by decide) (fun _ => ?_) (fun c => absurd (by decide) c)
  refine lv_iconst (v := 0) hx hb dX12_movesCells_90 (by decide) ?_
  refine z_iast (j := 13) hx hb hK hP hD hS 4 rfl rfl (Nat.le_of_ble_eq_true rfl) (Nat.le_of_ble_eq_true rfl) dX12_movesCells_91 (fun ff187 H locs y188 hP hD hS => ?_)
  have hP : va_P K.1 classes [(a0, zO 10 83 g0), (a1, zI K 210000 f1), (a2, zI K 60000 ff183), (a3, zI K 60000 ff185), (a4, zI K 60000 ff187), (a5, zI K 60000 ff175), (a6, zI K 60000 ff177), (a7, zI K 60000 ff179), (a8, zI K 60000 ff181)] H := hP
  have hD : va_D A [(a0, zO 10 83 g0), (a1, zI K 210000 f1), (a2, zI K 60000 ff183), (a3, zI K 60000 ff185), (a4, zI K 60000 ff187), (a5, zI K 60000 ff175), (a6, zI K 60000 ff177), (a7, zI K 60000 ff179), (a8, zI K 60000 ff181)] := hD
  refine lv_aload_n hx hb dX12_movesCells_92 rfl (lv_at hl 3 rfl) ?_
  refine z_get (v := .ref a5) hx hb hg hown hK hP i_X12 rfl 0 rfl 36 (by decide) mt1316 e8 dX12_movesCells_93 ?_
  refine lv_iload_n hx hb dX12_movesCells_96 rfl (lv_at hl 1 rfl) ?_
  refine lv_iload_n hx hb dX12_movesCells_97 rfl (lv_at hl 0 rfl) ?_
  refine lv_if_eq (tgt := 120) hx hb dX12_movesCells_98 (by decide) (fun _ => ?_) (fun c => absurd (by decide) c)
  refine lv_iconst (v := 0) hx hb dX12_movesCells_120 (by decide) ?_
  refine z_iast (j := 13) hx hb hK hP hD hS 5 rfl rfl (Nat.le_of_ble_eq_true rfl) (Nat.le_of_ble_eq_true rfl) dX12_movesCells_121 (fun ff189 H locs y190 hP hD hS => ?_)
  have hP : va_P K.1 classes [(a0, zO 10 83 g0), (a1, zI K 210000 f1), (a2, zI K 60000 ff183), (a3, zI K 60000 ff185), (a4, zI K 60000 ff187), (a5, zI K 60000 ff189), (a6, zI K 60000 ff177), (a7, zI K 60000 ff179), (a8, zI K 60000 ff181)] H := hP
  have hD : va_D A [(a0, zO 10 83 g0), (a1, zI K 210000 f1), (a2, zI K 60000 ff183), (a3, zI K 60000 ff185), (a4, zI K 60000 ff187), (a5, zI K 60000 ff189), (a6, zI K 60000 ff177), (a7, zI K 60000 ff179), (a8, zI K 60000 ff181)] := hD
  refine lv_aload_n hx hb dX12_movesCells_122 rfl (lv_at hl 3 rfl) ?_
  refine z_get (v := .ref a6) hx hb hg hown hK hP i_X12 rfl 0 rfl 37 (by decide) mt1317 e9 dX12_movesCells_123 ?_
  refine lv_iload_n hx hb dX12_movesCells_126 rfl (lv_at hl 1 rfl) ?_
  refine lv_aload_n hx hb dX12_movesCells_127 rfl (lv_at hl 3 rfl) ?_
  refine z_get (v := .ref a6) hx hb hg hown hK hP i_X12 rfl 0 rfl 37 (by decide) mt1317 e9 dX12_movesCells_128 ?_
  refine lv_iload_n hx hb dX12_movesCells_131 rfl (lv_at hl 2 rfl) ?_
  refine z_iald (v := 0) (j := 13) hx hb hK hP 6 rfl rfl (Nat.le_of_ble_eq_true rfl) (Nat.le_of_ble_eq_true rfl) (zu_of y178 (zu_ne (by decide) (zu_of y164 (zu_ne (by decide) (zu_of y150 (zu_ne (by decide) (zu_of y136 (zu_ne (by decide) (zu_of y122 (zu_ne (by decide) (zu_of y108 (zu_ne (by decide) (zu_of y94 (zu_ne (by decide) (zu_of y80 (zu_ne (by decide) (zu_of y66 (zu_ne (by decide) (zu_of y52 (zu_ne (by decide) (zu_of y38 (zu_ne (by decide) (zu_of y24 (zu_ne (by decide) (zu_of y10 (zu_ne (by decide) e77)))))))))))))))))))))))))) dX12_movesCells_132 ?_
  refine z_iast (j := 13) hx hb hK hP hD hS 6 rfl rfl (Nat.le_of_ble_eq_true rfl) (Nat.le_of_ble_eq_true rfl) dX12_movesCells_133 (fun ff191 H locs y192 hP hD hS => ?_)
  have hP : va_P K.1 classes [(a0, zO 10 83 g0), (a1, zI K 210000 f1), (a2, zI K 60000 ff183), (a3, zI K 60000 ff185), (a4, zI K 60000 ff187), (a5, zI K 60000 ff189), (a6, zI K 60000 ff191), (a7, zI K 60000 ff179), (a8, zI K 60000 ff181)] H := hP
  have hD : va_D A [(a0, zO 10 83 g0), (a1, zI K 210000 f1), (a2, zI K 60000 ff183), (a3, zI K 60000 ff185), (a4, zI K 60000 ff187), (a5, zI K 60000 ff189), (a6, zI K 60000 ff191), (a7, zI K 60000 ff179), (a8, zI K 60000 ff181)] := hD
  refine lv_aload_n hx hb dX12_movesCells_134 rfl (lv_at hl 3 rfl) ?_
  refine z_get (v := .ref a7) hx hb hg hown hK hP i_X12 rfl 0 rfl 38 (by decide) mt1318 e11 dX12_movesCells_135 ?_
  refine lv_iload_n hx hb dX12_movesCells_138 rfl (lv_at hl 1 rfl) ?_
  refine lv_iload_n hx hb dX12_movesCells_139 rfl (lv_at hl 0 rfl) ?_
  refine lv_if_ne (tgt := 149) hx hb dX12_movesCells_140 (by decide) (fun c => absurd (by decide) c) (fun _ => ?_)
  refine lv_iload_n hx hb dX12_movesCells_143 rfl (lv_at hl 2 rfl) ?_
  refine lv_bipush (v := 16) hx hb dX12_movesCells_144 (by decide) ?_
  refine lv_icmp_ge (tgt := 153) hx hb dX12_movesCells_146 (by decide) (fun c => absurd c (by decide)) (fun _ => ?_)
  refine lv_iconst (v := (-1)) hx hb dX12_movesCells_149 (by decide) ?_
  refine lv_goto (tgt := 163) hx hb dX12_movesCells_150 (by decide) ?_
  refine z_iast (j := 13) hx hb hK hP hD hS 7 rfl rfl (Nat.le_of_ble_eq_true rfl) (Nat.le_of_ble_eq_true rfl) dX12_movesCells_163 (fun ff193 H locs y194 hP hD hS => ?_)
  have hP : va_P K.1 classes [(a0, zO 10 83 g0), (a1, zI K 210000 f1), (a2, zI K 60000 ff183), (a3, zI K 60000 ff185), (a4, zI K 60000 ff187), (a5, zI K 60000 ff189), (a6, zI K 60000 ff191), (a7, zI K 60000 ff193), (a8, zI K 60000 ff181)] H := hP
  have hD : va_D A [(a0, zO 10 83 g0), (a1, zI K 210000 f1), (a2, zI K 60000 ff183), (a3, zI K 60000 ff185), (a4, zI K 60000 ff187), (a5, zI K 60000 ff189), (a6, zI K 60000 ff191), (a7, zI K 60000 ff193), (a8, zI K 60000 ff181)] := hD
  refine lv_aload_n hx hb dX12_movesCells_164 rfl (lv_at hl 3 rfl) ?_
  refine z_get (v := .ref a8) hx hb hg hown hK hP i_X12 rfl 0 rfl 39 (by decide) mt1319 e12 dX12_movesCells_165 ?_
  refine lv_iload_n hx hb dX12_movesCells_168 rfl (lv_at hl 1 rfl) ?_
  refine lv_aload_n hx hb dX12_movesCells_169 rfl (lv_at hl 3 rfl) ?_
  refine z_get (v := .ref a8) hx hb hg hown hK hP i_X12 rfl 0 rfl 39 (by decide) mt1319 e12 dX12_movesCells_170 ?_
  refine lv_iload_n hx hb dX12_movesCells_173 rfl (lv_at hl 2 rfl) ?_
  refine z_iald (v := 0) (j := 13) hx hb hK hP 8 rfl rfl (Nat.le_of_ble_eq_true rfl) (Nat.le_of_ble_eq_true rfl) (zu_of y182 (zu_ne (by decide) (zu_of y168 (zu_ne (by decide) (zu_of y154 (zu_ne (by decide) (zu_of y140 (zu_ne (by decide) (zu_of y126 (zu_ne (by decide) (zu_of y112 (zu_ne (by decide) (zu_of y98 (zu_ne (by decide) (zu_of y84 (zu_ne (by decide) (zu_of y70 (zu_ne (by decide) (zu_of y56 (zu_ne (by decide) (zu_of y42 (zu_ne (by decide) (zu_of y28 (zu_ne (by decide) (zu_of y14 (zu_ne (by decide) e78)))))))))))))))))))))))))) dX12_movesCells_174 ?_
  refine z_iast (j := 13) hx hb hK hP hD hS 8 rfl rfl (Nat.le_of_ble_eq_true rfl) (Nat.le_of_ble_eq_true rfl) dX12_movesCells_175 (fun ff195 H locs y196 hP hD hS => ?_)
  have hP : va_P K.1 classes [(a0, zO 10 83 g0), (a1, zI K 210000 f1), (a2, zI K 60000 ff183), (a3, zI K 60000 ff185), (a4, zI K 60000 ff187), (a5, zI K 60000 ff189), (a6, zI K 60000 ff191), (a7, zI K 60000 ff193), (a8, zI K 60000 ff195)] H := hP
  have hD : va_D A [(a0, zO 10 83 g0), (a1, zI K 210000 f1), (a2, zI K 60000 ff183), (a3, zI K 60000 ff185), (a4, zI K 60000 ff187), (a5, zI K 60000 ff189), (a6, zI K 60000 ff191), (a7, zI K 60000 ff193), (a8, zI K 60000 ff195)] := hD
  refine lv_iinc (v := 14) (lv' := [(1, .int 14), (3, .int 0), (2, .int 13), (0, .ref a0)]) hx hb dX12_movesCells_176 hl (k := 2) rfl (by decide +kernel) (by decide) rfl (fun ls hl => ?_)
  refine lv_goto (tgt := 2) hx hb dX12_movesCells_179 (by decide) ?_
  refine lv_iload_n hx hb dX12_movesCells_2 rfl (lv_at hl 0 rfl) ?_
  refine lv_aload_n hx hb dX12_movesCells_3 rfl (lv_at hl 3 rfl) ?_
  refine z_get (v := .int 16) hx hb hg hown hK hP i_X12 rfl 0 rfl 32 (by decide) mt1312 e0 dX12_movesCells_4 ?_
  refine lv_icmp_ge (tgt := 182) hx hb dX12_movesCells_7 (by decide) (fun c => absurd c (by decide)) (fun _ => ?_)
  refine lv_aload_n hx hb dX12_movesCells_10 rfl (lv_at hl 3 rfl) ?_
  refine z_get (v := .ref a1) hx hb hg hown hK hP i_X12 rfl 0 rfl 52 (by decide) mt1332 e1 dX12_movesCells_11 ?_
  refine lv_iload_n hx hb dX12_movesCells_14 rfl (lv_at hl 0 rfl) ?_
  refine z_iald (v := 14) (j := 14) hx hb hK hP 1 rfl rfl (Nat.le_of_ble_eq_true rfl) (Nat.le_of_ble_eq_true rfl) e79 dX12_movesCells_15 ?_
  refine lv_istore_n (lv' := [(2, .int 14), (1, .int 14), (3, .int 0), (0, .ref a0)]) hx hb dX12_movesCells_16 rfl hl (by decide) rfl (fun ls hl => ?_)
  refine lv_iload_n hx hb dX12_movesCells_17 rfl (lv_at hl 0 rfl) ?_
  refine lv_iconst (v := (-1)) hx hb dX12_movesCells_18 (by decide) ?_
  refine lv_icmp_eq (tgt := 176) hx hb dX12_movesCells_19 (by decide) (fun c => absurd c (by decide)) (fun _ => ?_)
  refine lv_aload_n hx hb dX12_movesCells_22 rfl (lv_at hl 3 rfl) ?_
  refine z_get (v := .ref a2) hx hb hg hown hK hP i_X12 rfl 0 rfl 33 (by decide) mt1313 e3 dX12_movesCells_23 ?_
  refine lv_iload_n hx hb dX12_movesCells_26 rfl (lv_at hl 1 rfl) ?_
  refine z_iald (v := 0) (j := 14) hx hb hK hP 2 rfl rfl (Nat.le_of_ble_eq_true rfl) (Nat.le_of_ble_eq_true rfl) (zu_of y184 (zu_ne (by decide) (zu_of y170 (zu_ne (by decide) (zu_of y156 (zu_ne (by decide) (zu_of y142 (zu_ne (by decide) (zu_of y128 (zu_ne (by decide) (zu_of y114 (zu_ne (by decide) (zu_of y100 (zu_ne (by decide) (zu_of y86 (zu_ne (by decide) (zu_of y72 (zu_ne (by decide) (zu_of y58 (zu_ne (by decide) (zu_of y44 (zu_ne (by decide) (zu_of y30 (zu_ne (by decide) (zu_of y16 (zu_ne (by decide) (zu_of y2 (zu_ne (by decide) e80)))))))))))))))))))))))))))) dX12_movesCells_27 ?_
  refine lv_iconst (v := 2) hx hb dX12_movesCells_28 (by decide) ?_
  refine lv_icmp_ne (tgt := 36) hx hb dX12_movesCells_29 (by decide) (fun _ => ?_) (fun c => absurd c (by decide))
  refine lv_iconst (v := 0) hx hb dX12_movesCells_36 (by decide) ?_
  refine lv_istore_n (lv' := [(3, .int 0), (2, .int 14), (1, .int 14), (0, .ref a0)]) hx hb dX12_movesCells_37 rfl hl (by decide) rfl (fun ls hl => ?_)
  refine lv_aload_n hx hb dX12_movesCells_38 rfl (lv_at hl 3 rfl) ?_
  refine z_get (v := .ref a2) hx hb hg hown hK hP i_X12 rfl 0 rfl 33 (by decide) mt1313 e3 dX12_movesCells_39 ?_
  refine lv_iload_n hx hb dX12_movesCells_42 rfl (lv_at hl 1 rfl) ?_
  refine lv_aload_n hx hb dX12_movesCells_43 rfl (lv_at hl 3 rfl) ?_
  refine z_get (v := .ref a2) hx hb hg hown hK hP i_X12 rfl 0 rfl 33 (by decide) mt1313 e3 dX12_movesCells_44 ?_
  refine lv_iload_n hx hb dX12_movesCells_47 rfl (lv_at hl 2 rfl) ?_
  refine z_iald (v := 0) (j := 14) hx hb hK hP 2 rfl rfl (Nat.le_of_ble_eq_true rfl) (Nat.le_of_ble_eq_true rfl) (zu_of y184 (zu_ne (by decide) (zu_of y170 (zu_ne (by decide) (zu_of y156 (zu_ne (by decide) (zu_of y142 (zu_ne (by decide) (zu_of y128 (zu_ne (by decide) (zu_of y114 (zu_ne (by decide) (zu_of y100 (zu_ne (by decide) (zu_of y86 (zu_ne (by decide) (zu_of y72 (zu_ne (by decide) (zu_of y58 (zu_ne (by decide) (zu_of y44 (zu_ne (by decide) (zu_of y30 (zu_ne (by decide) (zu_of y16 (zu_ne (by decide) (zu_of y2 (zu_ne (by decide) e80)))))))))))))))))))))))))))) dX12_movesCells_48 ?_
  refine z_iast (j := 14) hx hb hK hP hD hS 2 rfl rfl (Nat.le_of_ble_eq_true rfl) (Nat.le_of_ble_eq_true rfl) dX12_movesCells_49 (fun ff197 H locs y198 hP hD hS => ?_)
  have hP : va_P K.1 classes [(a0, zO 10 83 g0), (a1, zI K 210000 f1), (a2, zI K 60000 ff197), (a3, zI K 60000 ff185), (a4, zI K 60000 ff187), (a5, zI K 60000 ff189), (a6, zI K 60000 ff191), (a7, zI K 60000 ff193), (a8, zI K 60000 ff195)] H := hP
  have hD : va_D A [(a0, zO 10 83 g0), (a1, zI K 210000 f1), (a2, zI K 60000 ff197), (a3, zI K 60000 ff185), (a4, zI K 60000 ff187), (a5, zI K 60000 ff189), (a6, zI K 60000 ff191), (a7, zI K 60000 ff193), (a8, zI K 60000 ff195)] := hD
  refine lv_aload_n hx hb dX12_movesCells_50 rfl (lv_at hl 3 rfl) ?_
  refine z_get (v := .ref a3) hx hb hg hown hK hP i_X12 rfl 0 rfl 34 (by decide) mt1314 e5 dX12_movesCells_51 ?_
  refine lv_iload_n hx hb dX12_movesCells_54 rfl (lv_at hl 1 rfl) ?_
  refine lv_aload_n hx hb dX12_movesCells_55 rfl (lv_at hl 3 rfl) ?_
  refine z_get (v := .ref a3) hx hb hg hown hK hP i_X12 rfl 0 rfl 34 (by decide) mt1314 e5 dX12_movesCells_56 ?_
  refine lv_iload_n hx hb dX12_movesCells_59 rfl (lv_at hl 2 rfl) ?_
  refine z_iald (v := 0) (j := 14) hx hb hK hP 3 rfl rfl (Nat.le_of_ble_eq_true rfl) (Nat.le_of_ble_eq_true rfl) (zu_of y186 (zu_ne (by decide) (zu_of y172 (zu_ne (by decide) (zu_of y158 (zu_ne (by decide) (zu_of y144 (zu_ne (by decide) (zu_of y130 (zu_ne (by decide) (zu_of y116 (zu_ne (by decide) (zu_of y102 (zu_ne (by decide) (zu_of y88 (zu_ne (by decide) (zu_of y74 (zu_ne (by decide) (zu_of y60 (zu_ne (by decide) (zu_of y46 (zu_ne (by decide) (zu_of y32 (zu_ne (by decide) (zu_of y18 (zu_ne (by decide) (zu_of y4 (zu_ne (by decide) e81)))))))))))))))))))))))))))) dX12_movesCells_60 ?_
  refine z_iast (j := 14) hx hb hK hP hD hS 3 rfl rfl (Nat.le_of_ble_eq_true rfl) (Nat.le_of_ble_eq_true rfl) dX12_movesCells_61 (fun ff199 H locs y200 hP hD hS => ?_)
  have hP : va_P K.1 classes [(a0, zO 10 83 g0), (a1, zI K 210000 f1), (a2, zI K 60000 ff197), (a3, zI K 60000 ff199), (a4, zI K 60000 ff187), (a5, zI K 60000 ff189), (a6, zI K 60000 ff191), (a7, zI K 60000 ff193), (a8, zI K 60000 ff195)] H := hP
  have hD : va_D A [(a0, zO 10 83 g0), (a1, zI K 210000 f1), (a2, zI K 60000 ff197), (a3, zI K 60000 ff199), (a4, zI K 60000 ff187), (a5, zI K 60000 ff189), (a6, zI K 60000 ff191), (a7, zI K 60000 ff193), (a8, zI K 60000 ff195)] := hD
  refine lv_aload_n hx hb dX12_movesCells_62 rfl (lv_at hl 3 rfl) ?_
  refine z_get (v := .ref a4) hx hb hg hown hK hP i_X12 rfl 0 rfl 35 (by decide) mt1315 e7 dX12_movesCells_63 ?_
  refine lv_iload_n hx hb dX12_movesCells_66 rfl (lv_at hl 1 rfl) ?_
  refine lv_iload_n hx hb dX12_movesCells_67 rfl (lv_at hl 0 rfl) ?_
  refine lv_if_eq (tgt := 90) hx hb dX12_movesCells_68 (by decide) (fun _ => ?_) (fun c => absurd (by decide) c)
  refine lv_iconst (v := 0) hx hb dX12_movesCells_90 (by decide) ?_
  refine z_iast (j := 14) hx hb hK hP hD hS 4 rfl rfl (Nat.le_of_ble_eq_true rfl) (Nat.le_of_ble_eq_true rfl) dX12_movesCells_91 (fun ff201 H locs y202 hP hD hS => ?_)
  have hP : va_P K.1 classes [(a0, zO 10 83 g0), (a1, zI K 210000 f1), (a2, zI K 60000 ff197), (a3, zI K 60000 ff199), (a4, zI K 60000 ff201), (a5, zI K 60000 ff189), (a6, zI K 60000 ff191), (a7, zI K 60000 ff193), (a8, zI K 60000 ff195)] H := hP
  have hD : va_D A [(a0, zO 10 83 g0), (a1, zI K 210000 f1), (a2, zI K 60000 ff197), (a3, zI K 60000 ff199), (a4, zI K 60000 ff201), (a5, zI K 60000 ff189), (a6, zI K 60000 ff191), (a7, zI K 60000 ff193), (a8, zI K 60000 ff195)] := hD
  refine lv_aload_n hx hb dX12_movesCells_92 rfl (lv_at hl 3 rfl) ?_
  refine z_get (v := .ref a5) hx hb hg hown hK hP i_X12 rfl 0 rfl 36 (by decide) mt1316 e8 dX12_movesCells_93 ?_
  refine lv_iload_n hx hb dX12_movesCells_96 rfl (lv_at hl 1 rfl) ?_
  refine lv_iload_n hx hb dX12_movesCells_97 rfl (lv_at hl 0 rfl) ?_
  refine lv_if_eq (tgt := 120) hx hb dX12_movesCells_98 (by decide) (fun _ => ?_) (fun c => absurd (by decide) c)
  refine lv_iconst (v := 0) hx hb dX12_movesCells_120 (by decide) ?_
  refine z_iast (j := 14) hx hb hK hP hD hS 5 rfl rfl (Nat.le_of_ble_eq_true rfl) (Nat.le_of_ble_eq_true rfl) dX12_movesCells_121 (fun ff203 H locs y204 hP hD hS => ?_)
  have hP : va_P K.1 classes [(a0, zO 10 83 g0), (a1, zI K 210000 f1), (a2, zI K 60000 ff197), (a3, zI K 60000 ff199), (a4, zI K 60000 ff201), (a5, zI K 60000 ff203), (a6, zI K 60000 ff191), (a7, zI K 60000 ff193), (a8, zI K 60000 ff195)] H := hP
  have hD : va_D A [(a0, zO 10 83 g0), (a1, zI K 210000 f1), (a2, zI K 60000 ff197), (a3, zI K 60000 ff199), (a4, zI K 60000 ff201), (a5, zI K 60000 ff203), (a6, zI K 60000 ff191), (a7, zI K 60000 ff193), (a8, zI K 60000 ff195)] := hD
  refine lv_aload_n hx hb dX12_movesCells_122 rfl (lv_at hl 3 rfl) ?_
  refine z_get (v := .ref a6) hx hb hg hown hK hP i_X12 rfl 0 rfl 37 (by decide) mt1317 e9 dX12_movesCells_123 ?_
  refine lv_iload_n hx hb dX12_movesCells_126 rfl (lv_at hl 1 rfl) ?_
  refine lv_aload_n hx hb dX12_movesCells_127 rfl (lv_at hl 3 rfl) ?_
  refine z_get (v := .ref a6) hx hb hg hown hK hP i_X12 rfl 0 rfl 37 (by decide) mt1317 e9 dX12_movesCells_128 ?_
  refine lv_iload_n hx hb dX12_movesCells_131 rfl (lv_at hl 2 rfl) ?_
  refine z_iald (v := 0) (j := 14) hx hb hK hP 6 rfl rfl (Nat.le_of_ble_eq_true rfl) (Nat.le_of_ble_eq_true rfl) (zu_of y192 (zu_ne (by decide) (zu_of y178 (zu_ne (by decide) (zu_of y164 (zu_ne (by decide) (zu_of y150 (zu_ne (by decide) (zu_of y136 (zu_ne (by decide) (zu_of y122 (zu_ne (by decide) (zu_of y108 (zu_ne (by decide) (zu_of y94 (zu_ne (by decide) (zu_of y80 (zu_ne (by decide) (zu_of y66 (zu_ne (by decide) (zu_of y52 (zu_ne (by decide) (zu_of y38 (zu_ne (by decide) (zu_of y24 (zu_ne (by decide) (zu_of y10 (zu_ne (by decide) e82)))))))))))))))))))))))))))) dX12_movesCells_132 ?_
  refine z_iast (j := 14) hx hb hK hP hD hS 6 rfl rfl (Nat.le_of_ble_eq_true rfl) (Nat.le_of_ble_eq_true rfl) dX12_movesCells_133 (fun ff205 H locs y206 hP hD hS => ?_)
  have hP : va_P K.1 classes [(a0, zO 10 83 g0), (a1, zI K 210000 f1), (a2, zI K 60000 ff197), (a3, zI K 60000 ff199), (a4, zI K 60000 ff201), (a5, zI K 60000 ff203), (a6, zI K 60000 ff205), (a7, zI K 60000 ff193), (a8, zI K 60000 ff195)] H := hP
  have hD : va_D A [(a0, zO 10 83 g0), (a1, zI K 210000 f1), (a2, zI K 60000 ff197), (a3, zI K 60000 ff199), (a4, zI K 60000 ff201), (a5, zI K 60000 ff203), (a6, zI K 60000 ff205), (a7, zI K 60000 ff193), (a8, zI K 60000 ff195)] := hD
  refine lv_aload_n hx hb dX12_movesCells_134 rfl (lv_at hl 3 rfl) ?_
  refine z_get (v := .ref a7) hx hb hg hown hK hP i_X12 rfl 0 rfl 38 (by decide) mt1318 e11 dX12_movesCells_135 ?_
  refine lv_iload_n hx hb dX12_movesCells_138 rfl (lv_at hl 1 rfl) ?_
  refine lv_iload_n hx hb dX12_movesCells_139 rfl (lv_at hl 0 rfl) ?_
  refine lv_if_ne (tgt := 149) hx hb dX12_movesCells_140 (by decide) (fun c => absurd (by decide) c) (fun _ => ?_)
  refine lv_iload_n hx hb dX12_movesCells_143 rfl (lv_at hl 2 rfl) ?_
  refine lv_bipush (v := 16) hx hb dX12_movesCells_144 (by decide) ?_
  refine lv_icmp_ge (tgt := 153) hx hb dX12_movesCells_146 (by decide) (fun c => absurd c (by decide)) (fun _ => ?_)
  refine lv_iconst (v := (-1)) hx hb dX12_movesCells_149 (by decide) ?_
  refine lv_goto (tgt := 163) hx hb dX12_movesCells_150 (by decide) ?_
  refine z_iast (j := 14) hx hb hK hP hD hS 7 rfl rfl (Nat.le_of_ble_eq_true rfl) (Nat.le_of_ble_eq_true rfl) dX12_movesCells_163 (fun ff207 H locs y208 hP hD hS => ?_)
  have hP : va_P K.1 classes [(a0, zO 10 83 g0), (a1, zI K 210000 f1), (a2, zI K 60000 ff197), (a3, zI K 60000 ff199), (a4, zI K 60000 ff201), (a5, zI K 60000 ff203), (a6, zI K 60000 ff205), (a7, zI K 60000 ff207), (a8, zI K 60000 ff195)] H := hP
  have hD : va_D A [(a0, zO 10 83 g0), (a1, zI K 210000 f1), (a2, zI K 60000 ff197), (a3, zI K 60000 ff199), (a4, zI K 60000 ff201), (a5, zI K 60000 ff203), (a6, zI K 60000 ff205), (a7, zI K 60000 ff207), (a8, zI K 60000 ff195)] := hD
  refine lv_aload_n hx hb dX12_movesCells_164 rfl (lv_at hl 3 rfl) ?_
  refine z_get (v := .ref a8) hx hb hg hown hK hP i_X12 rfl 0 rfl 39 (by decide) mt1319 e12 dX12_movesCells_165 ?_
  refine lv_iload_n hx hb dX12_movesCells_168 rfl (lv_at hl 1 rfl) ?_
  refine lv_aload_n hx hb dX12_movesCells_169 rfl (lv_at hl 3 rfl) ?_
  refine z_get (v := .ref a8) hx hb hg hown hK hP i_X12 rfl 0 rfl 39 (by decide) mt1319 e12 dX12_movesCells_170 ?_
  refine lv_iload_n hx hb dX12_movesCells_173 rfl (lv_at hl 2 rfl) ?_
  refine z_iald (v := 0) (j := 14) hx hb hK hP 8 rfl rfl (Nat.le_of_ble_eq_true rfl) (Nat.le_of_ble_eq_true rfl) (zu_of y196 (zu_ne (by decide) (zu_of y182 (zu_ne (by decide) (zu_of y168 (zu_ne (by decide) (zu_of y154 (zu_ne (by decide) (zu_of y140 (zu_ne (by decide) (zu_of y126 (zu_ne (by decide) (zu_of y112 (zu_ne (by decide) (zu_of y98 (zu_ne (by decide) (zu_of y84 (zu_ne (by decide) (zu_of y70 (zu_ne (by decide) (zu_of y56 (zu_ne (by decide) (zu_of y42 (zu_ne (by decide) (zu_of y28 (zu_ne (by decide) (zu_of y14 (zu_ne (by decide) e83)))))))))))))))))))))))))))) dX12_movesCells_174 ?_
  refine z_iast (j := 14) hx hb hK hP hD hS 8 rfl rfl (Nat.le_of_ble_eq_true rfl) (Nat.le_of_ble_eq_true rfl) dX12_movesCells_175 (fun ff209 H locs y210 hP hD hS => ?_)
  have hP : va_P K.1 classes [(a0, zO 10 83 g0), (a1, zI K 210000 f1), (a2, zI K 60000 ff197), (a3, zI K 60000 ff199), (a4, zI K 60000 ff201), (a5, zI K 60000 ff203), (a6, zI K 60000 ff205), (a7, zI K 60000 ff207), (a8, zI K 60000 ff209)] H := hP
  have hD : va_D A [(a0, zO 10 83 g0), (a1, zI K 210000 f1), (a2, zI K 60000 ff197), (a3, zI K 60000 ff199), (a4, zI K 60000 ff201), (a5, zI K 60000 ff203), (a6, zI K 60000 ff205), (a7, zI K 60000 ff207), (a8, zI K 60000 ff209)] := hD
  refine lv_iinc (v := 15) (lv' := [(1, .int 15), (3, .int 0), (2, .int 14), (0, .ref a0)]) hx hb dX12_movesCells_176 hl (k := 2) rfl (by decide +kernel) (by decide) rfl (fun ls hl => ?_)
  refine lv_goto (tgt := 2) hx hb dX12_movesCells_179 (by decide) ?_
  refine lv_iload_n hx hb dX12_movesCells_2 rfl (lv_at hl 0 rfl) ?_
  refine lv_aload_n hx hb dX12_movesCells_3 rfl (lv_at hl 3 rfl) ?_
  refine z_get (v := .int 16) hx hb hg hown hK hP i_X12 rfl 0 rfl 32 (by decide) mt1312 e0 dX12_movesCells_4 ?_
  refine lv_icmp_ge (tgt := 182) hx hb dX12_movesCells_7 (by decide) (fun c => absurd c (by decide)) (fun _ => ?_)
  refine lv_aload_n hx hb dX12_movesCells_10 rfl (lv_at hl 3 rfl) ?_
  refine z_get (v := .ref a1) hx hb hg hown hK hP i_X12 rfl 0 rfl 52 (by decide) mt1332 e1 dX12_movesCells_11 ?_
  refine lv_iload_n hx hb dX12_movesCells_14 rfl (lv_at hl 0 rfl) ?_
  refine z_iald (v := 15) (j := 15) hx hb hK hP 1 rfl rfl (Nat.le_of_ble_eq_true rfl) (Nat.le_of_ble_eq_true rfl) e84 dX12_movesCells_15 ?_
  refine lv_istore_n (lv' := [(2, .int 15), (1, .int 15), (3, .int 0), (0, .ref a0)]) hx hb dX12_movesCells_16 rfl hl (by decide) rfl (fun ls hl => ?_)
  refine lv_iload_n hx hb dX12_movesCells_17 rfl (lv_at hl 0 rfl) ?_
  refine lv_iconst (v := (-1)) hx hb dX12_movesCells_18 (by decide) ?_
  refine lv_icmp_eq (tgt := 176) hx hb dX12_movesCells_19 (by decide) (fun c => absurd c (by decide)) (fun _ => ?_)
  refine lv_aload_n hx hb dX12_movesCells_22 rfl (lv_at hl 3 rfl) ?_
  refine z_get (v := .ref a2) hx hb hg hown hK hP i_X12 rfl 0 rfl 33 (by decide) mt1313 e3 dX12_movesCells_23 ?_
  refine lv_iload_n hx hb dX12_movesCells_26 rfl (lv_at hl 1 rfl) ?_
  refine z_iald (v := 0) (j := 15) hx hb hK hP 2 rfl rfl (Nat.le_of_ble_eq_true rfl) (Nat.le_of_ble_eq_true rfl) (zu_of y198 (zu_ne (by decide) (zu_of y184 (zu_ne (by decide) (zu_of y170 (zu_ne (by decide) (zu_of y156 (zu_ne (by decide) (zu_of y142 (zu_ne (by decide) (zu_of y128 (zu_ne (by decide) (zu_of y114 (zu_ne (by decide) (zu_of y100 (zu_ne (by decide) (zu_of y86 (zu_ne (by decide) (zu_of y72 (zu_ne (by decide) (zu_of y58 (zu_ne (by decide) (zu_of y44 (zu_ne (by decide) (zu_of y30 (zu_ne (by decide) (zu_of y16 (zu_ne (by decide) (zu_of y2 (zu_ne (by decide) e85)))))))))))))))))))))))))))))) dX12_movesCells_27 ?_
  refine lv_iconst (v := 2) hx hb dX12_movesCells_28 (by decide) ?_
  refine lv_icmp_ne (tgt := 36) hx hb dX12_movesCells_29 (by decide) (fun _ => ?_) (fun c => absurd c (by decide))
  refine lv_iconst (v := 0) hx hb dX12_movesCells_36 (by decide) ?_
  refine lv_istore_n (lv' := [(3, .int 0), (2, .int 15), (1, .int 15), (0, .ref a0)]) hx hb dX12_movesCells_37 rfl hl (by decide) rfl (fun ls hl => ?_)
  refine lv_aload_n hx hb dX12_movesCells_38 rfl (lv_at hl 3 rfl) ?_
  refine z_get (v := .ref a2) hx hb hg hown hK hP i_X12 rfl 0 rfl 33 (by decide) mt1313 e3 dX12_movesCells_39 ?_
  refine lv_iload_n hx hb dX12_movesCells_42 rfl (lv_at hl 1 rfl) ?_
  refine lv_aload_n hx hb dX12_movesCells_43 rfl (lv_at hl 3 rfl) ?_
  refine z_get (v := .ref a2) hx hb hg hown hK hP i_X12 rfl 0 rfl 33 (by decide) mt1313 e3 dX12_movesCells_44 ?_
  refine lv_iload_n hx hb dX12_movesCells_47 rfl (lv_at hl 2 rfl) ?_
  refine z_iald (v := 0) (j := 15) hx hb hK hP 2 rfl rfl (Nat.le_of_ble_eq_true rfl) (Nat.le_of_ble_eq_true rfl) (zu_of y198 (zu_ne (by decide) (zu_of y184 (zu_ne (by decide) (zu_of y170 (zu_ne (by decide) (zu_of y156 (zu_ne (by decide) (zu_of y142 (zu_ne (by decide) (zu_of y128 (zu_ne (by decide) (zu_of y114 (zu_ne (by decide) (zu_of y100 (zu_ne (by decide) (zu_of y86 (zu_ne (by decide) (zu_of y72 (zu_ne (by decide) (zu_of y58 (zu_ne (by decide) (zu_of y44 (zu_ne (by decide) (zu_of y30 (zu_ne (by decide) (zu_of y16 (zu_ne (by decide) (zu_of y2 (zu_ne (by decide) e85)))))))))))))))))))))))))))))) dX12_movesCells_48 ?_
  refine z_iast (j := 15) hx hb hK hP hD hS 2 rfl rfl (Nat.le_of_ble_eq_true rfl) (Nat.le_of_ble_eq_true rfl) dX12_movesCells_49 (fun ff211 H locs y212 hP hD hS => ?_)
  have hP : va_P K.1 classes [(a0, zO 10 83 g0), (a1, zI K 210000 f1), (a2, zI K 60000 ff211), (a3, zI K 60000 ff199), (a4, zI K 60000 ff201), (a5, zI K 60000 ff203), (a6, zI K 60000 ff205), (a7, zI K 60000 ff207), (a8, zI K 60000 ff209)] H := hP
  have hD : va_D A [(a0, zO 10 83 g0), (a1, zI K 210000 f1), (a2, zI K 60000 ff211), (a3, zI K 60000 ff199), (a4, zI K 60000 ff201), (a5, zI K 60000 ff203), (a6, zI K 60000 ff205), (a7, zI K 60000 ff207), (a8, zI K 60000 ff209)] := hD
  refine lv_aload_n hx hb dX12_movesCells_50 rfl (lv_at hl 3 rfl) ?_
  refine z_get (v := .ref a3) hx hb hg hown hK hP i_X12 rfl 0 rfl 34 (by decide) mt1314 e5 dX12_movesCells_51 ?_
  refine lv_iload_n hx hb dX12_movesCells_54 rfl (lv_at hl 1 rfl) ?_
  refine lv_aload_n hx hb dX12_movesCells_55 rfl (lv_at hl 3 rfl) ?_
  refine z_get (v := .ref a3) hx hb hg hown hK hP i_X12 rfl 0 rfl 34 (by decide) mt1314 e5 dX12_movesCells_56 ?_
  refine lv_iload_n hx hb dX12_movesCells_59 rfl (lv_at hl 2 rfl) ?_
  refine z_iald (v := 0) (j := 15) hx hb hK hP 3 rfl rfl (Nat.le_of_ble_eq_true rfl) (Nat.le_of_ble_eq_true rfl) (zu_of y200 (zu_ne (by decide) (zu_of y186 (zu_ne (by decide) (zu_of y172 (zu_ne (by decide) (zu_of y158 (zu_ne (by decide) (zu_of y144 (zu_ne (by decide) (zu_of y130 (zu_ne (by decide) (zu_of y116 (zu_ne (by decide) (zu_of y102 (zu_ne (by decide) (zu_of y88 (zu_ne (by decide) (zu_of y74 (zu_ne (by decide) (zu_of y60 (zu_ne (by decide) (zu_of y46 (zu_ne (by decide) (zu_of y32 (zu_ne (by decide) (zu_of y18 (zu_ne (by decide) (zu_of y4 (zu_ne (by decide) e86)))))))))))))))))))))))))))))) dX12_movesCells_60 ?_
  refine z_iast (j := 15) hx hb hK hP hD hS 3 rfl rfl (Nat.le_of_ble_eq_true rfl) (Nat.le_of_ble_eq_true rfl) dX12_movesCells_61 (fun ff213 H locs y214 hP hD hS => ?_)
  have hP : va_P K.1 classes [(a0, zO 10 83 g0), (a1, zI K 210000 f1), (a2, zI K 60000 ff211), (a3, zI K 60000 ff213), (a4, zI K 60000 ff201), (a5, zI K 60000 ff203), (a6, zI K 60000 ff205), (a7, zI K 60000 ff207), (a8, zI K 60000 ff209)] H := hP
  have hD : va_D A [(a0, zO 10 83 g0), (a1, zI K 210000 f1), (a2, zI K 60000 ff211), (a3, zI K 60000 ff213), (a4, zI K 60000 ff201), (a5, zI K 60000 ff203), (a6, zI K 60000 ff205), (a7, zI K 60000 ff207), (a8, zI K 60000 ff209)] := hD
  refine lv_aload_n hx hb dX12_movesCells_62 rfl (lv_at hl 3 rfl) ?_
  refine z_get (v := .ref a4) hx hb hg hown hK hP i_X12 rfl 0 rfl 35 (by decide) mt1315 e7 dX12_movesCells_63 ?_
  refine lv_iload_n hx hb dX12_movesCells_66 rfl (lv_at hl 1 rfl) ?_
  refine lv_iload_n hx hb dX12_movesCells_67 rfl (lv_at hl 0 rfl) ?_
  refine lv_if_eq (tgt := 90) hx hb dX12_movesCells_68 (by decide) (fun _ => ?_) (fun c => absurd (by decide) c)
  refine lv_iconst (v := 0) hx hb dX12_movesCells_90 (by decide) ?_
  refine z_iast (j := 15) hx hb hK hP hD hS 4 rfl rfl (Nat.le_of_ble_eq_true rfl) (Nat.le_of_ble_eq_true rfl) dX12_movesCells_91 (fun ff215 H locs y216 hP hD hS => ?_)
  have hP : va_P K.1 classes [(a0, zO 10 83 g0), (a1, zI K 210000 f1), (a2, zI K 60000 ff211), (a3, zI K 60000 ff213), (a4, zI K 60000 ff215), (a5, zI K 60000 ff203), (a6, zI K 60000 ff205), (a7, zI K 60000 ff207), (a8, zI K 60000 ff209)] H := hP
  have hD : va_D A [(a0, zO 10 83 g0), (a1, zI K 210000 f1), (a2, zI K 60000 ff211), (a3, zI K 60000 ff213), (a4, zI K 60000 ff215), (a5, zI K 60000 ff203), (a6, zI K 60000 ff205), (a7, zI K 60000 ff207), (a8, zI K 60000 ff209)] := hD
  refine lv_aload_n hx hb dX12_movesCells_92 rfl (lv_at hl 3 rfl) ?_
  refine z_get (v := .ref a5) hx hb hg hown hK hP i_X12 rfl 0 rfl 36 (by decide) mt1316 e8 dX12_movesCells_93 ?_
  refine lv_iload_n hx hb dX12_movesCells_96 rfl (lv_at hl 1 rfl) ?_
  refine lv_iload_n hx hb dX12_movesCells_97 rfl (lv_at hl 0 rfl) ?_
  refine lv_if_eq (tgt := 120) hx hb dX12_movesCells_98 (by decide) (fun _ => ?_) (fun c => absurd (by decide) c)
  refine lv_iconst (v := 0) hx hb dX12_movesCells_120 (by decide) ?_
  refine z_iast (j := 15) hx hb hK hP hD hS 5 rfl rfl (Nat.le_of_ble_eq_true rfl) (Nat.le_of_ble_eq_true rfl) dX12_movesCells_121 (fun ff217 H locs y218 hP hD hS => ?_)
  have hP : va_P K.1 classes [(a0, zO 10 83 g0), (a1, zI K 210000 f1), (a2, zI K 60000 ff211), (a3, zI K 60000 ff213), (a4, zI K 60000 ff215), (a5, zI K 60000 ff217), (a6, zI K 60000 ff205), (a7, zI K 60000 ff207), (a8, zI K 60000 ff209)] H := hP
  have hD : va_D A [(a0, zO 10 83 g0), (a1, zI K 210000 f1), (a2, zI K 60000 ff211), (a3, zI K 60000 ff213), (a4, zI K 60000 ff215), (a5, zI K 60000 ff217), (a6, zI K 60000 ff205), (a7, zI K 60000 ff207), (a8, zI K 60000 ff209)] := hD
  refine lv_aload_n hx hb dX12_movesCells_122 rfl (lv_at hl 3 rfl) ?_
  refine z_get (v := .ref a6) hx hb hg hown hK hP i_X12 rfl 0 rfl 37 (by decide) mt1317 e9 dX12_movesCells_123 ?_
  refine lv_iload_n hx hb dX12_movesCells_126 rfl (lv_at hl 1 rfl) ?_
  refine lv_aload_n hx hb dX12_movesCells_127 rfl (lv_at hl 3 rfl) ?_
  refine z_get (v := .ref a6) hx hb hg hown hK hP i_X12 rfl 0 rfl 37 (by decide) mt1317 e9 dX12_movesCells_128 ?_
  refine lv_iload_n hx hb dX12_movesCells_131 rfl (lv_at hl 2 rfl) ?_
  refine z_iald (v := 0) (j := 15) hx hb hK hP 6 rfl rfl (Nat.le_of_ble_eq_true rfl) (Nat.le_of_ble_eq_true rfl) (zu_of y206 (zu_ne (by decide) (zu_of y192 (zu_ne (by decide) (zu_of y178 (zu_ne (by decide) (zu_of y164 (zu_ne (by decide) (zu_of y150 (zu_ne (by decide) (zu_of y136 (zu_ne (by decide) (zu_of y122 (zu_ne (by decide) (zu_of y108 (zu_ne (by decide) (zu_of y94 (zu_ne (by decide) (zu_of y80 (zu_ne (by decide) (zu_of y66 (zu_ne (by decide) (zu_of y52 (zu_ne (by decide) (zu_of y38 (zu_ne (by decide) (zu_of y24 (zu_ne (by decide) (zu_of y10 (zu_ne (by decide) e87)))))))))))))))))))))))))))))) dX12_movesCells_132 ?_
  refine z_iast (j := 15) hx hb hK hP hD hS 6 rfl rfl (Nat.le_of_ble_eq_true rfl) (Nat.le_of_ble_eq_true rfl) dX12_movesCells_133 (fun ff219 H locs y220 hP hD hS => ?_)
  have hP : va_P K.1 classes [(a0, zO 10 83 g0), (a1, zI K 210000 f1), (a2, zI K 60000 ff211), (a3, zI K 60000 ff213), (a4, zI K 60000 ff215), (a5, zI K 60000 ff217), (a6, zI K 60000 ff219), (a7, zI K 60000 ff207), (a8, zI K 60000 ff209)] H := hP
  have hD : va_D A [(a0, zO 10 83 g0), (a1, zI K 210000 f1), (a2, zI K 60000 ff211), (a3, zI K 60000 ff213), (a4, zI K 60000 ff215), (a5, zI K 60000 ff217), (a6, zI K 60000 ff219), (a7, zI K 60000 ff207), (a8, zI K 60000 ff209)] := hD
  refine lv_aload_n hx hb dX12_movesCells_134 rfl (lv_at hl 3 rfl) ?_
  refine z_get (v := .ref a7) hx hb hg hown hK hP i_X12 rfl 0 rfl 38 (by decide) mt1318 e11 dX12_movesCells_135 ?_
  refine lv_iload_n hx hb dX12_movesCells_138 rfl (lv_at hl 1 rfl) ?_
  refine lv_iload_n hx hb dX12_movesCells_139 rfl (lv_at hl 0 rfl) ?_
  refine lv_if_ne (tgt := 149) hx hb dX12_movesCells_140 (by decide) (fun c => absurd (by decide) c) (fun _ => ?_)
  refine lv_iload_n hx hb dX12_movesCells_143 rfl (lv_at hl 2 rfl) ?_
  refine lv_bipush (v := 16) hx hb dX12_movesCells_144 (by decide) ?_
  refine lv_icmp_ge (tgt := 153) hx hb dX12_movesCells_146 (by decide) (fun c => absurd c (by decide)) (fun _ => ?_)
  refine lv_iconst (v := (-1)) hx hb dX12_movesCells_149 (by decide) ?_
  refine lv_goto (tgt := 163) hx hb dX12_movesCells_150 (by decide) ?_
  refine z_iast (j := 15) hx hb hK hP hD hS 7 rfl rfl (Nat.le_of_ble_eq_true rfl) (Nat.le_of_ble_eq_true rfl) dX12_movesCells_163 (fun ff221 H locs y222 hP hD hS => ?_)
  have hP : va_P K.1 classes [(a0, zO 10 83 g0), (a1, zI K 210000 f1), (a2, zI K 60000 ff211), (a3, zI K 60000 ff213), (a4, zI K 60000 ff215), (a5, zI K 60000 ff217), (a6, zI K 60000 ff219), (a7, zI K 60000 ff221), (a8, zI K 60000 ff209)] H := hP
  have hD : va_D A [(a0, zO 10 83 g0), (a1, zI K 210000 f1), (a2, zI K 60000 ff211), (a3, zI K 60000 ff213), (a4, zI K 60000 ff215), (a5, zI K 60000 ff217), (a6, zI K 60000 ff219), (a7, zI K 60000 ff221), (a8, zI K 60000 ff209)] := hD
  refine lv_aload_n hx hb dX12_movesCells_164 rfl (lv_at hl 3 rfl) ?_
  refine z_get (v := .ref a8) hx hb hg hown hK hP i_X12 rfl 0 rfl 39 (by decide) mt1319 e12 dX12_movesCells_165 ?_
  refine lv_iload_n hx hb dX12_movesCells_168 rfl (lv_at hl 1 rfl) ?_
  refine lv_aload_n hx hb dX12_movesCells_169 rfl (lv_at hl 3 rfl) ?_
  refine z_get (v := .ref a8) hx hb hg hown hK hP i_X12 rfl 0 rfl 39 (by decide) mt1319 e12 dX12_movesCells_170 ?_
  refine lv_iload_n hx hb dX12_movesCells_173 rfl (lv_at hl 2 rfl) ?_
  refine z_iald (v := 0) (j := 15) hx hb hK hP 8 rfl rfl (Nat.le_of_ble_eq_true rfl) (Nat.le_of_ble_eq_true rfl) (zu_of y210 (zu_ne (by decide) (zu_of y196 (zu_ne (by decide) (zu_of y182 (zu_ne (by decide) (zu_of y168 (zu_ne (by decide) (zu_of y154 (zu_ne (by decide) (zu_of y140 (zu_ne (by decide) (zu_of y126 (zu_ne (by decide) (zu_of y112 (zu_ne (by decide) (zu_of y98 (zu_ne (by decide) (zu_of y84 (zu_ne (by decide) (zu_of y70 (zu_ne (by decide) (zu_of y56 (zu_ne (by decide) (zu_of y42 (zu_ne (by decide) (zu_of y28 (zu_ne (by decide) (zu_of y14 (zu_ne (by decide) e88)))))))))))))))))))))))))))))) dX12_movesCells_174 ?_
  refine z_iast (j := 15) hx hb hK hP hD hS 8 rfl rfl (Nat.le_of_ble_eq_true rfl) (Nat.le_of_ble_eq_true rfl) dX12_movesCells_175 (fun ff223 H locs y224 hP hD hS => ?_)
  have hP : va_P K.1 classes [(a0, zO 10 83 g0), (a1, zI K 210000 f1), (a2, zI K 60000 ff211), (a3, zI K 60000 ff213), (a4, zI K 60000 ff215), (a5, zI K 60000 ff217), (a6, zI K 60000 ff219), (a7, zI K 60000 ff221), (a8, zI K 60000 ff223)] H := hP
  have hD : va_D A [(a0, zO 10 83 g0), (a1, zI K 210000 f1), (a2, zI K 60000 ff211), (a3, zI K 60000 ff213), (a4, zI K 60000 ff215), (a5, zI K 60000 ff217), (a6, zI K 60000 ff219), (a7, zI K 60000 ff221), (a8, zI K 60000 ff223)] := hD
  refine lv_iinc (v := 16) (lv' := [(1, .int 16), (3, .int 0), (2, .int 15), (0, .ref a0)]) hx hb dX12_movesCells_176 hl (k := 2) rfl (by decide +kernel) (by decide) rfl (fun ls hl => ?_)
  refine lv_goto (tgt := 2) hx hb dX12_movesCells_179 (by decide) ?_
  refine lv_iload_n hx hb dX12_movesCells_2 rfl (lv_at hl 0 rfl) ?_
  refine lv_aload_n hx hb dX12_movesCells_3 rfl (lv_at hl 3 rfl) ?_
  refine z_get (v := .int 16) hx hb hg hown hK hP i_X12 rfl 0 rfl 32 (by decide) mt1312 e0 dX12_movesCells_4 ?_
  refine lv_icmp_ge (tgt := 182) hx hb dX12_movesCells_7 (by decide) (fun _ => ?_) (fun c => absurd (by decide) c)
  subst y224
  subst y222
  subst y220
  subst y218
  subst y216
  subst y214
  subst y212
  subst y210
  subst y208
  subst y206
  subst y204
  subst y202
  subst y200
  subst y198
  subst y196
  subst y194
  subst y192
  subst y190
  subst y188
  subst y186
  subst y184
  subst y182
  subst y180
  subst y178
  subst y176
  subst y174
  subst y172
  subst y170
  subst y168
  subst y166
  subst y164
  subst y162
  subst y160
  subst y158
  subst y156
  subst y154
  subst y152
  subst y150
  subst y148
  subst y146
  subst y144
  subst y142
  subst y140
  subst y138
  subst y136
  subst y134
  subst y132
  subst y130
  subst y128
  subst y126
  subst y124
  subst y122
  subst y120
  subst y118
  subst y116
  subst y114
  subst y112
  subst y110
  subst y108
  subst y106
  subst y104
  subst y102
  subst y100
  subst y98
  subst y96
  subst y94
  subst y92
  subst y90
  subst y88
  subst y86
  subst y84
  subst y82
  subst y80
  subst y78
  subst y76
  subst y74
  subst y72
  subst y70
  subst y68
  subst y66
  subst y64
  subst y62
  subst y60
  subst y58
  subst y56
  subst y54
  subst y52
  subst y50
  subst y48
  subst y46
  subst y44
  subst y42
  subst y40
  subst y38
  subst y36
  subst y34
  subst y32
  subst y30
  subst y28
  subst y26
  subst y24
  subst y22
  subst y20
  subst y18
  subst y16
  subst y14
  subst y12
  subst y10
  subst y8
  subst y6
  subst y4
  subst y2
  have hP9 : va_P K.1 classes [(a0, zO 10 83 g0), (a1, zI K 210000 f1), (a2, zI K 60000 (va_up (va_up (va_up (va_up (va_up (va_up (va_up (va_up (va_up (va_up (va_up (va_up (va_up (va_up (va_up (va_up f2 0 0) 1 0) 2 0) 3 0) 4 0) 5 0) 6 0) 7 0) 8 0) 9 0) 10 0) 11 0) 12 0) 13 0) 14 0) 15 0)), (a3, zI K 60000 (va_up (va_up (va_up (va_up (va_up (va_up (va_up (va_up (va_up (va_up (va_up (va_up (va_up (va_up (va_up (va_up f3 0 0) 1 0) 2 0) 3 0) 4 0) 5 0) 6 0) 7 0) 8 0) 9 0) 10 0) 11 0) 12 0) 13 0) 14 0) 15 0)), (a4, zI K 60000 (va_up (va_up (va_up (va_up (va_up (va_up (va_up (va_up (va_up (va_up (va_up (va_up (va_up (va_up (va_up (va_up f4 0 0) 1 0) 2 0) 3 0) 4 0) 5 0) 6 0) 7 0) 8 0) 9 0) 10 0) 11 0) 12 0) 13 0) 14 0) 15 0)), (a5, zI K 60000 (va_up (va_up (va_up (va_up (va_up (va_up (va_up (va_up (va_up (va_up (va_up (va_up (va_up (va_up (va_up (va_up f5 0 0) 1 0) 2 0) 3 0) 4 0) 5 0) 6 0) 7 0) 8 0) 9 0) 10 0) 11 0) 12 0) 13 0) 14 0) 15 0)), (a6, zI K 60000 (va_up (va_up (va_up (va_up (va_up (va_up (va_up (va_up (va_up (va_up (va_up (va_up (va_up (va_up (va_up (va_up f6 0 0) 1 0) 2 0) 3 0) 4 0) 5 0) 6 0) 7 0) 8 0) 9 0) 10 0) 11 0) 12 0) 13 0) 14 0) 15 0)), (a7, zI K 60000 (va_up (va_up (va_up (va_up (va_up (va_up (va_up (va_up (va_up (va_up (va_up (va_up (va_up (va_up (va_up (va_up f7 0 (-1)) 1 (-1)) 2 (-1)) 3 (-1)) 4 (-1)) 5 (-1)) 6 (-1)) 7 (-1)) 8 (-1)) 9 (-1)) 10 (-1)) 11 (-1)) 12 (-1)) 13 (-1)) 14 (-1)) 15 (-1))), (a8, zI K 60000 (va_up (va_up (va_up (va_up (va_up (va_up (va_up (va_up (va_up (va_up (va_up (va_up (va_up (va_up (va_up (va_up f8 0 0) 1 0) 2 0) 3 0) 4 0) 5 0) 6 0) 7 0) 8 0) 9 0) 10 0) 11 0) 12 0) 13 0) 14 0) 15 0))] H := hP.sub [0, 1, 2, 3, 4, 5, 6, 7, 8] rfl
  have hD9 : va_D A [(a0, zO 10 83 g0), (a1, zI K 210000 f1), (a2, zI K 60000 (va_up (va_up (va_up (va_up (va_up (va_up (va_up (va_up (va_up (va_up (va_up (va_up (va_up (va_up (va_up (va_up f2 0 0) 1 0) 2 0) 3 0) 4 0) 5 0) 6 0) 7 0) 8 0) 9 0) 10 0) 11 0) 12 0) 13 0) 14 0) 15 0)), (a3, zI K 60000 (va_up (va_up (va_up (va_up (va_up (va_up (va_up (va_up (va_up (va_up (va_up (va_up (va_up (va_up (va_up (va_up f3 0 0) 1 0) 2 0) 3 0) 4 0) 5 0) 6 0) 7 0) 8 0) 9 0) 10 0) 11 0) 12 0) 13 0) 14 0) 15 0)), (a4, zI K 60000 (va_up (va_up (va_up (va_up (va_up (va_up (va_up (va_up (va_up (va_up (va_up (va_up (va_up (va_up (va_up (va_up f4 0 0) 1 0) 2 0) 3 0) 4 0) 5 0) 6 0) 7 0) 8 0) 9 0) 10 0) 11 0) 12 0) 13 0) 14 0) 15 0)), (a5, zI K 60000 (va_up (va_up (va_up (va_up (va_up (va_up (va_up (va_up (va_up (va_up (va_up (va_up (va_up (va_up (va_up (va_up f5 0 0) 1 0) 2 0) 3 0) 4 0) 5 0) 6 0) 7 0) 8 0) 9 0) 10 0) 11 0) 12 0) 13 0) 14 0) 15 0)), (a6, zI K 60000 (va_up (va_up (va_up (va_up (va_up (va_up (va_up (va_up (va_up (va_up (va_up (va_up (va_up (va_up (va_up (va_up f6 0 0) 1 0) 2 0) 3 0) 4 0) 5 0) 6 0) 7 0) 8 0) 9 0) 10 0) 11 0) 12 0) 13 0) 14 0) 15 0)), (a7, zI K 60000 (va_up (va_up (va_up (va_up (va_up (va_up (va_up (va_up (va_up (va_up (va_up (va_up (va_up (va_up (va_up (va_up f7 0 (-1)) 1 (-1)) 2 (-1)) 3 (-1)) 4 (-1)) 5 (-1)) 6 (-1)) 7 (-1)) 8 (-1)) 9 (-1)) 10 (-1)) 11 (-1)) 12 (-1)) 13 (-1)) 14 (-1)) 15 (-1))), (a8, zI K 60000 (va_up (va_up (va_up (va_up (va_up (va_up (va_up (va_up (va_up (va_up (va_up (va_up (va_up (va_up (va_up (va_up f8 0 0) 1 0) 2 0) 3 0) 4 0) 5 0) 6 0) 7 0) 8 0) 9 0) 10 0) 11 0) 12 0) 13 0) 14 0) 15 0))] := hD.sub [0, 1, 2, 3, 4, 5, 6, 7, 8] (by decide) rfl
  exact z_vret hx hb hr (fun _ => 0) trivial hP9 hD9 hS (Nat.le_of_ble_eq_true rfl) (Nat.le_of_ble_eq_true rfl) hlocks dX12_movesCells_182
set_option maxHeartbeats 4000000 in
set_option maxRecDepth 100000 in
theorem cX12_movesArounds_1 (l : Launch) (K : zK) (sz : Nat) (a0 : Nat) (g0 : Nat → Value) (e0 : g0 40 = (.int 0)) : Met l yX12_movesArounds (Cond.code yX12_movesArounds cX12_movesArounds 3 none :: WG) { frames := 0, cells := 0, slots := 0, locals := 0 } (zPre K [(a0, zO 10 83 g0)] sz [.ref a0]) (va_Qv (fun _ : Nat → Nat => True) (zB K (va_A [(a0, zO 10 83 g0)] sz) (fun u : Nat → Nat => [(a0, zO 10 83 g0)])) (va_A [(a0, zO 10 83 g0)] sz)) 0 0 (va_A [(a0, zO 10 83 g0)] sz) := by
  refine z_met (Qc := fun A => (va_Qv (fun _ : Nat → Nat => True) (zB K A (fun u : Nat → Nat => [(a0, zO 10 83 g0)])) A)) (by decide +kernel) (Nat.le_of_ble_eq_true rfl) ?_
  intro p e s m args below meth c A ls H hx hb hr hg hown hlocks hml hin hK hP hD hA hS hZ hl
  have hown : s.vm.findClass RX12 = some m.cls := hown
  have hl : lv_has ls 3 [(0, .ref a0)] := hl
  refine lv_iconst (v := 0) hx hb dX12_movesArounds_0 (by decide) ?_
  refine lv_istore_n (lv' := [(1, .int 0), (0, .ref a0)]) hx hb dX12_movesArounds_1 rfl hl (by decide) rfl (fun ls hl => ?_)
  refine lv_iload_n hx hb dX12_movesArounds_2 rfl (lv_at hl 0 rfl) ?_
  refine lv_aload_n hx hb dX12_movesArounds_3 rfl (lv_at hl 1 rfl) ?_
  refine z_get (v := .int 0) hx hb hg hown hK hP i_X12 rfl 0 rfl 40 (by decide) mt1320 e0 dX12_movesArounds_4 ?_
  refine lv_icmp_ge (tgt := 115) hx hb dX12_movesArounds_7 (by decide) (fun _ => ?_) (fun c => absurd (by decide) c)
  have hP9 : va_P K.1 classes [(a0, zO 10 83 g0)] H := hP.sub [0] rfl
  have hD9 : va_D A [(a0, zO 10 83 g0)] := hD.sub [0] (by decide) rfl
  exact z_vret hx hb hr (fun _ => 0) trivial hP9 hD9 hS (Nat.le_of_ble_eq_true rfl) (Nat.le_of_ble_eq_true rfl) hlocks dX12_movesArounds_115
set_option maxHeartbeats 4000000 in
set_option maxRecDepth 100000 in
theorem cX12_movesDatas_1 (l : Launch) (K : zK) (sz : Nat) (a0 : Nat) (g0 : Nat → Value) (e0 : g0 46 = (.int 0)) : Met l yX12_movesDatas (Cond.code yX12_movesDatas cX12_movesDatas 5 none :: WG) { frames := 0, cells := 0, slots := 0, locals := 0 } (zPre K [(a0, zO 10 83 g0)] sz [.ref a0]) (va_Qv (fun _ : Nat → Nat => True) (zB K (va_A [(a0, zO 10 83 g0)] sz) (fun u : Nat → Nat => [(a0, zO 10 83 g0)])) (va_A [(a0, zO 10 83 g0)] sz)) 0 0 (va_A [(a0, zO 10 83 g0)] sz) := by
  refine z_met (Qc := fun A => (va_Qv (fun _ : Nat → Nat => True) (zB K A (fun u : Nat → Nat => [(a0, zO 10 83 g0)])) A)) (by decide +kernel) (Nat.le_of_ble_eq_true rfl) ?_
  intro p e s m args below meth c A ls H hx hb hr hg hown hlocks hml hin hK hP hD hA hS hZ hl
  have hown : s.vm.findClass RX12 = some m.cls := hown
  have hl : lv_has ls 5 [(0, .ref a0)] := hl
  refine lv_iconst (v := 0) hx hb dX12_movesDatas_0 (by decide) ?_
  refine lv_istore_n (lv' := [(1, .int 0), (0, .ref a0)]) hx hb dX12_movesDatas_1 rfl hl (by decide) rfl (fun ls hl => ?_)
  refine lv_iload_n hx hb dX12_movesDatas_2 rfl (lv_at hl 0 rfl) ?_
  refine lv_aload_n hx hb dX12_movesDatas_3 rfl (lv_at hl 1 rfl) ?_
  refine z_get (v := .int 0) hx hb hg hown hK hP i_X12 rfl 0 rfl 46 (by decide) mt1326 e0 dX12_movesDatas_4 ?_
  refine lv_icmp_ge (tgt := 154) hx hb dX12_movesDatas_7 (by decide) (fun _ => ?_) (fun c => absurd (by decide) c)
  have hP9 : va_P K.1 classes [(a0, zO 10 83 g0)] H := hP.sub [0] rfl
  have hD9 : va_D A [(a0, zO 10 83 g0)] := hD.sub [0] (by decide) rfl
  exact z_vret hx hb hr (fun _ => 0) trivial hP9 hD9 hS (Nat.le_of_ble_eq_true rfl) (Nat.le_of_ble_eq_true rfl) hlocks dX12_movesDatas_154
