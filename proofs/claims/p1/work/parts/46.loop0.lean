/-! calls of the law's cases [17, 23] (printed by wip/p1/walk.py) -/
set_option maxHeartbeats 4000000 in
set_option maxRecDepth 100000 in
theorem cJ7_fill_53178_2 (l : Launch) (K : zK) (sz : Nat) (a0 : Nat) (f0 : Nat → Int32) : Met l yJ7_fill_53178 (Cond.code yJ7_fill_53178 cJ7_fill_53178 4 none :: WG) { frames := 0, cells := 0, slots := 0, locals := 0 } (zPre K [(a0, zI K 8 f0)] sz [.ref a0, .int 0]) (va_Qv (fun _ : Nat → Nat => True) (zB K (va_A [(a0, zI K 8 f0)] sz) (fun u : Nat → Nat => [(a0, zI K 8 (va_up (va_up (va_up (va_up (va_up (va_up (va_up (va_up f0 0 0) 1 0) 2 0) 3 0) 4 0) 5 0) 6 0) 7 0))])) (va_A [(a0, zI K 8 f0)] sz)) 0 0 (va_A [(a0, zI K 8 f0)] sz) := by
  refine z_met (Qc := fun A => (va_Qv (fun _ : Nat → Nat => True) (zB K A (fun u : Nat → Nat => [(a0, zI K 8 (va_up (va_up (va_up (va_up (va_up (va_up (va_up (va_up f0 0 0) 1 0) 2 0) 3 0) 4 0) 5 0) 6 0) 7 0))])) A)) (by decide +kernel) (Nat.le_of_ble_eq_true rfl) ?_
  intro p e s m args below meth c A ls H hx hb hr hg hown hlocks hml hin hK hP hD hA hS hZ hl
  have hown : s.vm.findClass "java/util/Arrays" = some m.cls := hown
  have hl : lv_has ls 4 [(0, .ref a0), (1, .int 0)] := hl
  refine lv_iconst (v := 0) hx hb dJ7_fill_53178_0 (by decide) ?_
  refine lv_istore_n (lv' := [(2, .int 0), (0, .ref a0), (1, .int 0)]) hx hb dJ7_fill_53178_1 rfl hl (by decide) rfl (fun ls hl => ?_)
  refine lv_aload_n hx hb dJ7_fill_53178_2 rfl (lv_at hl 1 rfl) ?_
  refine z_leni (v := 8) hx hb hK hP 0 rfl (by decide +kernel) dJ7_fill_53178_3 ?_
  refine lv_istore_n (lv' := [(3, .int 8), (2, .int 0), (0, .ref a0), (1, .int 0)]) hx hb dJ7_fill_53178_4 rfl hl (by decide) rfl (fun ls hl => ?_)
  refine lv_iload_n hx hb dJ7_fill_53178_5 rfl (lv_at hl 1 rfl) ?_
  refine lv_iload_n hx hb dJ7_fill_53178_6 rfl (lv_at hl 0 rfl) ?_
  refine lv_icmp_ge (tgt := 20) hx hb dJ7_fill_53178_7 (by decide) (fun c => absurd c (by decide)) (fun _ => ?_)
  refine lv_aload_n hx hb dJ7_fill_53178_10 rfl (lv_at hl 2 rfl) ?_
  refine lv_iload_n hx hb dJ7_fill_53178_11 rfl (lv_at hl 1 rfl) ?_
  refine lv_iload_n hx hb dJ7_fill_53178_12 rfl (lv_at hl 3 rfl) ?_
  refine z_iast (j := 0) hx hb hK hP hD hS 0 rfl rfl (Nat.le_of_ble_eq_true rfl) (Nat.le_of_ble_eq_true rfl) dJ7_fill_53178_13 (fun ff1 H locs y2 hP hD hS => ?_)
  have hP : va_P K.1 classes [(a0, zI K 8 ff1)] H := hP
  have hD : va_D A [(a0, zI K 8 ff1)] := hD
  refine lv_iinc (v := 1) (lv' := [(2, .int 1), (3, .int 8), (0, .ref a0), (1, .int 0)]) hx hb dJ7_fill_53178_14 hl (k := 1) rfl (by decide +kernel) (by decide) rfl (fun ls hl => ?_)
  refine lv_goto (tgt := 5) hx hb dJ7_fill_53178_17 (by decide) ?_
  refine lv_iload_n hx hb dJ7_fill_53178_5 rfl (lv_at hl 0 rfl) ?_
  refine lv_iload_n hx hb dJ7_fill_53178_6 rfl (lv_at hl 1 rfl) ?_
  refine lv_icmp_ge (tgt := 20) hx hb dJ7_fill_53178_7 (by decide) (fun c => absurd c (by decide)) (fun _ => ?_)
  refine lv_aload_n hx hb dJ7_fill_53178_10 rfl (lv_at hl 2 rfl) ?_
  refine lv_iload_n hx hb dJ7_fill_53178_11 rfl (lv_at hl 0 rfl) ?_
  refine lv_iload_n hx hb dJ7_fill_53178_12 rfl (lv_at hl 3 rfl) ?_
  refine z_iast (j := 1) hx hb hK hP hD hS 0 rfl rfl (Nat.le_of_ble_eq_true rfl) (Nat.le_of_ble_eq_true rfl) dJ7_fill_53178_13 (fun ff3 H locs y4 hP hD hS => ?_)
  have hP : va_P K.1 classes [(a0, zI K 8 ff3)] H := hP
  have hD : va_D A [(a0, zI K 8 ff3)] := hD
  refine lv_iinc (v := 2) (lv' := [(2, .int 2), (3, .int 8), (0, .ref a0), (1, .int 0)]) hx hb dJ7_fill_53178_14 hl (k := 0) rfl (by decide +kernel) (by decide) rfl (fun ls hl => ?_)
  refine lv_goto (tgt := 5) hx hb dJ7_fill_53178_17 (by decide) ?_
  refine lv_iload_n hx hb dJ7_fill_53178_5 rfl (lv_at hl 0 rfl) ?_
  refine lv_iload_n hx hb dJ7_fill_53178_6 rfl (lv_at hl 1 rfl) ?_
  refine lv_icmp_ge (tgt := 20) hx hb dJ7_fill_53178_7 (by decide) (fun c => absurd c (by decide)) (fun _ => ?_)
  refine lv_aload_n hx hb dJ7_fill_53178_10 rfl (lv_at hl 2 rfl) ?_
  refine lv_iload_n hx hb dJ7_fill_53178_11 rfl (lv_at hl 0 rfl) ?_
  refine lv_iload_n hx hb dJ7_fill_53178_12 rfl (lv_at hl 3 rfl) ?_
  refine z_iast (j := 2) hx hb hK hP hD hS 0 rfl rfl (Nat.le_of_ble_eq_true rfl) (Nat.le_of_ble_eq_true rfl) dJ7_fill_53178_13 (fun ff5 H locs y6 hP hD hS => ?_)
  have hP : va_P K.1 classes [(a0, zI K 8 ff5)] H := hP
  have hD : va_D A [(a0, zI K 8 ff5)] := hD
  refine lv_iinc (v := 3) (lv' := [(2, .int 3), (3, .int 8), (0, .ref a0), (1, .int 0)]) hx hb dJ7_fill_53178_14 hl (k := 0) rfl (by decide +kernel) (by decide) rfl (fun ls hl => ?_)
  refine lv_goto (tgt := 5) hx hb dJ7_fill_53178_17 (by decide) ?_
  refine lv_iload_n hx hb dJ7_fill_53178_5 rfl (lv_at hl 0 rfl) ?_
  refine lv_iload_n hx hb dJ7_fill_53178_6 rfl (lv_at hl 1 rfl) ?_
  refine lv_icmp_ge (tgt := 20) hx hb dJ7_fill_53178_7 (by decide) (fun c => absurd c (by decide)) (fun _ => ?_)
  refine lv_aload_n hx hb dJ7_fill_53178_10 rfl (lv_at hl 2 rfl) ?_
  refine lv_iload_n hx hb dJ7_fill_53178_11 rfl (lv_at hl 0 rfl) ?_
  refine lv_iload_n hx hb dJ7_fill_53178_12 rfl (lv_at hl 3 rfl) ?_
  refine z_iast (j := 3) hx hb hK hP hD hS 0 rfl rfl (Nat.le_of_ble_eq_true rfl) (Nat.le_of_ble_eq_true rfl) dJ7_fill_53178_13 (fun ff7 H locs y8 hP hD hS => ?_)
  have hP : va_P K.1 classes [(a0, zI K 8 ff7)] H := hP
  have hD : va_D A [(a0, zI K 8 ff7)] := hD
  refine lv_iinc (v := 4) (lv' := [(2, .int 4), (3, .int 8), (0, .ref a0), (1, .int 0)]) hx hb dJ7_fill_53178_14 hl (k := 0) rfl (by decide +kernel) (by decide) rfl (fun ls hl => ?_)
  refine lv_goto (tgt := 5) hx hb dJ7_fill_53178_17 (by decide) ?_
  refine lv_iload_n hx hb dJ7_fill_53178_5 rfl (lv_at hl 0 rfl) ?_
  refine lv_iload_n hx hb dJ7_fill_53178_6 rfl (lv_at hl 1 rfl) ?_
  refine lv_icmp_ge (tgt := 20) hx hb dJ7_fill_53178_7 (by decide) (fun c => absurd c (by decide)) (fun _ => ?_)
  refine lv_aload_n hx hb dJ7_fill_53178_10 rfl (lv_at hl 2 rfl) ?_
  refine lv_iload_n hx hb dJ7_fill_53178_11 rfl (lv_at hl 0 rfl) ?_
  refine lv_iload_n hx hb dJ7_fill_53178_12 rfl (lv_at hl 3 rfl) ?_
  refine z_iast (j := 4) hx hb hK hP hD hS 0 rfl rfl (Nat.le_of_ble_eq_true rfl) (Nat.le_of_ble_eq_true rfl) dJ7_fill_53178_13 (fun ff9 H locs y10 hP hD hS => ?_)
  have hP : va_P K.1 classes [(a0, zI K 8 ff9)] H := hP
  have hD : va_D A [(a0, zI K 8 ff9)] := hD
  refine lv_iinc (v := 5) (lv' := [(2, .int 5), (3, .int 8), (0, .ref a0), (1, .int 0)]) hx hb dJ7_fill_53178_14 hl (k := 0) rfl (by decide +kernel) (by decide) rfl (fun ls hl => ?_)
  refine lv_goto (tgt := 5) hx hb dJ7_fill_53178_17 (by decide) ?_
  refine lv_iload_n hx hb dJ7_fill_53178_5 rfl (lv_at hl 0 rfl) ?_
  refine lv_iload_n hx hb dJ7_fill_53178_6 rfl (lv_at hl 1 rfl) ?_
  refine lv_icmp_ge (tgt := 20) hx hb dJ7_fill_53178_7 (by decide) (fun c => absurd c (by decide)) (fun _ => ?_)
  refine lv_aload_n hx hb dJ7_fill_53178_10 rfl (lv_at hl 2 rfl) ?_
  refine lv_iload_n hx hb dJ7_fill_53178_11 rfl (lv_at hl 0 rfl) ?_
  refine lv_iload_n hx hb dJ7_fill_53178_12 rfl (lv_at hl 3 rfl) ?_
  refine z_iast (j := 5) hx hb hK hP hD hS 0 rfl rfl (Nat.le_of_ble_eq_true rfl) (Nat.le_of_ble_eq_true rfl) dJ7_fill_53178_13 (fun ff11 H locs y12 hP hD hS => ?_)
  have hP : va_P K.1 classes [(a0, zI K 8 ff11)] H := hP
  have hD : va_D A [(a0, zI K 8 ff11)] := hD
  refine lv_iinc (v := 6) (lv' := [(2, .int 6), (3, .int 8), (0, .ref a0), (1, .int 0)]) hx hb dJ7_fill_53178_14 hl (k := 0) rfl (by decide +kernel) (by decide) rfl (fun ls hl => ?_)
  refine lv_goto (tgt := 5) hx hb dJ7_fill_53178_17 (by decide) ?_
  refine lv_iload_n hx hb dJ7_fill_53178_5 rfl (lv_at hl 0 rfl) ?_
  refine lv_iload_n hx hb dJ7_fill_53178_6 rfl (lv_at hl 1 rfl) ?_
  refine lv_icmp_ge (tgt := 20) hx hb dJ7_fill_53178_7 (by decide) (fun c => absurd c (by decide)) (fun _ => ?_)
  refine lv_aload_n hx hb dJ7_fill_53178_10 rfl (lv_at hl 2 rfl) ?_
  refine lv_iload_n hx hb dJ7_fill_53178_11 rfl (lv_at hl 0 rfl) ?_
  refine lv_iload_n hx hb dJ7_fill_53178_12 rfl (lv_at hl 3 rfl) ?_
  refine z_iast (j := 6) hx hb hK hP hD hS 0 rfl rfl (Nat.le_of_ble_eq_true rfl) (Nat.le_of_ble_eq_true rfl) dJ7_fill_53178_13 (fun ff13 H locs y14 hP hD hS => ?_)
  have hP : va_P K.1 classes [(a0, zI K 8 ff13)] H := hP
  have hD : va_D A [(a0, zI K 8 ff13)] := hD
  refine lv_iinc (v := 7) (lv' := [(2, .int 7), (3, .int 8), (0, .ref a0), (1, .int 0)]) hx hb dJ7_fill_53178_14 hl (k := 0) rfl (by decide +kernel) (by decide) rfl (fun ls hl => ?_)
  refine lv_goto (tgt := 5) hx hb dJ7_fill_53178_17 (by decide) ?_
  refine lv_iload_n hx hb dJ7_fill_53178_5 rfl (lv_at hl 0 rfl) ?_
  refine lv_iload_n hx hb dJ7_fill_53178_6 rfl (lv_at hl 1 rfl) ?_
  refine lv_icmp_ge (tgt := 20) hx hb dJ7_fill_53178_7 (by decide) (fun c => absurd c (by decide)) (fun _ => ?_)
  refine lv_aload_n hx hb dJ7_fill_53178_10 rfl (lv_at hl 2 rfl) ?_
  refine lv_iload_n hx hb dJ7_fill_53178_11 rfl (lv_at hl 0 rfl) ?_
  refine lv_iload_n hx hb dJ7_fill_53178_12 rfl (lv_at hl 3 rfl) ?_
  refine z_iast (j := 7) hx hb hK hP hD hS 0 rfl rfl (Nat.le_of_ble_eq_true rfl) (Nat.le_of_ble_eq_true rfl) dJ7_fill_53178_13 (fun ff15 H locs y16 hP hD hS => ?_)
  have hP : va_P K.1 classes [(a0, zI K 8 ff15)] H := hP
  have hD : va_D A [(a0, zI K 8 ff15)] := hD
  refine lv_iinc (v := 8) (lv' := [(2, .int 8), (3, .int 8), (0, .ref a0), (1, .int 0)]) hx hb dJ7_fill_53178_14 hl (k := 0) rfl (by decide +kernel) (by decide) rfl (fun ls hl => ?_)
  refine lv_goto (tgt := 5) hx hb dJ7_fill_53178_17 (by decide) ?_
  refine lv_iload_n hx hb dJ7_fill_53178_5 rfl (lv_at hl 0 rfl) ?_
  refine lv_iload_n hx hb dJ7_fill_53178_6 rfl (lv_at hl 1 rfl) ?_
  refine lv_icmp_ge (tgt := 20) hx hb dJ7_fill_53178_7 (by decide) (fun _ => ?_) (fun c => absurd (by decide) c)
  subst y16
  subst y14
  subst y12
  subst y10
  subst y8
  subst y6
  subst y4
  subst y2
  have hP9 : va_P K.1 classes [(a0, zI K 8 (va_up (va_up (va_up (va_up (va_up (va_up (va_up (va_up f0 0 0) 1 0) 2 0) 3 0) 4 0) 5 0) 6 0) 7 0))] H := hP.sub [0] rfl
  have hD9 : va_D A [(a0, zI K 8 (va_up (va_up (va_up (va_up (va_up (va_up (va_up (va_up f0 0 0) 1 0) 2 0) 3 0) 4 0) 5 0) 6 0) 7 0))] := hD.sub [0] (by decide) rfl
  exact z_vret hx hb hr (fun _ => 0) trivial hP9 hD9 hS (Nat.le_of_ble_eq_true rfl) (Nat.le_of_ble_eq_true rfl) hlocks dJ7_fill_53178_20
set_option maxHeartbeats 4000000 in
set_option maxRecDepth 100000 in
theorem cJ7_fill_d0a16_1 (l : Launch) (K : zK) (sz : Nat) (a0 : Nat) (f0 : Nat → Int64) : Met l yJ7_fill_d0a16 (Cond.code yJ7_fill_d0a16 cJ7_fill_d0a16 5 none :: WG) { frames := 0, cells := 0, slots := 0, locals := 0 } (zPre K [(a0, zJ K 8 f0)] sz [.ref a0, .long 0]) (va_Qv (fun _ : Nat → Nat => True) (zB K (va_A [(a0, zJ K 8 f0)] sz) (fun u : Nat → Nat => [(a0, zJ K 8 (va_up (va_up (va_up (va_up (va_up (va_up (va_up (va_up f0 0 0) 1 0) 2 0) 3 0) 4 0) 5 0) 6 0) 7 0))])) (va_A [(a0, zJ K 8 f0)] sz)) 0 0 (va_A [(a0, zJ K 8 f0)] sz) := by
  refine z_met (Qc := fun A => (va_Qv (fun _ : Nat → Nat => True) (zB K A (fun u : Nat → Nat => [(a0, zJ K 8 (va_up (va_up (va_up (va_up (va_up (va_up (va_up (va_up f0 0 0) 1 0) 2 0) 3 0) 4 0) 5 0) 6 0) 7 0))])) A)) (by decide +kernel) (Nat.le_of_ble_eq_true rfl) ?_
  intro p e s m args below meth c A ls H hx hb hr hg hown hlocks hml hin hK hP hD hA hS hZ hl
  have hown : s.vm.findClass "java/util/Arrays" = some m.cls := hown
  have hl : lv_has ls 5 [(0, .ref a0), (1, .long 0)] := hl
  refine lv_iconst (v := 0) hx hb dJ7_fill_d0a16_0 (by decide) ?_
  refine lv_istore_n (lv' := [(3, .int 0), (0, .ref a0), (1, .long 0)]) hx hb dJ7_fill_d0a16_1 rfl hl (by decide) rfl (fun ls hl => ?_)
  refine lv_aload_n hx hb dJ7_fill_d0a16_2 rfl (lv_at hl 1 rfl) ?_
  refine z_lenj (v := 8) hx hb hK hP 0 rfl (by decide +kernel) dJ7_fill_d0a16_3 ?_
  refine lv_istore (lv' := [(4, .int 8), (3, .int 0), (0, .ref a0), (1, .long 0)]) hx hb dJ7_fill_d0a16_4 hl (by decide) rfl (fun ls hl => ?_)
  refine lv_iload_n hx hb dJ7_fill_d0a16_6 rfl (lv_at hl 1 rfl) ?_
  refine lv_iload hx hb dJ7_fill_d0a16_7 (lv_at hl 0 rfl) ?_
  refine lv_icmp_ge (tgt := 22) hx hb dJ7_fill_d0a16_9 (by decide) (fun c => absurd c (by decide)) (fun _ => ?_)
  refine lv_aload_n hx hb dJ7_fill_d0a16_12 rfl (lv_at hl 2 rfl) ?_
  refine lv_iload_n hx hb dJ7_fill_d0a16_13 rfl (lv_at hl 1 rfl) ?_
  refine lv_lload_n hx hb dJ7_fill_d0a16_14 rfl (lv_at hl 3 rfl) ?_
  refine z_last (j := 0) hx hb hK hP hD hS 0 rfl rfl (Nat.le_of_ble_eq_true rfl) (Nat.le_of_ble_eq_true rfl) dJ7_fill_d0a16_15 (fun ff1 H locs y2 hP hD hS => ?_)
  have hP : va_P K.1 classes [(a0, zJ K 8 ff1)] H := hP
  have hD : va_D A [(a0, zJ K 8 ff1)] := hD
  refine lv_iinc (v := 1) (lv' := [(3, .int 1), (4, .int 8), (0, .ref a0), (1, .long 0)]) hx hb dJ7_fill_d0a16_16 hl (k := 1) rfl (by decide +kernel) (by decide) rfl (fun ls hl => ?_)
  refine lv_goto (tgt := 6) hx hb dJ7_fill_d0a16_19 (by decide) ?_
  refine lv_iload_n hx hb dJ7_fill_d0a16_6 rfl (lv_at hl 0 rfl) ?_
  refine lv_iload hx hb dJ7_fill_d0a16_7 (lv_at hl 1 rfl) ?_
  refine lv_icmp_ge (tgt := 22) hx hb dJ7_fill_d0a16_9 (by decide) (fun c => absurd c (by decide)) (fun _ => ?_)
  refine lv_aload_n hx hb dJ7_fill_d0a16_12 rfl (lv_at hl 2 rfl) ?_
  refine lv_iload_n hx hb dJ7_fill_d0a16_13 rfl (lv_at hl 0 rfl) ?_
  refine lv_lload_n hx hb dJ7_fill_d0a16_14 rfl (lv_at hl 3 rfl) ?_
  refine z_last (j := 1) hx hb hK hP hD hS 0 rfl rfl (Nat.le_of_ble_eq_true rfl) (Nat.le_of_ble_eq_true rfl) dJ7_fill_d0a16_15 (fun ff3 H locs y4 hP hD hS => ?_)
  have hP : va_P K.1 classes [(a0, zJ K 8 ff3)] H := hP
  have hD : va_D A [(a0, zJ K 8 ff3)] := hD
  refine lv_iinc (v := 2) (lv' := [(3, .int 2), (4, .int 8), (0, .ref a0), (1, .long 0)]) hx hb dJ7_fill_d0a16_16 hl (k := 0) rfl (by decide +kernel) (by decide) rfl (fun ls hl => ?_)
  refine lv_goto (tgt := 6) hx hb dJ7_fill_d0a16_19 (by decide) ?_
  refine lv_iload_n hx hb dJ7_fill_d0a16_6 rfl (lv_at hl 0 rfl) ?_
  refine lv_iload hx hb dJ7_fill_d0a16_7 (lv_at hl 1 rfl) ?_
  refine lv_icmp_ge (tgt := 22) hx hb dJ7_fill_d0a16_9 (by decide) (fun c => absurd c (by decide)) (fun _ => ?_)
  refine lv_aload_n hx hb dJ7_fill_d0a16_12 rfl (lv_at hl 2 rfl) ?_
  refine lv_iload_n hx hb dJ7_fill_d0a16_13 rfl (lv_at hl 0 rfl) ?_
  refine lv_lload_n hx hb dJ7_fill_d0a16_14 rfl (lv_at hl 3 rfl) ?_
  refine z_last (j := 2) hx hb hK hP hD hS 0 rfl rfl (Nat.le_of_ble_eq_true rfl) (Nat.le_of_ble_eq_true rfl) dJ7_fill_d0a16_15 (fun ff5 H locs y6 hP hD hS => ?_)
  have hP : va_P K.1 classes [(a0, zJ K 8 ff5)] H := hP
  have hD : va_D A [(a0, zJ K 8 ff5)] := hD
  refine lv_iinc (v := 3) (lv' := [(3, .int 3), (4, .int 8), (0, .ref a0), (1, .long 0)]) hx hb dJ7_fill_d0a16_16 hl (k := 0) rfl (by decide +kernel) (by decide) rfl (fun ls hl => ?_)
  refine lv_goto (tgt := 6) hx hb dJ7_fill_d0a16_19 (by decide) ?_
  refine lv_iload_n hx hb dJ7_fill_d0a16_6 rfl (lv_at hl 0 rfl) ?_
  refine lv_iload hx hb dJ7_fill_d0a16_7 (lv_at hl 1 rfl) ?_
  refine lv_icmp_ge (tgt := 22) hx hb dJ7_fill_d0a16_9 (by decide) (fun c => absurd c (by decide)) (fun _ => ?_)
  refine lv_aload_n hx hb dJ7_fill_d0a16_12 rfl (lv_at hl 2 rfl) ?_
  refine lv_iload_n hx hb dJ7_fill_d0a16_13 rfl (lv_at hl 0 rfl) ?_
  refine lv_lload_n hx hb dJ7_fill_d0a16_14 rfl (lv_at hl 3 rfl) ?_
  refine z_last (j := 3) hx hb hK hP hD hS 0 rfl rfl (Nat.le_of_ble_eq_true rfl) (Nat.le_of_ble_eq_true rfl) dJ7_fill_d0a16_15 (fun ff7 H locs y8 hP hD hS => ?_)
  have hP : va_P K.1 classes [(a0, zJ K 8 ff7)] H := hP
  have hD : va_D A [(a0, zJ K 8 ff7)] := hD
  refine lv_iinc (v := 4) (lv' := [(3, .int 4), (4, .int 8), (0, .ref a0), (1, .long 0)]) hx hb dJ7_fill_d0a16_16 hl (k := 0) rfl (by decide +kernel) (by decide) rfl (fun ls hl => ?_)
  refine lv_goto (tgt := 6) hx hb dJ7_fill_d0a16_19 (by decide) ?_
  refine lv_iload_n hx hb dJ7_fill_d0a16_6 rfl (lv_at hl 0 rfl) ?_
  refine lv_iload hx hb dJ7_fill_d0a16_7 (lv_at hl 1 rfl) ?_
  refine lv_icmp_ge (tgt := 22) hx hb dJ7_fill_d0a16_9 (by decide) (fun c => absurd c (by decide)) (fun _ => ?_)
  refine lv_aload_n hx hb dJ7_fill_d0a16_12 rfl (lv_at hl 2 rfl) ?_
  refine lv_iload_n hx hb dJ7_fill_d0a16_13 rfl (lv_at hl 0 rfl) ?_
  refine lv_lload_n hx hb dJ7_fill_d0a16_14 rfl (lv_at hl 3 rfl) ?_
  refine z_last (j := 4) hx hb hK hP hD hS 0 rfl rfl (Nat.le_of_ble_eq_true rfl) (Nat.le_of_ble_eq_true rfl) dJ7_fill_d0a16_15 (fun ff9 H locs y10 hP hD hS => ?_)
  have hP : va_P K.1 classes [(a0, zJ K 8 ff9)] H := hP
  have hD : va_D A [(a0, zJ K 8 ff9)] := hD
  refine lv_iinc (v := 5) (lv' := [(3, .int 5), (4, .int 8), (0, .ref a0), (1, .long 0)]) hx hb dJ7_fill_d0a16_16 hl (k := 0) rfl (by decide +kernel) (by decide) rfl (fun ls hl => ?_)
  refine lv_goto (tgt := 6) hx hb dJ7_fill_d0a16_19 (by decide) ?_
  refine lv_iload_n hx hb dJ7_fill_d0a16_6 rfl (lv_at hl 0 rfl) ?_
  refine lv_iload hx hb dJ7_fill_d0a16_7 (lv_at hl 1 rfl) ?_
  refine lv_icmp_ge (tgt := 22) hx hb dJ7_fill_d0a16_9 (by decide) (fun c => absurd c (by decide)) (fun _ => ?_)
  refine lv_aload_n hx hb dJ7_fill_d0a16_12 rfl (lv_at hl 2 rfl) ?_
  refine lv_iload_n hx hb dJ7_fill_d0a16_13 rfl (lv_at hl 0 rfl) ?_
  refine lv_lload_n hx hb dJ7_fill_d0a16_14 rfl (lv_at hl 3 rfl) ?_
  refine z_last (j := 5) hx hb hK hP hD hS 0 rfl rfl (Nat.le_of_ble_eq_true rfl) (Nat.le_of_ble_eq_true rfl) dJ7_fill_d0a16_15 (fun ff11 H locs y12 hP hD hS => ?_)
  have hP : va_P K.1 classes [(a0, zJ K 8 ff11)] H := hP
  have hD : va_D A [(a0, zJ K 8 ff11)] := hD
  refine lv_iinc (v := 6) (lv' := [(3, .int 6), (4, .int 8), (0, .ref a0), (1, .long 0)]) hx hb dJ7_fill_d0a16_16 hl (k := 0) rfl (by decide +kernel) (by decide) rfl (fun ls hl => ?_)
  refine lv_goto (tgt := 6) hx hb dJ7_fill_d0a16_19 (by decide) ?_
  refine lv_iload_n hx hb dJ7_fill_d0a16_6 rfl (lv_at hl 0 rfl) ?_
  refine lv_iload hx hb dJ7_fill_d0a16_7 (lv_at hl 1 rfl) ?_
  refine lv_icmp_ge (tgt := 22) hx hb dJ7_fill_d0a16_9 (by decide) (fun c => absurd c (by decide)) (fun _ => ?_)
  refine lv_aload_n hx hb dJ7_fill_d0a16_12 rfl (lv_at hl 2 rfl) ?_
  refine lv_iload_n hx hb dJ7_fill_d0a16_13 rfl (lv_at hl 0 rfl) ?_
  refine lv_lload_n hx hb dJ7_fill_d0a16_14 rfl (lv_at hl 3 rfl) ?_
  refine z_last (j := 6) hx hb hK hP hD hS 0 rfl rfl (Nat.le_of_ble_eq_true rfl) (Nat.le_of_ble_eq_true rfl) dJ7_fill_d0a16_15 (fun ff13 H locs y14 hP hD hS => ?_)
  have hP : va_P K.1 classes [(a0, zJ K 8 ff13)] H := hP
  have hD : va_D A [(a0, zJ K 8 ff13)] := hD
  refine lv_iinc (v := 7) (lv' := [(3, .int 7), (4, .int 8), (0, .ref a0), (1, .long 0)]) hx hb dJ7_fill_d0a16_16 hl (k := 0) rfl (by decide +kernel) (by decide) rfl (fun ls hl => ?_)
  refine lv_goto (tgt := 6) hx hb dJ7_fill_d0a16_19 (by decide) ?_
  refine lv_iload_n hx hb dJ7_fill_d0a16_6 rfl (lv_at hl 0 rfl) ?_
  refine lv_iload hx hb dJ7_fill_d0a16_7 (lv_at hl 1 rfl) ?_
  refine lv_icmp_ge (tgt := 22) hx hb dJ7_fill_d0a16_9 (by decide) (fun c => absurd c (by decide)) (fun _ => ?_)
  refine lv_aload_n hx hb dJ7_fill_d0a16_12 rfl (lv_at hl 2 rfl) ?_
  refine lv_iload_n hx hb dJ7_fill_d0a16_13 rfl (lv_at hl 0 rfl) ?_
  refine lv_lload_n hx hb dJ7_fill_d0a16_14 rfl (lv_at hl 3 rfl) ?_
  refine z_last (j := 7) hx hb hK hP hD hS 0 rfl rfl (Nat.le_of_ble_eq_true rfl) (Nat.le_of_ble_eq_true rfl) dJ7_fill_d0a16_15 (fun ff15 H locs y16 hP hD hS => ?_)
  have hP : va_P K.1 classes [(a0, zJ K 8 ff15)] H := hP
  have hD : va_D A [(a0, zJ K 8 ff15)] := hD
  refine lv_iinc (v := 8) (lv' := [(3, .int 8), (4, .int 8), (0, .ref a0), (1, .long 0)]) hx hb dJ7_fill_d0a16_16 hl (k := 0) rfl (by decide +kernel) (by decide) rfl (fun ls hl => ?_)
  refine lv_goto (tgt := 6) hx hb dJ7_fill_d0a16_19 (by decide) ?_
  refine lv_iload_n hx hb dJ7_fill_d0a16_6 rfl (lv_at hl 0 rfl) ?_
  refine lv_iload hx hb dJ7_fill_d0a16_7 (lv_at hl 1 rfl) ?_
  refine lv_icmp_ge (tgt := 22) hx hb dJ7_fill_d0a16_9 (by decide) (fun _ => ?_) (fun c => absurd (by decide) c)
  subst y16
  subst y14
  subst y12
  subst y10
  subst y8
  subst y6
  subst y4
  subst y2
  have hP9 : va_P K.1 classes [(a0, zJ K 8 (va_up (va_up (va_up (va_up (va_up (va_up (va_up (va_up f0 0 0) 1 0) 2 0) 3 0) 4 0) 5 0) 6 0) 7 0))] H := hP.sub [0] rfl
  have hD9 : va_D A [(a0, zJ K 8 (va_up (va_up (va_up (va_up (va_up (va_up (va_up (va_up f0 0 0) 1 0) 2 0) 3 0) 4 0) 5 0) 6 0) 7 0))] := hD.sub [0] (by decide) rfl
  exact z_vret hx hb hr (fun _ => 0) trivial hP9 hD9 hS (Nat.le_of_ble_eq_true rfl) (Nat.le_of_ble_eq_true rfl) hlocks dJ7_fill_d0a16_22
set_option maxHeartbeats 4000000 in
set_option maxRecDepth 100000 in
theorem cX5_forget_1 (l : Launch) (K : zK) (sz : Nat) (a0 : Nat) (a1 : Nat) (a2 : Nat) (g0 : Nat → Value) (f1 : Nat → Int32) (f2 : Nat → Int64) (e0 : g0 2 = (.ref a1)) (e1 : g0 3 = (.ref a2)) : Met l yX5_forget (Cond.code yX5_forget cX5_forget 1 none :: WG) { frames := 1, cells := 0, slots := 0, locals := 24 } (zPre K [(a0, zO 4 6 g0), (a1, zI K 8 f1), (a2, zJ K 8 f2)] sz [.ref a0]) (va_Qv (fun _ : Nat → Nat => True) (zB K (va_A [(a0, zO 4 6 g0), (a1, zI K 8 f1), (a2, zJ K 8 f2)] sz) (fun u : Nat → Nat => [(a0, zO 4 6 g0), (a1, zI K 8 (va_up (va_up (va_up (va_up (va_up (va_up (va_up (va_up f1 0 0) 1 0) 2 0) 3 0) 4 0) 5 0) 6 0) 7 0)), (a2, zJ K 8 (va_up (va_up (va_up (va_up (va_up (va_up (va_up (va_up f2 0 0) 1 0) 2 0) 3 0) 4 0) 5 0) 6 0) 7 0))])) (va_A [(a0, zO 4 6 g0), (a1, zI K 8 f1), (a2, zJ K 8 f2)] sz)) 0 0 (va_A [(a0, zO 4 6 g0), (a1, zI K 8 f1), (a2, zJ K 8 f2)] sz) := by
  refine z_met (Qc := fun A => (va_Qv (fun _ : Nat → Nat => True) (zB K A (fun u : Nat → Nat => [(a0, zO 4 6 g0), (a1, zI K 8 (va_up (va_up (va_up (va_up (va_up (va_up (va_up (va_up f1 0 0) 1 0) 2 0) 3 0) 4 0) 5 0) 6 0) 7 0)), (a2, zJ K 8 (va_up (va_up (va_up (va_up (va_up (va_up (va_up (va_up f2 0 0) 1 0) 2 0) 3 0) 4 0) 5 0) 6 0) 7 0))])) A)) (by decide +kernel) (Nat.le_of_ble_eq_true rfl) ?_
  intro p e s m args below meth c A ls H hx hb hr hg hown hlocks hml hin hK hP hD hA hS hZ hl
  have hown : s.vm.findClass RX5 = some m.cls := hown
  have hl : lv_has ls 1 [(0, .ref a0)] := hl
  refine lv_aload_n hx hb dX5_forget_0 rfl (lv_at hl 0 rfl) ?_
  refine z_get (v := .ref a1) hx hb hg hown hK hP i_X5 rfl 0 rfl 2 (by decide) mt75 e0 dX5_forget_1 ?_
  refine lv_iconst (v := 0) hx hb dX5_forget_4 (by decide) ?_
  refine z_callv [(a1, zI K 8 f1)] [(a0, zO 4 6 g0), (a2, zJ K 8 f2)] [1] [0, 2] hP hD hS hA rfl rfl (by decide) (by decide) (by decide +kernel) 0 0 rfl rfl (fun hPc hDc hF => z_runS (As := [.ref a1, .int 0]) (rest := []) ⟨hx, hb, hml, hown, hg⟩ (cJ7_fill_53178_2 l K H.size a1 f1) kS_RX5_69 hd_J7_fill_53178 rfl rfl ⟨(Nat.le_of_ble_eq_true rfl), (Nat.le_of_ble_eq_true rfl)⟩ hK hS hZ hPc hDc hF rfl hl.1 rfl (Nat.le_of_ble_eq_true rfl) dX5_forget_5 ⟨(Nat.le_of_ble_eq_true rfl), (Nat.le_of_ble_eq_true rfl)⟩) (fun u1 H locs w2 hP hD hS => ?_)
  have hP : va_P K.1 classes [(a0, zO 4 6 g0), (a2, zJ K 8 f2), (a1, zI K 8 (va_up (va_up (va_up (va_up (va_up (va_up (va_up (va_up f1 0 0) 1 0) 2 0) 3 0) 4 0) 5 0) 6 0) 7 0))] H := hP
  have hD : va_D A [(a0, zO 4 6 g0), (a2, zJ K 8 f2), (a1, zI K 8 (va_up (va_up (va_up (va_up (va_up (va_up (va_up (va_up f1 0 0) 1 0) 2 0) 3 0) 4 0) 5 0) 6 0) 7 0))] := hD
  obtain ⟨ff4, y5⟩ : ∃ z, z = ((va_up (va_up (va_up (va_up (va_up (va_up (va_up (va_up f1 0 0) 1 0) 2 0) 3 0) 4 0) 5 0) 6 0) 7 0) : Nat → Int32) := ⟨_, rfl⟩
  rw [← y5] at hP hD
  refine lv_aload_n hx hb dX5_forget_8 rfl (lv_at hl 0 rfl) ?_
  refine z_get (v := .ref a2) hx hb hg hown hK hP i_X5 rfl 0 rfl 3 (by decide) mt76 e1 dX5_forget_9 ?_
  refine lv_lconst (v := 0) hx hb dX5_forget_12 (by decide) ?_
  refine z_callv [(a2, zJ K 8 f2)] [(a0, zO 4 6 g0), (a1, zI K 8 ff4)] [1] [0, 2] hP hD hS hA rfl rfl (by decide) (by decide) (by decide +kernel) 0 0 rfl rfl (fun hPc hDc hF => z_runS (As := [.ref a2, .long 0]) (rest := []) ⟨hx, hb, hml, hown, hg⟩ (cJ7_fill_d0a16_1 l K H.size a2 f2) kS_RX5_75 hd_J7_fill_d0a16 rfl rfl ⟨(Nat.le_of_ble_eq_true rfl), (Nat.le_of_ble_eq_true rfl)⟩ hK hS hZ hPc hDc hF rfl hl.1 rfl (Nat.le_of_ble_eq_true rfl) dX5_forget_13 ⟨(Nat.le_of_ble_eq_true rfl), (Nat.le_of_ble_eq_true rfl)⟩) (fun u6 H locs w7 hP hD hS => ?_)
  have hP : va_P K.1 classes [(a0, zO 4 6 g0), (a1, zI K 8 ff4), (a2, zJ K 8 (va_up (va_up (va_up (va_up (va_up (va_up (va_up (va_up f2 0 0) 1 0) 2 0) 3 0) 4 0) 5 0) 6 0) 7 0))] H := hP
  have hD : va_D A [(a0, zO 4 6 g0), (a1, zI K 8 ff4), (a2, zJ K 8 (va_up (va_up (va_up (va_up (va_up (va_up (va_up (va_up f2 0 0) 1 0) 2 0) 3 0) 4 0) 5 0) 6 0) 7 0))] := hD
  obtain ⟨ff9, y10⟩ : ∃ z, z = ((va_up (va_up (va_up (va_up (va_up (va_up (va_up (va_up f2 0 0) 1 0) 2 0) 3 0) 4 0) 5 0) 6 0) 7 0) : Nat → Int64) := ⟨_, rfl⟩
  rw [← y10] at hP hD
  subst y10
  subst y5
  have hP9 : va_P K.1 classes [(a0, zO 4 6 g0), (a1, zI K 8 (va_up (va_up (va_up (va_up (va_up (va_up (va_up (va_up f1 0 0) 1 0) 2 0) 3 0) 4 0) 5 0) 6 0) 7 0)), (a2, zJ K 8 (va_up (va_up (va_up (va_up (va_up (va_up (va_up (va_up f2 0 0) 1 0) 2 0) 3 0) 4 0) 5 0) 6 0) 7 0))] H := hP.sub [0, 1, 2] rfl
  have hD9 : va_D A [(a0, zO 4 6 g0), (a1, zI K 8 (va_up (va_up (va_up (va_up (va_up (va_up (va_up (va_up f1 0 0) 1 0) 2 0) 3 0) 4 0) 5 0) 6 0) 7 0)), (a2, zJ K 8 (va_up (va_up (va_up (va_up (va_up (va_up (va_up (va_up f2 0 0) 1 0) 2 0) 3 0) 4 0) 5 0) 6 0) 7 0))] := hD.sub [0, 1, 2] (by decide) rfl
  exact z_vret hx hb hr (fun _ => 0) trivial hP9 hD9 hS (Nat.le_of_ble_eq_true rfl) (Nat.le_of_ble_eq_true rfl) hlocks dX5_forget_16
set_option maxHeartbeats 4000000 in
set_option maxRecDepth 100000 in
theorem cX5_copy_1 (l : Launch) (K : zK) (sz : Nat) (a0 : Nat) (a1 : Nat) (a2 : Nat) (a3 : Nat) (a4 : Nat) (a5 : Nat) (g0 : Nat → Value) (f2 : Nat → Int32) (g1 : Nat → Value) (f3 : Nat → Int32) (f4 : Nat → Int32) (f5 : Nat → Int64) (e0 : g0 1 = (.ref a2)) (e1 : g1 1 = (.ref a3)) (e2 : f3 0 = 0) (e3 : f3 1 = 0) (e4 : f3 2 = 0) (e5 : f3 3 = 0) (e6 : f3 4 = 0) (e7 : f3 5 = 0) (e8 : f3 6 = 0) (e9 : f3 7 = 0) (e10 : g0 2 = (.ref a4)) (e11 : g0 3 = (.ref a5)) : Met l yX5_copy (Cond.code yX5_copy cX5_copy 3 none :: WG) { frames := 2, cells := 0, slots := 0, locals := 44 } (zPre K [(a0, zO 4 6 g0), (a2, zI K 8 f2), (a1, zO 4 6 g1), (a3, zI K 8 f3), (a4, zI K 8 f4), (a5, zJ K 8 f5)] sz [.ref a0, .ref a1]) (va_Qv (fun _ : Nat → Nat => True) (zB K (va_A [(a0, zO 4 6 g0), (a2, zI K 8 f2), (a1, zO 4 6 g1), (a3, zI K 8 f3), (a4, zI K 8 f4), (a5, zJ K 8 f5)] sz) (fun u : Nat → Nat => [(a0, zO 4 6 g0), (a2, zI K 8 (va_up (va_up (va_up (va_up (va_up (va_up (va_up (va_up f2 0 0) 1 0) 2 0) 3 0) 4 0) 5 0) 6 0) 7 0)), (a1, zO 4 6 g1), (a3, zI K 8 f3), (a4, zI K 8 (va_up (va_up (va_up (va_up (va_up (va_up (va_up (va_up f4 0 0) 1 0) 2 0) 3 0) 4 0) 5 0) 6 0) 7 0)), (a5, zJ K 8 (va_up (va_up (va_up (va_up (va_up (va_up (va_up (va_up f5 0 0) 1 0) 2 0) 3 0) 4 0) 5 0) 6 0) 7 0))])) (va_A [(a0, zO 4 6 g0), (a2, zI K 8 f2), (a1, zO 4 6 g1), (a3, zI K 8 f3), (a4, zI K 8 f4), (a5, zJ K 8 f5)] sz)) 0 0 (va_A [(a0, zO 4 6 g0), (a2, zI K 8 f2), (a1, zO 4 6 g1), (a3, zI K 8 f3), (a4, zI K 8 f4), (a5, zJ K 8 f5)] sz) := by
  refine z_met (Qc := fun A => (va_Qv (fun _ : Nat → Nat => True) (zB K A (fun u : Nat → Nat => [(a0, zO 4 6 g0), (a2, zI K 8 (va_up (va_up (va_up (va_up (va_up (va_up (va_up (va_up f2 0 0) 1 0) 2 0) 3 0) 4 0) 5 0) 6 0) 7 0)), (a1, zO 4 6 g1), (a3, zI K 8 f3), (a4, zI K 8 (va_up (va_up (va_up (va_up (va_up (va_up (va_up (va_up f4 0 0) 1 0) 2 0) 3 0) 4 0) 5 0) 6 0) 7 0)), (a5, zJ K 8 (va_up (va_up (va_up (va_up (va_up (va_up (va_up (va_up f5 0 0) 1 0) 2 0) 3 0) 4 0) 5 0) 6 0) 7 0))])) A)) (by decide +kernel) (Nat.le_of_ble_eq_true rfl) ?_
  intro p e s m args below meth c A ls H hx hb hr hg hown hlocks hml hin hK hP hD hA hS hZ hl
  have hown : s.vm.findClass RX5 = some m.cls := hown
  have hl : lv_has ls 3 [(0, .ref a0), (1, .ref a1)] := hl
  refine lv_iconst (v := 0) hx hb dX5_copy_0 (by decide) ?_
  refine lv_istore_n (lv' := [(2, .int 0), (0, .ref a0), (1, .ref a1)]) hx hb dX5_copy_1 rfl hl (by decide) rfl (fun ls hl => ?_)
  refine lv_iload_n hx hb dX5_copy_2 rfl (lv_at hl 0 rfl) ?_
  refine lv_bipush (v := 8) hx hb dX5_copy_3 (by decide) ?_
  refine lv_icmp_ge (tgt := 44) hx hb dX5_copy_5 (by decide) (fun c => absurd c (by decide)) (fun _ => ?_)
  refine lv_aload_n hx hb dX5_copy_8 rfl (lv_at hl 1 rfl) ?_
  refine z_get (v := .ref a2) hx hb hg hown hK hP i_X5 rfl 0 rfl 1 (by decide) mt74 e0 dX5_copy_9 ?_
  refine lv_iload_n hx hb dX5_copy_12 rfl (lv_at hl 0 rfl) ?_
  refine lv_iconst (v := 0) hx hb dX5_copy_13 (by decide) ?_
  refine z_iast (j := 0) hx hb hK hP hD hS 1 rfl rfl (Nat.le_of_ble_eq_true rfl) (Nat.le_of_ble_eq_true rfl) dX5_copy_14 (fun ff1 H locs y2 hP hD hS => ?_)
  have hP : va_P K.1 classes [(a0, zO 4 6 g0), (a2, zI K 8 ff1), (a1, zO 4 6 g1), (a3, zI K 8 f3), (a4, zI K 8 f4), (a5, zJ K 8 f5)] H := hP
  have hD : va_D A [(a0, zO 4 6 g0), (a2, zI K 8 ff1), (a1, zO 4 6 g1), (a3, zI K 8 f3), (a4, zI K 8 f4), (a5, zJ K 8 f5)] := hD
  refine lv_aload_n hx hb dX5_copy_15 rfl (lv_at hl 2 rfl) ?_
  refine z_get (v := .ref a3) hx hb hg hown hK hP i_X5 rfl 2 rfl 1 (by decide) mt74 e1 dX5_copy_16 ?_
  refine lv_iload_n hx hb dX5_copy_19 rfl (lv_at hl 0 rfl) ?_
  refine z_iald (v := 0) (j := 0) hx hb hK hP 3 rfl rfl (Nat.le_of_ble_eq_true rfl) (Nat.le_of_ble_eq_true rfl) e2 dX5_copy_20 ?_
  refine lv_if_le (tgt := 38) hx hb dX5_copy_21 (by decide) (fun _ => ?_) (fun c => absurd (by decide) c)
  refine lv_iinc (v := 1) (lv' := [(2, .int 1), (0, .ref a0), (1, .ref a1)]) hx hb dX5_copy_38 hl (k := 0) rfl (by decide +kernel) (by decide) rfl (fun ls hl => ?_)
  refine lv_goto (tgt := 2) hx hb dX5_copy_41 (by decide) ?_
  refine lv_iload_n hx hb dX5_copy_2 rfl (lv_at hl 0 rfl) ?_
  refine lv_bipush (v := 8) hx hb dX5_copy_3 (by decide) ?_
  refine lv_icmp_ge (tgt := 44) hx hb dX5_copy_5 (by decide) (fun c => absurd c (by decide)) (fun _ => ?_)
  refine lv_aload_n hx hb dX5_copy_8 rfl (lv_at hl 1 rfl) ?_
  refine z_get (v := .ref a2) hx hb hg hown hK hP i_X5 rfl 0 rfl 1 (by decide) mt74 e0 dX5_copy_9 ?_
  refine lv_iload_n hx hb dX5_copy_12 rfl (lv_at hl 0 rfl) ?_
  refine lv_iconst (v := 0) hx hb dX5_copy_13 (by decide) ?_
  refine z_iast (j := 1) hx hb hK hP hD hS 1 rfl rfl (Nat.le_of_ble_eq_true rfl) (Nat.le_of_ble_eq_true rfl) dX5_copy_14 (fun ff3 H locs y4 hP hD hS => ?_)
  have hP : va_P K.1 classes [(a0, zO 4 6 g0), (a2, zI K 8 ff3), (a1, zO 4 6 g1), (a3, zI K 8 f3), (a4, zI K 8 f4), (a5, zJ K 8 f5)] H := hP
  have hD : va_D A [(a0, zO 4 6 g0), (a2, zI K 8 ff3), (a1, zO 4 6 g1), (a3, zI K 8 f3), (a4, zI K 8 f4), (a5, zJ K 8 f5)] := hD
  refine lv_aload_n hx hb dX5_copy_15 rfl (lv_at hl 2 rfl) ?_
  refine z_get (v := .ref a3) hx hb hg hown hK hP i_X5 rfl 2 rfl 1 (by decide) mt74 e1 dX5_copy_16 ?_
  refine lv_iload_n hx hb dX5_copy_19 rfl (lv_at hl 0 rfl) ?_
  refine z_iald (v := 0) (j := 1) hx hb hK hP 3 rfl rfl (Nat.le_of_ble_eq_true rfl) (Nat.le_of_ble_eq_true rfl) e3 dX5_copy_20 ?_
  refine lv_if_le (tgt := 38) hx hb dX5_copy_21 (by decide) (fun _ => ?_) (fun c => absurd (by decide) c)
  refine lv_iinc (v := 2) (lv' := [(2, .int 2), (0, .ref a0), (1, .ref a1)]) hx hb dX5_copy_38 hl (k := 0) rfl (by decide +kernel) (by decide) rfl (fun ls hl => ?_)
  refine lv_goto (tgt := 2) hx hb dX5_copy_41 (by decide) ?_
  refine lv_iload_n hx hb dX5_copy_2 rfl (lv_at hl 0 rfl) ?_
  refine lv_bipush (v := 8) hx hb dX5_copy_3 (by decide) ?_
  refine lv_icmp_ge (tgt := 44) hx hb dX5_copy_5 (by decide) (fun c => absurd c (by decide)) (fun _ => ?_)
  refine lv_aload_n hx hb dX5_copy_8 rfl (lv_at hl 1 rfl) ?_
  refine z_get (v := .ref a2) hx hb hg hown hK hP i_X5 rfl 0 rfl 1 (by decide) mt74 e0 dX5_copy_9 ?_
  refine lv_iload_n hx hb dX5_copy_12 rfl (lv_at hl 0 rfl) ?_
  refine lv_iconst (v := 0) hx hb dX5_copy_13 (by decide) ?_
  refine z_iast (j := 2) hx hb hK hP hD hS 1 rfl rfl (Nat.le_of_ble_eq_true rfl) (Nat.le_of_ble_eq_true rfl) dX5_copy_14 (fun ff5 H locs y6 hP hD hS => ?_)
  have hP : va_P K.1 classes [(a0, zO 4 6 g0), (a2, zI K 8 ff5), (a1, zO 4 6 g1), (a3, zI K 8 f3), (a4, zI K 8 f4), (a5, zJ K 8 f5)] H := hP
  have hD : va_D A [(a0, zO 4 6 g0), (a2, zI K 8 ff5), (a1, zO 4 6 g1), (a3, zI K 8 f3), (a4, zI K 8 f4), (a5, zJ K 8 f5)] := hD
  refine lv_aload_n hx hb dX5_copy_15 rfl (lv_at hl 2 rfl) ?_
  refine z_get (v := .ref a3) hx hb hg hown hK hP i_X5 rfl 2 rfl 1 (by decide) mt74 e1 dX5_copy_16 ?_
  refine lv_iload_n hx hb dX5_copy_19 rfl (lv_at hl 0 rfl) ?_
  refine z_iald (v := 0) (j := 2) hx hb hK hP 3 rfl rfl (Nat.le_of_ble_eq_true rfl) (Nat.le_of_ble_eq_true rfl) e4 dX5_copy_20 ?_
  refine lv_if_le (tgt := 38) hx hb dX5_copy_21 (by decide) (fun _ => ?_) (fun c => absurd (by decide) c)
  refine lv_iinc (v := 3) (lv' := [(2, .int 3), (0, .ref a0), (1, .ref a1)]) hx hb dX5_copy_38 hl (k := 0) rfl (by decide +kernel) (by decide) rfl (fun ls hl => ?_)
  refine lv_goto (tgt := 2) hx hb dX5_copy_41 (by decide) ?_
  refine lv_iload_n hx hb dX5_copy_2 rfl (lv_at hl 0 rfl) ?_
  refine lv_bipush (v := 8) hx hb dX5_copy_3 (by decide) ?_
  refine lv_icmp_ge (tgt := 44) hx hb dX5_copy_5 (by decide) (fun c => absurd c (by decide)) (fun _ => ?_)
  refine lv_aload_n hx hb dX5_copy_8 rfl (lv_at hl 1 rfl) ?_
  refine z_get (v := .ref a2) hx hb hg hown hK hP i_X5 rfl 0 rfl 1 (by decide) mt74 e0 dX5_copy_9 ?_
  refine lv_iload_n hx hb dX5_copy_12 rfl (lv_at hl 0 rfl) ?_
  refine lv_iconst (v := 0) hx hb dX5_copy_13 (by decide) ?_
  refine z_iast (j := 3) hx hb hK hP hD hS 1 rfl rfl (Nat.le_of_ble_eq_true rfl) (Nat.le_of_ble_eq_true rfl) dX5_copy_14 (fun ff7 H locs y8 hP hD hS => ?_)
  have hP : va_P K.1 classes [(a0, zO 4 6 g0), (a2, zI K 8 ff7), (a1, zO 4 6 g1), (a3, zI K 8 f3), (a4, zI K 8 f4), (a5, zJ K 8 f5)] H := hP
  have hD : va_D A [(a0, zO 4 6 g0), (a2, zI K 8 ff7), (a1, zO 4 6 g1), (a3, zI K 8 f3), (a4, zI K 8 f4), (a5, zJ K 8 f5)] := hD
  refine lv_aload_n hx hb dX5_copy_15 rfl (lv_at hl 2 rfl) ?_
  refine z_get (v := .ref a3) hx hb hg hown hK hP i_X5 rfl 2 rfl 1 (by decide) mt74 e1 dX5_copy_16 ?_
  refine lv_iload_n hx hb dX5_copy_19 rfl (lv_at hl 0 rfl) ?_
  refine z_iald (v := 0) (j := 3) hx hb hK hP 3 rfl rfl (Nat.le_of_ble_eq_true rfl) (Nat.le_of_ble_eq_true rfl) e5 dX5_copy_20 ?_
  refine lv_if_le (tgt := 38) hx hb dX5_copy_21 (by decide) (fun _ => ?_) (fun c => absurd (by decide) c)
  refine lv_iinc (v := 4) (lv' := [(2, .int 4), (0, .ref a0), (1, .ref a1)]) hx hb dX5_copy_38 hl (k := 0) rfl (by decide +kernel) (by decide) rfl (fun ls hl => ?_)
  refine lv_goto (tgt := 2) hx hb dX5_copy_41 (by decide) ?_
  refine lv_iload_n hx hb dX5_copy_2 rfl (lv_at hl 0 rfl) ?_
  refine lv_bipush (v := 8) hx hb dX5_copy_3 (by decide) ?_
  refine lv_icmp_ge (tgt := 44) hx hb dX5_copy_5 (by decide) (fun c => absurd c (by decide)) (fun _ => ?_)
  refine lv_aload_n hx hb dX5_copy_8 rfl (lv_at hl 1 rfl) ?_
  refine z_get (v := .ref a2) hx hb hg hown hK hP i_X5 rfl 0 rfl 1 (by decide) mt74 e0 dX5_copy_9 ?_
  refine lv_iload_n hx hb dX5_copy_12 rfl (lv_at hl 0 rfl) ?_
  refine lv_iconst (v := 0) hx hb dX5_copy_13 (by decide) ?_
  refine z_iast (j := 4) hx hb hK hP hD hS 1 rfl rfl (Nat.le_of_ble_eq_true rfl) (Nat.le_of_ble_eq_true rfl) dX5_copy_14 (fun ff9 H locs y10 hP hD hS => ?_)
  have hP : va_P K.1 classes [(a0, zO 4 6 g0), (a2, zI K 8 ff9), (a1, zO 4 6 g1), (a3, zI K 8 f3), (a4, zI K 8 f4), (a5, zJ K 8 f5)] H := hP
  have hD : va_D A [(a0, zO 4 6 g0), (a2, zI K 8 ff9), (a1, zO 4 6 g1), (a3, zI K 8 f3), (a4, zI K 8 f4), (a5, zJ K 8 f5)] := hD
  refine lv_aload_n hx hb dX5_copy_15 rfl (lv_at hl 2 rfl) ?_
  refine z_get (v := .ref a3) hx hb hg hown hK hP i_X5 rfl 2 rfl 1 (by decide) mt74 e1 dX5_copy_16 ?_
  refine lv_iload_n hx hb dX5_copy_19 rfl (lv_at hl 0 rfl) ?_
  refine z_iald (v := 0) (j := 4) hx hb hK hP 3 rfl rfl (Nat.le_of_ble_eq_true rfl) (Nat.le_of_ble_eq_true rfl) e6 dX5_copy_20 ?_
  refine lv_if_le (tgt := 38) hx hb dX5_copy_21 (by decide) (fun _ => ?_) (fun c => absurd (by decide) c)
  refine lv_iinc (v := 5) (lv' := [(2, .int 5), (0, .ref a0), (1, .ref a1)]) hx hb dX5_copy_38 hl (k := 0) rfl (by decide +kernel) (by decide) rfl (fun ls hl => ?_)
  refine lv_goto (tgt := 2) hx hb dX5_copy_41 (by decide) ?_
  refine lv_iload_n hx hb dX5_copy_2 rfl (lv_at hl 0 rfl) ?_
  refine lv_bipush (v := 8) hx hb dX5_copy_3 (by decide) ?_
  refine lv_icmp_ge (tgt := 44) hx hb dX5_copy_5 (by decide) (fun c => absurd c (by decide)) (fun _ => ?_)
  refine lv_aload_n hx hb dX5_copy_8 rfl (lv_at hl 1 rfl) ?_
  refine z_get (v := .ref a2) hx hb hg hown hK hP i_X5 rfl 0 rfl 1 (by decide) mt74 e0 dX5_copy_9 ?_
  refine lv_iload_n hx hb dX5_copy_12 rfl (lv_at hl 0 rfl) ?_
  refine lv_iconst (v := 0) hx hb dX5_copy_13 (by decide) ?_
  refine z_iast (j := 5) hx hb hK hP hD hS 1 rfl rfl (Nat.le_of_ble_eq_true rfl) (Nat.le_of_ble_eq_true rfl) dX5_copy_14 (fun ff11 H locs y12 hP hD hS => ?_)
  have hP : va_P K.1 classes [(a0, zO 4 6 g0), (a2, zI K 8 ff11), (a1, zO 4 6 g1), (a3, zI K 8 f3), (a4, zI K 8 f4), (a5, zJ K 8 f5)] H := hP
  have hD : va_D A [(a0, zO 4 6 g0), (a2, zI K 8 ff11), (a1, zO 4 6 g1), (a3, zI K 8 f3), (a4, zI K 8 f4), (a5, zJ K 8 f5)] := hD
  refine lv_aload_n hx hb dX5_copy_15 rfl (lv_at hl 2 rfl) ?_
  refine z_get (v := .ref a3) hx hb hg hown hK hP i_X5 rfl 2 rfl 1 (by decide) mt74 e1 dX5_copy_16 ?_
  refine lv_iload_n hx hb dX5_copy_19 rfl (lv_at hl 0 rfl) ?_
  refine z_iald (v := 0) (j := 5) hx hb hK hP 3 rfl rfl (Nat.le_of_ble_eq_true rfl) (Nat.le_of_ble_eq_true rfl) e7 dX5_copy_20 ?_
  refine lv_if_le (tgt := 38) hx hb dX5_copy_21 (by decide) (fun _ => ?_) (fun c => absurd (by decide) c)
  refine lv_iinc (v := 6) (lv' := [(2, .int 6), (0, .ref a0), (1, .ref a1)]) hx hb dX5_copy_38 hl (k := 0) rfl (by decide +kernel) (by decide) rfl (fun ls hl => ?_)
  refine lv_goto (tgt := 2) hx hb dX5_copy_41 (by decide) ?_
  refine lv_iload_n hx hb dX5_copy_2 rfl (lv_at hl 0 rfl) ?_
  refine lv_bipush (v := 8) hx hb dX5_copy_3 (by decide) ?_
  refine lv_icmp_ge (tgt := 44) hx hb dX5_copy_5 (by decide) (fun c => absurd c (by decide)) (fun _ => ?_)
  refine lv_aload_n hx hb dX5_copy_8 rfl (lv_at hl 1 rfl) ?_
  refine z_get (v := .ref a2) hx hb hg hown hK hP i_X5 rfl 0 rfl 1 (by decide) mt74 e0 dX5_copy_9 ?_
  refine lv_iload_n hx hb dX5_copy_12 rfl (lv_at hl 0 rfl) ?_
  refine lv_iconst (v := 0) hx hb dX5_copy_13 (by decide) ?_
  refine z_iast (j := 6) hx hb hK hP hD hS 1 rfl rfl (Nat.le_of_ble_eq_true rfl) (Nat.le_of_ble_eq_true rfl) dX5_copy_14 (fun ff13 H locs y14 hP hD hS => ?_)
  have hP : va_P K.1 classes [(a0, zO 4 6 g0), (a2, zI K 8 ff13), (a1, zO 4 6 g1), (a3, zI K 8 f3), (a4, zI K 8 f4), (a5, zJ K 8 f5)] H := hP
  have hD : va_D A [(a0, zO 4 6 g0), (a2, zI K 8 ff13), (a1, zO 4 6 g1), (a3, zI K 8 f3), (a4, zI K 8 f4), (a5, zJ K 8 f5)] := hD
  refine lv_aload_n hx hb dX5_copy_15 rfl (lv_at hl 2 rfl) ?_
  refine z_get (v := .ref a3) hx hb hg hown hK hP i_X5 rfl 2 rfl 1 (by decide) mt74 e1 dX5_copy_16 ?_
  refine lv_iload_n hx hb dX5_copy_19 rfl (lv_at hl 0 rfl) ?_
  refine z_iald (v := 0) (j := 6) hx hb hK hP 3 rfl rfl (Nat.le_of_ble_eq_true rfl) (Nat.le_of_ble_eq_true rfl) e8 dX5_copy_20 ?_
  refine lv_if_le (tgt := 38) hx hb dX5_copy_21 (by decide) (fun _ => ?_) (fun c => absurd (by decide) c)
  refine lv_iinc (v := 7) (lv' := [(2, .int 7), (0, .ref a0), (1, .ref a1)]) hx hb dX5_copy_38 hl (k := 0) rfl (by decide +kernel) (by decide) rfl (fun ls hl => ?_)
  refine lv_goto (tgt := 2) hx hb dX5_copy_41 (by decide) ?_
  refine lv_iload_n hx hb dX5_copy_2 rfl (lv_at hl 0 rfl) ?_
  refine lv_bipush (v := 8) hx hb dX5_copy_3 (by decide) ?_
  refine lv_icmp_ge (tgt := 44) hx hb dX5_copy_5 (by decide) (fun c => absurd c (by decide)) (fun _ => ?_)
  refine lv_aload_n hx hb dX5_copy_8 rfl (lv_at hl 1 rfl) ?_
  refine z_get (v := .ref a2) hx hb hg hown hK hP i_X5 rfl 0 rfl 1 (by decide) mt74 e0 dX5_copy_9 ?_
  refine lv_iload_n hx hb dX5_copy_12 rfl (lv_at hl 0 rfl) ?_
  refine lv_iconst (v := 0) hx hb dX5_copy_13 (by decide) ?_
  refine z_iast (j := 7) hx hb hK hP hD hS 1 rfl rfl (Nat.le_of_ble_eq_true rfl) (Nat.le_of_ble_eq_true rfl) dX5_copy_14 (fun ff15 H locs y16 hP hD hS => ?_)
  have hP : va_P K.1 classes [(a0, zO 4 6 g0), (a2, zI K 8 ff15), (a1, zO 4 6 g1), (a3, zI K 8 f3), (a4, zI K 8 f4), (a5, zJ K 8 f5)] H := hP
  have hD : va_D A [(a0, zO 4 6 g0), (a2, zI K 8 ff15), (a1, zO 4 6 g1), (a3, zI K 8 f3), (a4, zI K 8 f4), (a5, zJ K 8 f5)] := hD
  refine lv_aload_n hx hb dX5_copy_15 rfl (lv_at hl 2 rfl) ?_
  refine z_get (v := .ref a3) hx hb hg hown hK hP i_X5 rfl 2 rfl 1 (by decide) mt74 e1 dX5_copy_16 ?_
  refine lv_iload_n hx hb dX5_copy_19 rfl (lv_at hl 0 rfl) ?_
  refine z_iald (v := 0) (j := 7) hx hb hK hP 3 rfl rfl (Nat.le_of_ble_eq_true rfl) (Nat.le_of_ble_eq_true rfl) e9 dX5_copy_20 ?_
  refine lv_if_le (tgt := 38) hx hb dX5_copy_21 (by decide) (fun _ => ?_) (fun c => absurd (by decide) c)
  refine lv_iinc (v := 8) (lv' := [(2, .int 8), (0, .ref a0), (1, .ref a1)]) hx hb dX5_copy_38 hl (k := 0) rfl (by decide +kernel) (by decide) rfl (fun ls hl => ?_)
  refine lv_goto (tgt := 2) hx hb dX5_copy_41 (by decide) ?_
  refine lv_iload_n hx hb dX5_copy_2 rfl (lv_at hl 0 rfl) ?_
  refine lv_bipush (v := 8) hx hb dX5_copy_3 (by decide) ?_
  refine lv_icmp_ge (tgt := 44) hx hb dX5_copy_5 (by decide) (fun _ => ?_) (fun c => absurd (by decide) c)
  refine lv_aload_n hx hb dX5_copy_44 rfl (lv_at hl 1 rfl) ?_
  refine z_callv [(a0, zO 4 6 g0), (a4, zI K 8 f4), (a5, zJ K 8 f5)] [(a2, zI K 8 ff15), (a1, zO 4 6 g1), (a3, zI K 8 f3)] [0, 4, 5] [1, 2, 3] hP hD hS hA rfl rfl (by decide) (by decide) (by decide +kernel) 0 0 rfl rfl (fun hPc hDc hF => z_runV (As := []) (rest := []) ⟨hx, hb, hml, hown, hg⟩ (cX5_forget_1 l K H.size a0 a4 a5 g0 f4 f5 e10 e11) kV_RX5_64 hd_X5_forget rfl rfl ⟨(Nat.le_of_ble_eq_true rfl), (Nat.le_of_ble_eq_true rfl)⟩ hK hS hZ hPc hDc hF 0 rfl rfl rfl hl.1 rfl (Nat.le_of_ble_eq_true rfl) dX5_copy_45 ⟨(Nat.le_of_ble_eq_true rfl), (Nat.le_of_ble_eq_true rfl)⟩) (fun u17 H locs w18 hP hD hS => ?_)
  have hP : va_P K.1 classes [(a2, zI K 8 ff15), (a1, zO 4 6 g1), (a3, zI K 8 f3), (a0, zO 4 6 g0), (a4, zI K 8 (va_up (va_up (va_up (va_up (va_up (va_up (va_up (va_up f4 0 0) 1 0) 2 0) 3 0) 4 0) 5 0) 6 0) 7 0)), (a5, zJ K 8 (va_up (va_up (va_up (va_up (va_up (va_up (va_up (va_up f5 0 0) 1 0) 2 0) 3 0) 4 0) 5 0) 6 0) 7 0))] H := hP
  have hD : va_D A [(a2, zI K 8 ff15), (a1, zO 4 6 g1), (a3, zI K 8 f3), (a0, zO 4 6 g0), (a4, zI K 8 (va_up (va_up (va_up (va_up (va_up (va_up (va_up (va_up f4 0 0) 1 0) 2 0) 3 0) 4 0) 5 0) 6 0) 7 0)), (a5, zJ K 8 (va_up (va_up (va_up (va_up (va_up (va_up (va_up (va_up f5 0 0) 1 0) 2 0) 3 0) 4 0) 5 0) 6 0) 7 0))] := hD
  obtain ⟨ff20, y21⟩ : ∃ z, z = ((va_up (va_up (va_up (va_up (va_up (va_up (va_up (va_up f4 0 0) 1 0) 2 0) 3 0) 4 0) 5 0) 6 0) 7 0) : Nat → Int32) := ⟨_, rfl⟩
  rw [← y21] at hP hD
  obtain ⟨ff22, y23⟩ : ∃ z, z = ((va_up (va_up (va_up (va_up (va_up (va_up (va_up (va_up f5 0 0) 1 0) 2 0) 3 0) 4 0) 5 0) 6 0) 7 0) : Nat → Int64) := ⟨_, rfl⟩
  rw [← y23] at hP hD
  subst y23
  subst y21
  subst y16
  subst y14
  subst y12
  subst y10
  subst y8
  subst y6
  subst y4
  subst y2
  have hP9 : va_P K.1 classes [(a0, zO 4 6 g0), (a2, zI K 8 (va_up (va_up (va_up (va_up (va_up (va_up (va_up (va_up f2 0 0) 1 0) 2 0) 3 0) 4 0) 5 0) 6 0) 7 0)), (a1, zO 4 6 g1), (a3, zI K 8 f3), (a4, zI K 8 (va_up (va_up (va_up (va_up (va_up (va_up (va_up (va_up f4 0 0) 1 0) 2 0) 3 0) 4 0) 5 0) 6 0) 7 0)), (a5, zJ K 8 (va_up (va_up (va_up (va_up (va_up (va_up (va_up (va_up f5 0 0) 1 0) 2 0) 3 0) 4 0) 5 0) 6 0) 7 0))] H := hP.sub [3, 0, 1, 2, 4, 5] rfl
  have hD9 : va_D A [(a0, zO 4 6 g0), (a2, zI K 8 (va_up (va_up (va_up (va_up (va_up (va_up (va_up (va_up f2 0 0) 1 0) 2 0) 3 0) 4 0) 5 0) 6 0) 7 0)), (a1, zO 4 6 g1), (a3, zI K 8 f3), (a4, zI K 8 (va_up (va_up (va_up (va_up (va_up (va_up (va_up (va_up f4 0 0) 1 0) 2 0) 3 0) 4 0) 5 0) 6 0) 7 0)), (a5, zJ K 8 (va_up (va_up (va_up (va_up (va_up (va_up (va_up (va_up f5 0 0) 1 0) 2 0) 3 0) 4 0) 5 0) 6 0) 7 0))] := hD.sub [3, 0, 1, 2, 4, 5] (by decide) rfl
  exact z_vret hx hb hr (fun _ => 0) trivial hP9 hD9 hS (Nat.le_of_ble_eq_true rfl) (Nat.le_of_ble_eq_true rfl) hlocks dX5_copy_48
set_option maxHeartbeats 4000000 in
set_option maxRecDepth 100000 in
theorem cX5_howMany_1 (l : Launch) (K : zK) (sz : Nat) (a0 : Nat) (a1 : Nat) (g0 : Nat → Value) (f1 : Nat → Int32) (e0 : g0 1 = (.ref a1)) (e1 : f1 0 = 0) (e2 : f1 1 = 0) (e3 : f1 2 = 0) (e4 : f1 3 = 0) (e5 : f1 4 = 0) (e6 : f1 5 = 0) (e7 : f1 6 = 0) (e8 : f1 7 = 0) : Met l yX5_howMany (Cond.code yX5_howMany cX5_howMany 3 (some .int) :: WG) { frames := 0, cells := 0, slots := 0, locals := 0 } (zPre K [(a0, zO 4 6 g0), (a1, zI K 8 f1)] sz [.ref a0]) (va_Qi (fun (r : Int32) (_ : Nat → Nat) => r = 0) (zB K (va_A [(a0, zO 4 6 g0), (a1, zI K 8 f1)] sz) (fun u : Nat → Nat => [(a0, zO 4 6 g0), (a1, zI K 8 f1)])) (va_A [(a0, zO 4 6 g0), (a1, zI K 8 f1)] sz)) 0 0 (va_A [(a0, zO 4 6 g0), (a1, zI K 8 f1)] sz) := by
  refine z_met (Qc := fun A => (va_Qi (fun (r : Int32) (_ : Nat → Nat) => r = 0) (zB K A (fun u : Nat → Nat => [(a0, zO 4 6 g0), (a1, zI K 8 f1)])) A)) (by decide +kernel) (Nat.le_of_ble_eq_true rfl) ?_
  intro p e s m args below meth c A ls H hx hb hr hg hown hlocks hml hin hK hP hD hA hS hZ hl
  have hown : s.vm.findClass RX5 = some m.cls := hown
  have hl : lv_has ls 3 [(0, .ref a0)] := hl
  refine lv_iconst (v := 0) hx hb dX5_howMany_0 (by decide) ?_
  refine lv_istore_n (lv' := [(1, .int 0), (0, .ref a0)]) hx hb dX5_howMany_1 rfl hl (by decide) rfl (fun ls hl => ?_)
  refine lv_iconst (v := 0) hx hb dX5_howMany_2 (by decide) ?_
  refine lv_istore_n (lv' := [(2, .int 0), (1, .int 0), (0, .ref a0)]) hx hb dX5_howMany_3 rfl hl (by decide) rfl (fun ls hl => ?_)
  refine lv_iload_n hx hb dX5_howMany_4 rfl (lv_at hl 0 rfl) ?_
  refine lv_bipush (v := 8) hx hb dX5_howMany_5 (by decide) ?_
  refine lv_icmp_ge (tgt := 33) hx hb dX5_howMany_7 (by decide) (fun c => absurd c (by decide)) (fun _ => ?_)
  refine lv_iload_n hx hb dX5_howMany_10 rfl (lv_at hl 1 rfl) ?_
  refine lv_aload_n hx hb dX5_howMany_11 rfl (lv_at hl 2 rfl) ?_
  refine z_get (v := .ref a1) hx hb hg hown hK hP i_X5 rfl 0 rfl 1 (by decide) mt74 e0 dX5_howMany_12 ?_
  refine lv_iload_n hx hb dX5_howMany_15 rfl (lv_at hl 0 rfl) ?_
  refine z_iald (v := 0) (j := 0) hx hb hK hP 1 rfl rfl (Nat.le_of_ble_eq_true rfl) (Nat.le_of_ble_eq_true rfl) e1 dX5_howMany_16 ?_
  refine lv_if_le (tgt := 24) hx hb dX5_howMany_17 (by decide) (fun _ => ?_) (fun c => absurd (by decide) c)
  refine lv_iconst (v := 0) hx hb dX5_howMany_24 (by decide) ?_
  refine lv_iadd hx hb dX5_howMany_25 ?_
  refine z_cst (v := 0) (by decide +kernel) ?_
  refine lv_istore_n (lv' := [(1, .int 0), (2, .int 0), (0, .ref a0)]) hx hb dX5_howMany_26 rfl hl (by decide) rfl (fun ls hl => ?_)
  refine lv_iinc (v := 1) (lv' := [(2, .int 1), (1, .int 0), (0, .ref a0)]) hx hb dX5_howMany_27 hl (k := 1) rfl (by decide +kernel) (by decide) rfl (fun ls hl => ?_)
  refine lv_goto (tgt := 4) hx hb dX5_howMany_30 (by decide) ?_
  refine lv_iload_n hx hb dX5_howMany_4 rfl (lv_at hl 0 rfl) ?_
  refine lv_bipush (v := 8) hx hb dX5_howMany_5 (by decide) ?_
  refine lv_icmp_ge (tgt := 33) hx hb dX5_howMany_7 (by decide) (fun c => absurd c (by decide)) (fun _ => ?_)
  refine lv_iload_n hx hb dX5_howMany_10 rfl (lv_at hl 1 rfl) ?_
  refine lv_aload_n hx hb dX5_howMany_11 rfl (lv_at hl 2 rfl) ?_
  refine z_get (v := .ref a1) hx hb hg hown hK hP i_X5 rfl 0 rfl 1 (by decide) mt74 e0 dX5_howMany_12 ?_
  refine lv_iload_n hx hb dX5_howMany_15 rfl (lv_at hl 0 rfl) ?_
  refine z_iald (v := 0) (j := 1) hx hb hK hP 1 rfl rfl (Nat.le_of_ble_eq_true rfl) (Nat.le_of_ble_eq_true rfl) e2 dX5_howMany_16 ?_
  refine lv_if_le (tgt := 24) hx hb dX5_howMany_17 (by decide) (fun _ => ?_) (fun c => absurd (by decide) c)
  refine lv_iconst (v := 0) hx hb dX5_howMany_24 (by decide) ?_
  refine lv_iadd hx hb dX5_howMany_25 ?_
  refine z_cst (v := 0) (by decide +kernel) ?_
  refine lv_istore_n (lv' := [(1, .int 0), (2, .int 1), (0, .ref a0)]) hx hb dX5_howMany_26 rfl hl (by decide) rfl (fun ls hl => ?_)
  refine lv_iinc (v := 2) (lv' := [(2, .int 2), (1, .int 0), (0, .ref a0)]) hx hb dX5_howMany_27 hl (k := 1) rfl (by decide +kernel) (by decide) rfl (fun ls hl => ?_)
  refine lv_goto (tgt := 4) hx hb dX5_howMany_30 (by decide) ?_
  refine lv_iload_n hx hb dX5_howMany_4 rfl (lv_at hl 0 rfl) ?_
  refine lv_bipush (v := 8) hx hb dX5_howMany_5 (by decide) ?_
  refine lv_icmp_ge (tgt := 33) hx hb dX5_howMany_7 (by decide) (fun c => absurd c (by decide)) (fun _ => ?_)
  refine lv_iload_n hx hb dX5_howMany_10 rfl (lv_at hl 1 rfl) ?_
  refine lv_aload_n hx hb dX5_howMany_11 rfl (lv_at hl 2 rfl) ?_
  refine z_get (v := .ref a1) hx hb hg hown hK hP i_X5 rfl 0 rfl 1 (by decide) mt74 e0 dX5_howMany_12 ?_
  refine lv_iload_n hx hb dX5_howMany_15 rfl (lv_at hl 0 rfl) ?_
  refine z_iald (v := 0) (j := 2) hx hb hK hP 1 rfl rfl (Nat.le_of_ble_eq_true rfl) (Nat.le_of_ble_eq_true rfl) e3 dX5_howMany_16 ?_
  refine lv_if_le (tgt := 24) hx hb dX5_howMany_17 (by decide) (fun _ => ?_) (fun c => absurd (by decide) c)
  refine lv_iconst (v := 0) hx hb dX5_howMany_24 (by decide) ?_
  refine lv_iadd hx hb dX5_howMany_25 ?_
  refine z_cst (v := 0) (by decide +kernel) ?_
  refine lv_istore_n (lv' := [(1, .int 0), (2, .int 2), (0, .ref a0)]) hx hb dX5_howMany_26 rfl hl (by decide) rfl (fun ls hl => ?_)
  refine lv_iinc (v := 3) (lv' := [(2, .int 3), (1, .int 0), (0, .ref a0)]) hx hb dX5_howMany_27 hl (k := 1) rfl (by decide +kernel) (by decide) rfl (fun ls hl => ?_)
  refine lv_goto (tgt := 4) hx hb dX5_howMany_30 (by decide) ?_
  refine lv_iload_n hx hb dX5_howMany_4 rfl (lv_at hl 0 rfl) ?_
  refine lv_bipush (v := 8) hx hb dX5_howMany_5 (by decide) ?_
  refine lv_icmp_ge (tgt := 33) hx hb dX5_howMany_7 (by decide) (fun c => absurd c (by decide)) (fun _ => ?_)
  refine lv_iload_n hx hb dX5_howMany_10 rfl (lv_at hl 1 rfl) ?_
  refine lv_aload_n hx hb dX5_howMany_11 rfl (lv_at hl 2 rfl) ?_
  refine z_get (v := .ref a1) hx hb hg hown hK hP i_X5 rfl 0 rfl 1 (by decide) mt74 e0 dX5_howMany_12 ?_
  refine lv_iload_n hx hb dX5_howMany_15 rfl (lv_at hl 0 rfl) ?_
  refine z_iald (v := 0) (j := 3) hx hb hK hP 1 rfl rfl (Nat.le_of_ble_eq_true rfl) (Nat.le_of_ble_eq_true rfl) e4 dX5_howMany_16 ?_
  refine lv_if_le (tgt := 24) hx hb dX5_howMany_17 (by decide) (fun _ => ?_) (fun c => absurd (by decide) c)
  refine lv_iconst (v := 0) hx hb dX5_howMany_24 (by decide) ?_
  refine lv_iadd hx hb dX5_howMany_25 ?_
  refine z_cst (v := 0) (by decide +kernel) ?_
  refine lv_istore_n (lv' := [(1, .int 0), (2, .int 3), (0, .ref a0)]) hx hb dX5_howMany_26 rfl hl (by decide) rfl (fun ls hl => ?_)
  refine lv_iinc (v := 4) (lv' := [(2, .int 4), (1, .int 0), (0, .ref a0)]) hx hb dX5_howMany_27 hl (k := 1) rfl (by decide +kernel) (by decide) rfl (fun ls hl => ?_)
  refine lv_goto (tgt := 4) hx hb dX5_howMany_30 (by decide) ?_
  refine lv_iload_n hx hb dX5_howMany_4 rfl (lv_at hl 0 rfl) ?_
  refine lv_bipush (v := 8) hx hb dX5_howMany_5 (by decide) ?_
  refine lv_icmp_ge (tgt := 33) hx hb dX5_howMany_7 (by decide) (fun c => absurd c (by decide)) (fun _ => ?_)
  refine lv_iload_n hx hb dX5_howMany_10 rfl (lv_at hl 1 rfl) ?_
  refine lv_aload_n hx hb dX5_howMany_11 rfl (lv_at hl 2 rfl) ?_
  refine z_get (v := .ref a1) hx hb hg hown hK hP i_X5 rfl 0 rfl 1 (by decide) mt74 e0 dX5_howMany_12 ?_
  refine lv_iload_n hx hb dX5_howMany_15 rfl (lv_at hl 0 rfl) ?_
  refine z_iald (v := 0) (j := 4) hx hb hK hP 1 rfl rfl (Nat.le_of_ble_eq_true rfl) (Nat.le_of_ble_eq_true rfl) e5 dX5_howMany_16 ?_
  refine lv_if_le (tgt := 24) hx hb dX5_howMany_17 (by decide) (fun _ => ?_) (fun c => absurd (by decide) c)
  refine lv_iconst (v := 0) hx hb dX5_howMany_24 (by decide) ?_
  refine lv_iadd hx hb dX5_howMany_25 ?_
  refine z_cst (v := 0) (by decide +kernel) ?_
  refine lv_istore_n (lv' := [(1, .int 0), (2, .int 4), (0, .ref a0)]) hx hb dX5_howMany_26 rfl hl (by decide) rfl (fun ls hl => ?_)
  refine lv_iinc (v := 5) (lv' := [(2, .int 5), (1, .int 0), (0, .ref a0)]) hx hb dX5_howMany_27 hl (k := 1) rfl (by decide +kernel) (by decide) rfl (fun ls hl => ?_)
  refine lv_goto (tgt := 4) hx hb dX5_howMany_30 (by decide) ?_
  refine lv_iload_n hx hb dX5_howMany_4 rfl (lv_at hl 0 rfl) ?_
  refine lv_bipush (v := 8) hx hb dX5_howMany_5 (by decide) ?_
  refine lv_icmp_ge (tgt := 33) hx hb dX5_howMany_7 (by decide) (fun c => absurd c (by decide)) (fun _ => ?_)
  refine lv_iload_n hx hb dX5_howMany_10 rfl (lv_at hl 1 rfl) ?_
  refine lv_aload_n hx hb dX5_howMany_11 rfl (lv_at hl 2 rfl) ?_
  refine z_get (v := .ref a1) hx hb hg hown hK hP i_X5 rfl 0 rfl 1 (by decide) mt74 e0 dX5_howMany_12 ?_
  refine lv_iload_n hx hb dX5_howMany_15 rfl (lv_at hl 0 rfl) ?_
  refine z_iald (v := 0) (j := 5) hx hb hK hP 1 rfl rfl (Nat.le_of_ble_eq_true rfl) (Nat.le_of_ble_eq_true rfl) e6 dX5_howMany_16 ?_
  refine lv_if_le (tgt := 24) hx hb dX5_howMany_17 (by decide) (fun _ => ?_) (fun c => absurd (by decide) c)
  refine lv_iconst (v := 0) hx hb dX5_howMany_24 (by decide) ?_
  refine lv_iadd hx hb dX5_howMany_25 ?_
  refine z_cst (v := 0) (by decide +kernel) ?_
  refine lv_istore_n (lv' := [(1, .int 0), (2, .int 5), (0, .ref a0)]) hx hb dX5_howMany_26 rfl hl (by decide) rfl (fun ls hl => ?_)
  refine lv_iinc (v := 6) (lv' := [(2, .int 6), (1, .int 0), (0, .ref a0)]) hx hb dX5_howMany_27 hl (k := 1) rfl (by decide +kernel) (by decide) rfl (fun ls hl => ?_)
  refine lv_goto (tgt := 4) hx hb dX5_howMany_30 (by decide) ?_
  refine lv_iload_n hx hb dX5_howMany_4 rfl (lv_at hl 0 rfl) ?_
  refine lv_bipush (v := 8) hx hb dX5_howMany_5 (by decide) ?_
  refine lv_icmp_ge (tgt := 33) hx hb dX5_howMany_7 (by decide) (fun c => absurd c (by decide)) (fun _ => ?_)
  refine lv_iload_n hx hb dX5_howMany_10 rfl (lv_at hl 1 rfl) ?_
  refine lv_aload_n hx hb dX5_howMany_11 rfl (lv_at hl 2 rfl) ?_
  refine z_get (v := .ref a1) hx hb hg hown hK hP i_X5 rfl 0 rfl 1 (by decide) mt74 e0 dX5_howMany_12 ?_
  refine lv_iload_n hx hb dX5_howMany_15 rfl (lv_at hl 0 rfl) ?_
  refine z_iald (v := 0) (j := 6) hx hb hK hP 1 rfl rfl (Nat.le_of_ble_eq_true rfl) (Nat.le_of_ble_eq_true rfl) e7 dX5_howMany_16 ?_
  refine lv_if_le (tgt := 24) hx hb dX5_howMany_17 (by decide) (fun _ => ?_) (fun c => absurd (by decide) c)
  refine lv_iconst (v := 0) hx hb dX5_howMany_24 (by decide) ?_
  refine lv_iadd hx hb dX5_howMany_25 ?_
  refine z_cst (v := 0) (by decide +kernel) ?_
  refine lv_istore_n (lv' := [(1, .int 0), (2, .int 6), (0, .ref a0)]) hx hb dX5_howMany_26 rfl hl (by decide) rfl (fun ls hl => ?_)
  refine lv_iinc (v := 7) (lv' := [(2, .int 7), (1, .int 0), (0, .ref a0)]) hx hb dX5_howMany_27 hl (k := 1) rfl (by decide +kernel) (by decide) rfl (fun ls hl => ?_)
  refine lv_goto (tgt := 4) hx hb dX5_howMany_30 (by decide) ?_
  refine lv_iload_n hx hb dX5_howMany_4 rfl (lv_at hl 0 rfl) ?_
  refine lv_bipush (v := 8) hx hb dX5_howMany_5 (by decide) ?_
  refine lv_icmp_ge (tgt := 33) hx hb dX5_howMany_7 (by decide) (fun c => absurd c (by decide)) (fun _ => ?_)
  refine lv_iload_n hx hb dX5_howMany_10 rfl (lv_at hl 1 rfl) ?_
  refine lv_aload_n hx hb dX5_howMany_11 rfl (lv_at hl 2 rfl) ?_
  refine z_get (v := .ref a1) hx hb hg hown hK hP i_X5 rfl 0 rfl 1 (by decide) mt74 e0 dX5_howMany_12 ?_
  refine lv_iload_n hx hb dX5_howMany_15 rfl (lv_at hl 0 rfl) ?_
  refine z_iald (v := 0) (j := 7) hx hb hK hP 1 rfl rfl (Nat.le_of_ble_eq_true rfl) (Nat.le_of_ble_eq_true rfl) e8 dX5_howMany_16 ?_
  refine lv_if_le (tgt := 24) hx hb dX5_howMany_17 (by decide) (fun _ => ?_) (fun c => absurd (by decide) c)
  refine lv_iconst (v := 0) hx hb dX5_howMany_24 (by decide) ?_
  refine lv_iadd hx hb dX5_howMany_25 ?_
  refine z_cst (v := 0) (by decide +kernel) ?_
  refine lv_istore_n (lv' := [(1, .int 0), (2, .int 7), (0, .ref a0)]) hx hb dX5_howMany_26 rfl hl (by decide) rfl (fun ls hl => ?_)
  refine lv_iinc (v := 8) (lv' := [(2, .int 8), (1, .int 0), (0, .ref a0)]) hx hb dX5_howMany_27 hl (k := 1) rfl (by decide +kernel) (by decide) rfl (fun ls hl => ?_)
  refine lv_goto (tgt := 4) hx hb dX5_howMany_30 (by decide) ?_
  refine lv_iload_n hx hb dX5_howMany_4 rfl (lv_at hl 0 rfl) ?_
  refine lv_bipush (v := 8) hx hb dX5_howMany_5 (by decide) ?_
  refine lv_icmp_ge (tgt := 33) hx hb dX5_howMany_7 (by decide) (fun _ => ?_) (fun c => absurd (by decide) c)
  refine lv_iload_n hx hb dX5_howMany_33 rfl (lv_at hl 1 rfl) ?_
  have hP9 : va_P K.1 classes [(a0, zO 4 6 g0), (a1, zI K 8 f1)] H := hP.sub [0, 1] rfl
  have hD9 : va_D A [(a0, zO 4 6 g0), (a1, zI K 8 f1)] := hD.sub [0, 1] (by decide) rfl
  exact z_iret hx hb hr (fun _ => 0) rfl hP9 hD9 hS (Nat.le_of_ble_eq_true rfl) (Nat.le_of_ble_eq_true rfl) hlocks dX5_howMany_34
set_option maxHeartbeats 4000000 in
set_option maxRecDepth 100000 in
theorem cX11_begin_1 (l : Launch) (K : zK) (sz : Nat) (a0 : Nat) (a1 : Nat) (a2 : Nat) (a3 : Nat) (a4 : Nat) (a5 : Nat) (a6 : Nat) (g0 : Nat → Value) (g1 : Nat → Value) (f3 : Nat → Int32) (g2 : Nat → Value) (f4 : Nat → Int32) (f5 : Nat → Int32) (f6 : Nat → Int64) (e0 : g0 4 = (.ref a1)) (e1 : g0 3 = (.ref a2)) (e2 : g1 1 = (.ref a3)) (e3 : g2 1 = (.ref a4)) (e4 : f4 0 = 0) (e5 : f4 1 = 0) (e6 : f4 2 = 0) (e7 : f4 3 = 0) (e8 : f4 4 = 0) (e9 : f4 5 = 0) (e10 : f4 6 = 0) (e11 : f4 7 = 0) (e12 : g1 2 = (.ref a5)) (e13 : g1 3 = (.ref a6)) : Met l yX11_begin (Cond.code yX11_begin cX11_begin 1 (some .int) :: WG) { frames := 3, cells := 0, slots := 0, locals := 66 } (zPre K [(a0, zO 9 9 g0), (a1, zO 4 6 g1), (a3, zI K 8 f3), (a2, zO 4 6 g2), (a4, zI K 8 f4), (a5, zI K 8 f5), (a6, zJ K 8 f6)] sz [.ref a0]) (va_Qi (fun (r : Int32) (_ : Nat → Nat) => r = 0) (zB K (va_A [(a0, zO 9 9 g0), (a1, zO 4 6 g1), (a3, zI K 8 f3), (a2, zO 4 6 g2), (a4, zI K 8 f4), (a5, zI K 8 f5), (a6, zJ K 8 f6)] sz) (fun u : Nat → Nat => [])) (va_A [(a0, zO 9 9 g0), (a1, zO 4 6 g1), (a3, zI K 8 f3), (a2, zO 4 6 g2), (a4, zI K 8 f4), (a5, zI K 8 f5), (a6, zJ K 8 f6)] sz)) 0 0 (va_A [(a0, zO 9 9 g0), (a1, zO 4 6 g1), (a3, zI K 8 f3), (a2, zO 4 6 g2), (a4, zI K 8 f4), (a5, zI K 8 f5), (a6, zJ K 8 f6)] sz) := by
  refine z_met (Qc := fun A => (va_Qi (fun (r : Int32) (_ : Nat → Nat) => r = 0) (zB K A (fun u : Nat → Nat => [])) A)) (by decide +kernel) (Nat.le_of_ble_eq_true rfl) ?_
  intro p e s m args below meth c A ls H hx hb hr hg hown hlocks hml hin hK hP hD hA hS hZ hl
  have hown : s.vm.findClass RX11 = some m.cls := hown
  have hl : lv_has ls 1 [(0, .ref a0)] := hl
  refine lv_aload_n hx hb dX11_begin_0 rfl (lv_at hl 0 rfl) ?_
  refine z_get (v := .ref a1) hx hb hg hown hK hP i_X11 rfl 0 rfl 4 (by decide) mt308 e0 dX11_begin_1 ?_
  refine lv_aload_n hx hb dX11_begin_4 rfl (lv_at hl 0 rfl) ?_
  refine z_get (v := .ref a2) hx hb hg hown hK hP i_X11 rfl 0 rfl 3 (by decide) mt307 e1 dX11_begin_5 ?_
  refine z_callv [(a1, zO 4 6 g1), (a3, zI K 8 f3), (a2, zO 4 6 g2), (a4, zI K 8 f4), (a5, zI K 8 f5), (a6, zJ K 8 f6)] [(a0, zO 9 9 g0)] [1, 2, 3, 4, 5, 6] [0] hP hD hS hA rfl rfl (by decide) (by decide) (by decide +kernel) 0 0 rfl rfl (fun hPc hDc hF => z_runV (As := [.ref a2]) (rest := []) ⟨hx, hb, hml, hown, hg⟩ (cX5_copy_1 l K H.size a1 a2 a3 a4 a5 a6 g1 f3 g2 f4 f5 f6 e2 e3 e4 e5 e6 e7 e8 e9 e10 e11 e12 e13) kV_RX11_117 hd_X5_copy rfl rfl ⟨(Nat.le_of_ble_eq_true rfl), (Nat.le_of_ble_eq_true rfl)⟩ hK hS hZ hPc hDc hF 0 rfl rfl rfl hl.1 rfl (Nat.le_of_ble_eq_true rfl) dX11_begin_8 ⟨(Nat.le_of_ble_eq_true rfl), (Nat.le_of_ble_eq_true rfl)⟩) (fun u1 H locs w2 hP hD hS => ?_)
  have hP : va_P K.1 classes [(a0, zO 9 9 g0), (a1, zO 4 6 g1), (a3, zI K 8 (va_up (va_up (va_up (va_up (va_up (va_up (va_up (va_up f3 0 0) 1 0) 2 0) 3 0) 4 0) 5 0) 6 0) 7 0)), (a2, zO 4 6 g2), (a4, zI K 8 f4), (a5, zI K 8 (va_up (va_up (va_up (va_up (va_up (va_up (va_up (va_up f5 0 0) 1 0) 2 0) 3 0) 4 0) 5 0) 6 0) 7 0)), (a6, zJ K 8 (va_up (va_up (va_up (va_up (va_up (va_up (va_up (va_up f6 0 0) 1 0) 2 0) 3 0) 4 0) 5 0) 6 0) 7 0))] H := hP
  have hD : va_D A [(a0, zO 9 9 g0), (a1, zO 4 6 g1), (a3, zI K 8 (va_up (va_up (va_up (va_up (va_up (va_up (va_up (va_up f3 0 0) 1 0) 2 0) 3 0) 4 0) 5 0) 6 0) 7 0)), (a2, zO 4 6 g2), (a4, zI K 8 f4), (a5, zI K 8 (va_up (va_up (va_up (va_up (va_up (va_up (va_up (va_up f5 0 0) 1 0) 2 0) 3 0) 4 0) 5 0) 6 0) 7 0)), (a6, zJ K 8 (va_up (va_up (va_up (va_up (va_up (va_up (va_up (va_up f6 0 0) 1 0) 2 0) 3 0) 4 0) 5 0) 6 0) 7 0))] := hD
  obtain ⟨ff4, y5⟩ : ∃ z, z = ((va_up (va_up (va_up (va_up (va_up (va_up (va_up (va_up f3 0 0) 1 0) 2 0) 3 0) 4 0) 5 0) 6 0) 7 0) : Nat → Int32) := ⟨_, rfl⟩
  rw [← y5] at hP hD
  obtain ⟨ff6, y7⟩ : ∃ z, z = ((va_up (va_up (va_up (va_up (va_up (va_up (va_up (va_up f5 0 0) 1 0) 2 0) 3 0) 4 0) 5 0) 6 0) 7 0) : Nat → Int32) := ⟨_, rfl⟩
  rw [← y7] at hP hD
  obtain ⟨ff8, y9⟩ : ∃ z, z = ((va_up (va_up (va_up (va_up (va_up (va_up (va_up (va_up f6 0 0) 1 0) 2 0) 3 0) 4 0) 5 0) 6 0) 7 0) : Nat → Int64) := ⟨_, rfl⟩
  rw [← y9] at hP hD
  refine lv_aload_n hx hb dX11_begin_11 rfl (lv_at hl 0 rfl) ?_
  refine lv_iconst (v := 1) hx hb dX11_begin_12 (by decide) ?_
  refine z_put hx hb hg hown hK hP hD hS i_X11 rfl tyX11_ok nmX11 0 rfl 8 (by decide) mt312 rfl rfl rfl dX11_begin_13 (fun gg10 H locs y11 hP hD hS => ?_)
  have hP : va_P K.1 classes [(a0, zO 9 9 gg10), (a1, zO 4 6 g1), (a3, zI K 8 ff4), (a2, zO 4 6 g2), (a4, zI K 8 f4), (a5, zI K 8 ff6), (a6, zJ K 8 ff8)] H := hP
  have hD : va_D A [(a0, zO 9 9 gg10), (a1, zO 4 6 g1), (a3, zI K 8 ff4), (a2, zO 4 6 g2), (a4, zI K 8 f4), (a5, zI K 8 ff6), (a6, zJ K 8 ff8)] := hD
  refine lv_aload_n hx hb dX11_begin_16 rfl (lv_at hl 0 rfl) ?_
  refine z_get (v := .ref a1) hx hb hg hown hK hP i_X11 rfl 0 rfl 4 (by decide) mt308 (zu_of y11 (zu_ne (by decide) e0)) dX11_begin_17 ?_
  refine z_calli [(a1, zO 4 6 g1), (a3, zI K 8 ff4)] [(a0, zO 9 9 gg10), (a2, zO 4 6 g2), (a4, zI K 8 f4), (a5, zI K 8 ff6), (a6, zJ K 8 ff8)] [1, 2] [0, 3, 4, 5, 6] hP hD hS hA rfl rfl (by decide) (by decide) (by decide +kernel) 0 0 rfl rfl (fun hPc hDc hF => z_runV (As := []) (rest := []) ⟨hx, hb, hml, hown, hg⟩ (cX5_howMany_1 l K H.size a1 a3 g1 ff4 e2 (zu_of y5 (zu_ne (by decide) (zu_ne (by decide) (zu_ne (by decide) (zu_ne (by decide) (zu_ne (by decide) (zu_ne (by decide) (zu_ne (by decide) zu_eq)))))))) (zu_of y5 (zu_ne (by decide) (zu_ne (by decide) (zu_ne (by decide) (zu_ne (by decide) (zu_ne (by decide) (zu_ne (by decide) zu_eq))))))) (zu_of y5 (zu_ne (by decide) (zu_ne (by decide) (zu_ne (by decide) (zu_ne (by decide) (zu_ne (by decide) zu_eq)))))) (zu_of y5 (zu_ne (by decide) (zu_ne (by decide) (zu_ne (by decide) (zu_ne (by decide) zu_eq))))) (zu_of y5 (zu_ne (by decide) (zu_ne (by decide) (zu_ne (by decide) zu_eq)))) (zu_of y5 (zu_ne (by decide) (zu_ne (by decide) zu_eq))) (zu_of y5 (zu_ne (by decide) zu_eq)) (zu_of y5 zu_eq)) kV_RX11_120 hd_X5_howMany rfl rfl ⟨(Nat.le_of_ble_eq_true rfl), (Nat.le_of_ble_eq_true rfl)⟩ hK hS hZ hPc hDc hF 0 rfl rfl rfl hl.1 rfl (Nat.le_of_ble_eq_true rfl) dX11_begin_20 ⟨(Nat.le_of_ble_eq_true rfl), (Nat.le_of_ble_eq_true rfl)⟩) (fun r14 u12 H locs w13 hP hD hS => ?_)
  subst w13
  have hP : va_P K.1 classes [(a0, zO 9 9 gg10), (a2, zO 4 6 g2), (a4, zI K 8 f4), (a5, zI K 8 ff6), (a6, zJ K 8 ff8), (a1, zO 4 6 g1), (a3, zI K 8 ff4)] H := hP
  have hD : va_D A [(a0, zO 9 9 gg10), (a2, zO 4 6 g2), (a4, zI K 8 f4), (a5, zI K 8 ff6), (a6, zJ K 8 ff8), (a1, zO 4 6 g1), (a3, zI K 8 ff4)] := hD
  subst y11
  subst y9
  subst y7
  subst y5
  have hP9 : va_P K.1 classes [] H := hP.sub [] rfl
  have hD9 : va_D A [] := hD.sub [] (by decide) rfl
  exact z_iret hx hb hr (fun _ => 0) rfl hP9 hD9 hS (Nat.le_of_ble_eq_true rfl) (Nat.le_of_ble_eq_true rfl) hlocks dX11_begin_23
set_option maxHeartbeats 4000000 in
set_option maxRecDepth 100000 in
theorem cX12_forgets_1 (l : Launch) (K : zK) (sz : Nat) (a0 : Nat) (a1 : Nat) (g0 : Nat → Value) (f1 : Nat → Int32) (e0 : g0 33 = (.ref a1)) : Met l yX12_forgets (Cond.code yX12_forgets cX12_forgets 3 none :: WG) { frames := 0, cells := 0, slots := 0, locals := 0 } (zPre K [(a0, zO 10 83 g0), (a1, zI K 60000 f1)] sz [.ref a0, .int 1]) (va_Qv (fun _ : Nat → Nat => True) (zB K (va_A [(a0, zO 10 83 g0), (a1, zI K 60000 f1)] sz) (fun u : Nat → Nat => [(a0, zO 10 83 g0), (a1, zI K 60000 (va_up (va_up (va_up (va_up (va_up (va_up (va_up (va_up f1 8 0) 9 0) 10 0) 11 0) 12 0) 13 0) 14 0) 15 0))])) (va_A [(a0, zO 10 83 g0), (a1, zI K 60000 f1)] sz)) 0 0 (va_A [(a0, zO 10 83 g0), (a1, zI K 60000 f1)] sz) := by
  refine z_met (Qc := fun A => (va_Qv (fun _ : Nat → Nat => True) (zB K A (fun u : Nat → Nat => [(a0, zO 10 83 g0), (a1, zI K 60000 (va_up (va_up (va_up (va_up (va_up (va_up (va_up (va_up f1 8 0) 9 0) 10 0) 11 0) 12 0) 13 0) 14 0) 15 0))])) A)) (by decide +kernel) (Nat.le_of_ble_eq_true rfl) ?_
  intro p e s m args below meth c A ls H hx hb hr hg hown hlocks hml hin hK hP hD hA hS hZ hl
  have hown : s.vm.findClass RX12 = some m.cls := hown
  have hl : lv_has ls 3 [(0, .ref a0), (1, .int 1)] := hl
  refine lv_iconst (v := 0) hx hb dX12_forgets_0 (by decide) ?_
  refine lv_istore_n (lv' := [(2, .int 0), (0, .ref a0), (1, .int 1)]) hx hb dX12_forgets_1 rfl hl (by decide) rfl (fun ls hl => ?_)
  refine lv_iload_n hx hb dX12_forgets_2 rfl (lv_at hl 0 rfl) ?_
  refine lv_bipush (v := 8) hx hb dX12_forgets_3 (by decide) ?_
  refine lv_icmp_ge (tgt := 26) hx hb dX12_forgets_5 (by decide) (fun c => absurd c (by decide)) (fun _ => ?_)
  refine lv_aload_n hx hb dX12_forgets_8 rfl (lv_at hl 1 rfl) ?_
  refine z_get (v := .ref a1) hx hb hg hown hK hP i_X12 rfl 0 rfl 33 (by decide) mt1313 e0 dX12_forgets_9 ?_
  refine lv_bipush (v := 8) hx hb dX12_forgets_12 (by decide) ?_
  refine lv_iload_n hx hb dX12_forgets_14 rfl (lv_at hl 2 rfl) ?_
  refine lv_imul hx hb dX12_forgets_15 ?_
  refine z_cst (v := 8) (by decide +kernel) ?_
  refine lv_iload_n hx hb dX12_forgets_16 rfl (lv_at hl 0 rfl) ?_
  refine lv_iadd hx hb dX12_forgets_17 ?_
  refine z_cst (v := 8) (by decide +kernel) ?_
  refine lv_iconst (v := 0) hx hb dX12_forgets_18 (by decide) ?_
  refine z_iast (j := 8) hx hb hK hP hD hS 1 rfl rfl (Nat.le_of_ble_eq_true rfl) (Nat.le_of_ble_eq_true rfl) dX12_forgets_19 (fun ff1 H locs y2 hP hD hS => ?_)
  have hP : va_P K.1 classes [(a0, zO 10 83 g0), (a1, zI K 60000 ff1)] H := hP
  have hD : va_D A [(a0, zO 10 83 g0), (a1, zI K 60000 ff1)] := hD
  refine lv_iinc (v := 1) (lv' := [(2, .int 1), (0, .ref a0), (1, .int 1)]) hx hb dX12_forgets_20 hl (k := 0) rfl (by decide +kernel) (by decide) rfl (fun ls hl => ?_)
  refine lv_goto (tgt := 2) hx hb dX12_forgets_23 (by decide) ?_
  refine lv_iload_n hx hb dX12_forgets_2 rfl (lv_at hl 0 rfl) ?_
  refine lv_bipush (v := 8) hx hb dX12_forgets_3 (by decide) ?_
  refine lv_icmp_ge (tgt := 26) hx hb dX12_forgets_5 (by decide) (fun c => absurd c (by decide)) (fun _ => ?_)
  refine lv_aload_n hx hb dX12_forgets_8 rfl (lv_at hl 1 rfl) ?_
  refine z_get (v := .ref a1) hx hb hg hown hK hP i_X12 rfl 0 rfl 33 (by decide) mt1313 e0 dX12_forgets_9 ?_
  refine lv_bipush (v := 8) hx hb dX12_forgets_12 (by decide) ?_
  refine lv_iload_n hx hb dX12_forgets_14 rfl (lv_at hl 2 rfl) ?_
  refine lv_imul hx hb dX12_forgets_15 ?_
  refine z_cst (v := 8) (by decide +kernel) ?_
  refine lv_iload_n hx hb dX12_forgets_16 rfl (lv_at hl 0 rfl) ?_
  refine lv_iadd hx hb dX12_forgets_17 ?_
  refine z_cst (v := 9) (by decide +kernel) ?_
  refine lv_iconst (v := 0) hx hb dX12_forgets_18 (by decide) ?_
  refine z_iast (j := 9) hx hb hK hP hD hS 1 rfl rfl (Nat.le_of_ble_eq_true rfl) (Nat.le_of_ble_eq_true rfl) dX12_forgets_19 (fun ff3 H locs y4 hP hD hS => ?_)
  have hP : va_P K.1 classes [(a0, zO 10 83 g0), (a1, zI K 60000 ff3)] H := hP
  have hD : va_D A [(a0, zO 10 83 g0), (a1, zI K 60000 ff3)] := hD
  refine lv_iinc (v := 2) (lv' := [(2, .int 2), (0, .ref a0), (1, .int 1)]) hx hb dX12_forgets_20 hl (k := 0) rfl (by decide +kernel) (by decide) rfl (fun ls hl => ?_)
  refine lv_goto (tgt := 2) hx hb dX12_forgets_23 (by decide) ?_
  refine lv_iload_n hx hb dX12_forgets_2 rfl (lv_at hl 0 rfl) ?_
  refine lv_bipush (v := 8) hx hb dX12_forgets_3 (by decide) ?_
  refine lv_icmp_ge (tgt := 26) hx hb dX12_forgets_5 (by decide) (fun c => absurd c (by decide)) (fun _ => ?_)
  refine lv_aload_n hx hb dX12_forgets_8 rfl (lv_at hl 1 rfl) ?_
  refine z_get (v := .ref a1) hx hb hg hown hK hP i_X12 rfl 0 rfl 33 (by decide) mt1313 e0 dX12_forgets_9 ?_
  refine lv_bipush (v := 8) hx hb dX12_forgets_12 (by decide) ?_
  refine lv_iload_n hx hb dX12_forgets_14 rfl (lv_at hl 2 rfl) ?_
  refine lv_imul hx hb dX12_forgets_15 ?_
  refine z_cst (v := 8) (by decide +kernel) ?_
  refine lv_iload_n hx hb dX12_forgets_16 rfl (lv_at hl 0 rfl) ?_
  refine lv_iadd hx hb dX12_forgets_17 ?_
  refine z_cst (v := 10) (by decide +kernel) ?_
  refine lv_iconst (v := 0) hx hb dX12_forgets_18 (by decide) ?_
  refine z_iast (j := 10) hx hb hK hP hD hS 1 rfl rfl (Nat.le_of_ble_eq_true rfl) (Nat.le_of_ble_eq_true rfl) dX12_forgets_19 (fun ff5 H locs y6 hP hD hS => ?_)
  have hP : va_P K.1 classes [(a0, zO 10 83 g0), (a1, zI K 60000 ff5)] H := hP
  have hD : va_D A [(a0, zO 10 83 g0), (a1, zI K 60000 ff5)] := hD
  refine lv_iinc (v := 3) (lv' := [(2, .int 3), (0, .ref a0), (1, .int 1)]) hx hb dX12_forgets_20 hl (k := 0) rfl (by decide +kernel) (by decide) rfl (fun ls hl => ?_)
  refine lv_goto (tgt := 2) hx hb dX12_forgets_23 (by decide) ?_
  refine lv_iload_n hx hb dX12_forgets_2 rfl (lv_at hl 0 rfl) ?_
  refine lv_bipush (v := 8) hx hb dX12_forgets_3 (by decide) ?_
  refine lv_icmp_ge (tgt := 26) hx hb dX12_forgets_5 (by decide) (fun c => absurd c (by decide)) (fun _ => ?_)
  refine lv_aload_n hx hb dX12_forgets_8 rfl (lv_at hl 1 rfl) ?_
  refine z_get (v := .ref a1) hx hb hg hown hK hP i_X12 rfl 0 rfl 33 (by decide) mt1313 e0 dX12_forgets_9 ?_
  refine lv_bipush (v := 8) hx hb dX12_forgets_12 (by decide) ?_
  refine lv_iload_n hx hb dX12_forgets_14 rfl (lv_at hl 2 rfl) ?_
  refine lv_imul hx hb dX12_forgets_15 ?_
  refine z_cst (v := 8) (by decide +kernel) ?_
  refine lv_iload_n hx hb dX12_forgets_16 rfl (lv_at hl 0 rfl) ?_
  refine lv_iadd hx hb dX12_forgets_17 ?_
  refine z_cst (v := 11) (by decide +kernel) ?_
  refine lv_iconst (v := 0) hx hb dX12_forgets_18 (by decide) ?_
  refine z_iast (j := 11) hx hb hK hP hD hS 1 rfl rfl (Nat.le_of_ble_eq_true rfl) (Nat.le_of_ble_eq_true rfl) dX12_forgets_19 (fun ff7 H locs y8 hP hD hS => ?_)
  have hP : va_P K.1 classes [(a0, zO 10 83 g0), (a1, zI K 60000 ff7)] H := hP
  have hD : va_D A [(a0, zO 10 83 g0), (a1, zI K 60000 ff7)] := hD
  refine lv_iinc (v := 4) (lv' := [(2, .int 4), (0, .ref a0), (1, .int 1)]) hx hb dX12_forgets_20 hl (k := 0) rfl (by decide +kernel) (by decide) rfl (fun ls hl => ?_)
  refine lv_goto (tgt := 2) hx hb dX12_forgets_23 (by decide) ?_
  refine lv_iload_n hx hb dX12_forgets_2 rfl (lv_at hl 0 rfl) ?_
  refine lv_bipush (v := 8) hx hb dX12_forgets_3 (by decide) ?_
  refine lv_icmp_ge (tgt := 26) hx hb dX12_forgets_5 (by decide) (fun c => absurd c (by decide)) (fun _ => ?_)
  refine lv_aload_n hx hb dX12_forgets_8 rfl (lv_at hl 1 rfl) ?_
  refine z_get (v := .ref a1) hx hb hg hown hK hP i_X12 rfl 0 rfl 33 (by decide) mt1313 e0 dX12_forgets_9 ?_
  refine lv_bipush (v := 8) hx hb dX12_forgets_12 (by decide) ?_
  refine lv_iload_n hx hb dX12_forgets_14 rfl (lv_at hl 2 rfl) ?_
  refine lv_imul hx hb dX12_forgets_15 ?_
  refine z_cst (v := 8) (by decide +kernel) ?_
  refine lv_iload_n hx hb dX12_forgets_16 rfl (lv_at hl 0 rfl) ?_
  refine lv_iadd hx hb dX12_forgets_17 ?_
  refine z_cst (v := 12) (by decide +kernel) ?_
  refine lv_iconst (v := 0) hx hb dX12_forgets_18 (by decide) ?_
  refine z_iast (j := 12) hx hb hK hP hD hS 1 rfl rfl (Nat.le_of_ble_eq_true rfl) (Nat.le_of_ble_eq_true rfl) dX12_forgets_19 (fun ff9 H locs y10 hP hD hS => ?_)
  have hP : va_P K.1 classes [(a0, zO 10 83 g0), (a1, zI K 60000 ff9)] H := hP
  have hD : va_D A [(a0, zO 10 83 g0), (a1, zI K 60000 ff9)] := hD
  refine lv_iinc (v := 5) (lv' := [(2, .int 5), (0, .ref a0), (1, .int 1)]) hx hb dX12_forgets_20 hl (k := 0) rfl (by decide +kernel) (by decide) rfl (fun ls hl => ?_)
  refine lv_goto (tgt := 2) hx hb dX12_forgets_23 (by decide) ?_
  refine lv_iload_n hx hb dX12_forgets_2 rfl (lv_at hl 0 rfl) ?_
  refine lv_bipush (v := 8) hx hb dX12_forgets_3 (by decide) ?_
  refine lv_icmp_ge (tgt := 26) hx hb dX12_forgets_5 (by decide) (fun c => absurd c (by decide)) (fun _ => ?_)
  refine lv_aload_n hx hb dX12_forgets_8 rfl (lv_at hl 1 rfl) ?_
  refine z_get (v := .ref a1) hx hb hg hown hK hP i_X12 rfl 0 rfl 33 (by decide) mt1313 e0 dX12_forgets_9 ?_
  refine lv_bipush (v := 8) hx hb dX12_forgets_12 (by decide) ?_
  refine lv_iload_n hx hb dX12_forgets_14 rfl (lv_at hl 2 rfl) ?_
  refine lv_imul hx hb dX12_forgets_15 ?_
  refine z_cst (v := 8) (by decide +kernel) ?_
  refine lv_iload_n hx hb dX12_forgets_16 rfl (lv_at hl 0 rfl) ?_
  refine lv_iadd hx hb dX12_forgets_17 ?_
  refine z_cst (v := 13) (by decide +kernel) ?_
  refine lv_iconst (v := 0) hx hb dX12_forgets_18 (by decide) ?_
  refine z_iast (j := 13) hx hb hK hP hD hS 1 rfl rfl (Nat.le_of_ble_eq_true rfl) (Nat.le_of_ble_eq_true rfl) dX12_forgets_19 (fun ff11 H locs y12 hP hD hS => ?_)
  have hP : va_P K.1 classes [(a0, zO 10 83 g0), (a1, zI K 60000 ff11)] H := hP
  have hD : va_D A [(a0, zO 10 83 g0), (a1, zI K 60000 ff11)] := hD
  refine lv_iinc (v := 6) (lv' := [(2, .int 6), (0, .ref a0), (1, .int 1)]) hx hb dX12_forgets_20 hl (k := 0) rfl (by decide +kernel) (by decide) rfl (fun ls hl => ?_)
  refine lv_goto (tgt := 2) hx hb dX12_forgets_23 (by decide) ?_
  refine lv_iload_n hx hb dX12_forgets_2 rfl (lv_at hl 0 rfl) ?_
  refine lv_bipush (v := 8) hx hb dX12_forgets_3 (by decide) ?_
  refine lv_icmp_ge (tgt := 26) hx hb dX12_forgets_5 (by decide) (fun c => absurd c (by decide)) (fun _ => ?_)
  refine lv_aload_n hx hb dX12_forgets_8 rfl (lv_at hl 1 rfl) ?_
  refine z_get (v := .ref a1) hx hb hg hown hK hP i_X12 rfl 0 rfl 33 (by decide) mt1313 e0 dX12_forgets_9 ?_
  refine lv_bipush (v := 8) hx hb dX12_forgets_12 (by decide) ?_
  refine lv_iload_n hx hb dX12_forgets_14 rfl (lv_at hl 2 rfl) ?_
  refine lv_imul hx hb dX12_forgets_15 ?_
  refine z_cst (v := 8) (by decide +kernel) ?_
  refine lv_iload_n hx hb dX12_forgets_16 rfl (lv_at hl 0 rfl) ?_
  refine lv_iadd hx hb dX12_forgets_17 ?_
  refine z_cst (v := 14) (by decide +kernel) ?_
  refine lv_iconst (v := 0) hx hb dX12_forgets_18 (by decide) ?_
  refine z_iast (j := 14) hx hb hK hP hD hS 1 rfl rfl (Nat.le_of_ble_eq_true rfl) (Nat.le_of_ble_eq_true rfl) dX12_forgets_19 (fun ff13 H locs y14 hP hD hS => ?_)
  have hP : va_P K.1 classes [(a0, zO 10 83 g0), (a1, zI K 60000 ff13)] H := hP
  have hD : va_D A [(a0, zO 10 83 g0), (a1, zI K 60000 ff13)] := hD
  refine lv_iinc (v := 7) (lv' := [(2, .int 7), (0, .ref a0), (1, .int 1)]) hx hb dX12_forgets_20 hl (k := 0) rfl (by decide +kernel) (by decide) rfl (fun ls hl => ?_)
  refine lv_goto (tgt := 2) hx hb dX12_forgets_23 (by decide) ?_
  refine lv_iload_n hx hb dX12_forgets_2 rfl (lv_at hl 0 rfl) ?_
  refine lv_bipush (v := 8) hx hb dX12_forgets_3 (by decide) ?_
  refine lv_icmp_ge (tgt := 26) hx hb dX12_forgets_5 (by decide) (fun c => absurd c (by decide)) (fun _ => ?_)
  refine lv_aload_n hx hb dX12_forgets_8 rfl (lv_at hl 1 rfl) ?_
  refine z_get (v := .ref a1) hx hb hg hown hK hP i_X12 rfl 0 rfl 33 (by decide) mt1313 e0 dX12_forgets_9 ?_
  refine lv_bipush (v := 8) hx hb dX12_forgets_12 (by decide) ?_
  refine lv_iload_n hx hb dX12_forgets_14 rfl (lv_at hl 2 rfl) ?_
  refine lv_imul hx hb dX12_forgets_15 ?_
  refine z_cst (v := 8) (by decide +kernel) ?_
  refine lv_iload_n hx hb dX12_forgets_16 rfl (lv_at hl 0 rfl) ?_
  refine lv_iadd hx hb dX12_forgets_17 ?_
  refine z_cst (v := 15) (by decide +kernel) ?_
  refine lv_iconst (v := 0) hx hb dX12_forgets_18 (by decide) ?_
  refine z_iast (j := 15) hx hb hK hP hD hS 1 rfl rfl (Nat.le_of_ble_eq_true rfl) (Nat.le_of_ble_eq_true rfl) dX12_forgets_19 (fun ff15 H locs y16 hP hD hS => ?_)
  have hP : va_P K.1 classes [(a0, zO 10 83 g0), (a1, zI K 60000 ff15)] H := hP
  have hD : va_D A [(a0, zO 10 83 g0), (a1, zI K 60000 ff15)] := hD
  refine lv_iinc (v := 8) (lv' := [(2, .int 8), (0, .ref a0), (1, .int 1)]) hx hb dX12_forgets_20 hl (k := 0) rfl (by decide +kernel) (by decide) rfl (fun ls hl => ?_)
  refine lv_goto (tgt := 2) hx hb dX12_forgets_23 (by decide) ?_
  refine lv_iload_n hx hb dX12_forgets_2 rfl (lv_at hl 0 rfl) ?_
  refine lv_bipush (v := 8) hx hb dX12_forgets_3 (by decide) ?_
  refine lv_icmp_ge (tgt := 26) hx hb dX12_forgets_5 (by decide) (fun _ => ?_) (fun c => absurd (by decide) c)
  subst y16
  subst y14
  subst y12
  subst y10
  subst y8
  subst y6
  subst y4
  subst y2
  have hP9 : va_P K.1 classes [(a0, zO 10 83 g0), (a1, zI K 60000 (va_up (va_up (va_up (va_up (va_up (va_up (va_up (va_up f1 8 0) 9 0) 10 0) 11 0) 12 0) 13 0) 14 0) 15 0))] H := hP.sub [0, 1] rfl
  have hD9 : va_D A [(a0, zO 10 83 g0), (a1, zI K 60000 (va_up (va_up (va_up (va_up (va_up (va_up (va_up (va_up f1 8 0) 9 0) 10 0) 11 0) 12 0) 13 0) 14 0) 15 0))] := hD.sub [0, 1] (by decide) rfl
  exact z_vret hx hb hr (fun _ => 0) trivial hP9 hD9 hS (Nat.le_of_ble_eq_true rfl) (Nat.le_of_ble_eq_true rfl) hlocks dX12_forgets_26
set_option maxHeartbeats 4000000 in
set_option maxRecDepth 100000 in
theorem cX12_begin_1 (l : Launch) (K : zK) (sz : Nat) (a0 : Nat) (a1 : Nat) (a2 : Nat) (a3 : Nat) (a4 : Nat) (a5 : Nat) (a6 : Nat) (a7 : Nat) (a8 : Nat) (g0 : Nat → Value) (f1 : Nat → Int32) (f2 : Nat → Int32) (f3 : Nat → Int32) (f4 : Nat → Int32) (f5 : Nat → Int32) (f6 : Nat → Int32) (f7 : Nat → Int32) (f8 : Nat → Int32) (e0 : g0 14 = (.ref a1)) (e1 : f1 0 = 0) (e2 : f1 1 = 0) (e3 : f1 2 = 0) (e4 : f1 3 = 0) (e5 : f1 4 = 0) (e6 : f1 5 = 0) (e7 : f1 6 = 0) (e8 : f1 7 = 0) (e9 : g0 8 = (.ref a2)) (e10 : g0 9 = (.ref a3)) (e11 : g0 10 = (.ref a4)) (e12 : g0 11 = (.ref a5)) (e13 : g0 12 = (.ref a6)) (e14 : g0 13 = (.ref a7)) (e15 : g0 33 = (.ref a8)) : Met l yX12_begin (Cond.code yX12_begin cX12_begin 4 (some .int) :: WG) { frames := 1, cells := 0, slots := 0, locals := 22 } (zPre K [(a0, zO 10 83 g0), (a1, zI K 16 f1), (a2, zI K 1290 f2), (a3, zI K 1290 f3), (a4, zI K 1290 f4), (a5, zI K 1290 f5), (a6, zI K 1290 f6), (a7, zI K 1290 f7), (a8, zI K 60000 f8)] sz [.ref a0]) (va_Qi (fun (r : Int32) (_ : Nat → Nat) => r = 0) (zB K (va_A [(a0, zO 10 83 g0), (a1, zI K 16 f1), (a2, zI K 1290 f2), (a3, zI K 1290 f3), (a4, zI K 1290 f4), (a5, zI K 1290 f5), (a6, zI K 1290 f6), (a7, zI K 1290 f7), (a8, zI K 60000 f8)] sz) (fun u : Nat → Nat => [(a0, zO 10 83 (va_up (va_up g0 81 (.int 0)) 15 (.int 1)))])) (va_A [(a0, zO 10 83 g0), (a1, zI K 16 f1), (a2, zI K 1290 f2), (a3, zI K 1290 f3), (a4, zI K 1290 f4), (a5, zI K 1290 f5), (a6, zI K 1290 f6), (a7, zI K 1290 f7), (a8, zI K 60000 f8)] sz)) 0 0 (va_A [(a0, zO 10 83 g0), (a1, zI K 16 f1), (a2, zI K 1290 f2), (a3, zI K 1290 f3), (a4, zI K 1290 f4), (a5, zI K 1290 f5), (a6, zI K 1290 f6), (a7, zI K 1290 f7), (a8, zI K 60000 f8)] sz) := by
  refine z_met (Qc := fun A => (va_Qi (fun (r : Int32) (_ : Nat → Nat) => r = 0) (zB K A (fun u : Nat → Nat => [(a0, zO 10 83 (va_up (va_up g0 81 (.int 0)) 15 (.int 1)))])) A)) (by decide +kernel) (Nat.le_of_ble_eq_true rfl) ?_
  intro p e s m args below meth c A ls H hx hb hr hg hown hlocks hml hin hK hP hD hA hS hZ hl
  have hown : s.vm.findClass RX12 = some m.cls := hown
  have hl : lv_has ls 4 [(0, .ref a0)] := hl
  refine lv_aload_n hx hb dX12_begin_0 rfl (lv_at hl 0 rfl) ?_
  refine lv_iconst (v := 0) hx hb dX12_begin_1 (by decide) ?_
  refine z_put hx hb hg hown hK hP hD hS i_X12 rfl tyX12_ok nmX12 0 rfl 81 (by decide) mt1361 rfl rfl rfl dX12_begin_2 (fun gg1 H locs y2 hP hD hS => ?_)
  have hP : va_P K.1 classes [(a0, zO 10 83 gg1), (a1, zI K 16 f1), (a2, zI K 1290 f2), (a3, zI K 1290 f3), (a4, zI K 1290 f4), (a5, zI K 1290 f5), (a6, zI K 1290 f6), (a7, zI K 1290 f7), (a8, zI K 60000 f8)] H := hP
  have hD : va_D A [(a0, zO 10 83 gg1), (a1, zI K 16 f1), (a2, zI K 1290 f2), (a3, zI K 1290 f3), (a4, zI K 1290 f4), (a5, zI K 1290 f5), (a6, zI K 1290 f6), (a7, zI K 1290 f7), (a8, zI K 60000 f8)] := hD
  refine lv_iconst (v := 0) hx hb dX12_begin_5 (by decide) ?_
  refine lv_istore_n (lv' := [(1, .int 0), (0, .ref a0)]) hx hb dX12_begin_6 rfl hl (by decide) rfl (fun ls hl => ?_)
  refine lv_iconst (v := 0) hx hb dX12_begin_7 (by decide) ?_
  refine lv_istore_n (lv' := [(2, .int 0), (1, .int 0), (0, .ref a0)]) hx hb dX12_begin_8 rfl hl (by decide) rfl (fun ls hl => ?_)
  refine lv_iload_n hx hb dX12_begin_9 rfl (lv_at hl 0 rfl) ?_
  refine lv_bipush (v := 8) hx hb dX12_begin_10 (by decide) ?_
  refine lv_icmp_ge (tgt := 53) hx hb dX12_begin_12 (by decide) (fun c => absurd c (by decide)) (fun _ => ?_)
  refine lv_aload_n hx hb dX12_begin_15 rfl (lv_at hl 2 rfl) ?_
  refine z_get (v := .ref a1) hx hb hg hown hK hP i_X12 rfl 0 rfl 14 (by decide) mt1294 (zu_of y2 (zu_ne (by decide) e0)) dX12_begin_16 ?_
  refine lv_bipush (v := 8) hx hb dX12_begin_19 (by decide) ?_
  refine lv_iload_n hx hb dX12_begin_21 rfl (lv_at hl 0 rfl) ?_
  refine lv_iadd hx hb dX12_begin_22 ?_
  refine z_cst (v := 8) (by decide +kernel) ?_
  refine lv_aload_n hx hb dX12_begin_23 rfl (lv_at hl 2 rfl) ?_
  refine z_get (v := .ref a1) hx hb hg hown hK hP i_X12 rfl 0 rfl 14 (by decide) mt1294 (zu_of y2 (zu_ne (by decide) e0)) dX12_begin_24 ?_
  refine lv_iload_n hx hb dX12_begin_27 rfl (lv_at hl 0 rfl) ?_
  refine z_iald (v := 0) (j := 0) hx hb hK hP 1 rfl rfl (Nat.le_of_ble_eq_true rfl) (Nat.le_of_ble_eq_true rfl) e1 dX12_begin_28 ?_
  refine z_iast (j := 8) hx hb hK hP hD hS 1 rfl rfl (Nat.le_of_ble_eq_true rfl) (Nat.le_of_ble_eq_true rfl) dX12_begin_29 (fun ff3 H locs y4 hP hD hS => ?_)
  have hP : va_P K.1 classes [(a0, zO 10 83 gg1), (a1, zI K 16 ff3), (a2, zI K 1290 f2), (a3, zI K 1290 f3), (a4, zI K 1290 f4), (a5, zI K 1290 f5), (a6, zI K 1290 f6), (a7, zI K 1290 f7), (a8, zI K 60000 f8)] H := hP
  have hD : va_D A [(a0, zO 10 83 gg1), (a1, zI K 16 ff3), (a2, zI K 1290 f2), (a3, zI K 1290 f3), (a4, zI K 1290 f4), (a5, zI K 1290 f5), (a6, zI K 1290 f6), (a7, zI K 1290 f7), (a8, zI K 60000 f8)] := hD
  refine lv_iload_n hx hb dX12_begin_30 rfl (lv_at hl 1 rfl) ?_
  refine lv_aload_n hx hb dX12_begin_31 rfl (lv_at hl 2 rfl) ?_
  refine z_get (v := .ref a1) hx hb hg hown hK hP i_X12 rfl 0 rfl 14 (by decide) mt1294 (zu_of y2 (zu_ne (by decide) e0)) dX12_begin_32 ?_
  refine lv_iload_n hx hb dX12_begin_35 rfl (lv_at hl 0 rfl) ?_
  refine z_iald (v := 0) (j := 0) hx hb hK hP 1 rfl rfl (Nat.le_of_ble_eq_true rfl) (Nat.le_of_ble_eq_true rfl) (zu_of y4 (zu_ne (by decide) e1)) dX12_begin_36 ?_
  refine lv_if_le (tgt := 44) hx hb dX12_begin_37 (by decide) (fun _ => ?_) (fun c => absurd (by decide) c)
  refine lv_iconst (v := 0) hx hb dX12_begin_44 (by decide) ?_
  refine lv_iadd hx hb dX12_begin_45 ?_
  refine z_cst (v := 0) (by decide +kernel) ?_
  refine lv_istore_n (lv' := [(1, .int 0), (2, .int 0), (0, .ref a0)]) hx hb dX12_begin_46 rfl hl (by decide) rfl (fun ls hl => ?_)
  refine lv_iinc (v := 1) (lv' := [(2, .int 1), (1, .int 0), (0, .ref a0)]) hx hb dX12_begin_47 hl (k := 1) rfl (by decide +kernel) (by decide) rfl (fun ls hl => ?_)
  refine lv_goto (tgt := 9) hx hb dX12_begin_50 (by decide) ?_
  refine lv_iload_n hx hb dX12_begin_9 rfl (lv_at hl 0 rfl) ?_
  refine lv_bipush (v := 8) hx hb dX12_begin_10 (by decide) ?_
  refine lv_icmp_ge (tgt := 53) hx hb dX12_begin_12 (by decide) (fun c => absurd c (by decide)) (fun _ => ?_)
  refine lv_aload_n hx hb dX12_begin_15 rfl (lv_at hl 2 rfl) ?_
  refine z_get (v := .ref a1) hx hb hg hown hK hP i_X12 rfl 0 rfl 14 (by decide) mt1294 (zu_of y2 (zu_ne (by decide) e0)) dX12_begin_16 ?_
  refine lv_bipush (v := 8) hx hb dX12_begin_19 (by decide) ?_
  refine lv_iload_n hx hb dX12_begin_21 rfl (lv_at hl 0 rfl) ?_
  refine lv_iadd hx hb dX12_begin_22 ?_
  refine z_cst (v := 9) (by decide +kernel) ?_
  refine lv_aload_n hx hb dX12_begin_23 rfl (lv_at hl 2 rfl) ?_
  refine z_get (v := .ref a1) hx hb hg hown hK hP i_X12 rfl 0 rfl 14 (by decide) mt1294 (zu_of y2 (zu_ne (by decide) e0)) dX12_begin_24 ?_
  refine lv_iload_n hx hb dX12_begin_27 rfl (lv_at hl 0 rfl) ?_
  refine z_iald (v := 0) (j := 1) hx hb hK hP 1 rfl rfl (Nat.le_of_ble_eq_true rfl) (Nat.le_of_ble_eq_true rfl) (zu_of y4 (zu_ne (by decide) e2)) dX12_begin_28 ?_
  refine z_iast (j := 9) hx hb hK hP hD hS 1 rfl rfl (Nat.le_of_ble_eq_true rfl) (Nat.le_of_ble_eq_true rfl) dX12_begin_29 (fun ff5 H locs y6 hP hD hS => ?_)
  have hP : va_P K.1 classes [(a0, zO 10 83 gg1), (a1, zI K 16 ff5), (a2, zI K 1290 f2), (a3, zI K 1290 f3), (a4, zI K 1290 f4), (a5, zI K 1290 f5), (a6, zI K 1290 f6), (a7, zI K 1290 f7), (a8, zI K 60000 f8)] H := hP
  have hD : va_D A [(a0, zO 10 83 gg1), (a1, zI K 16 ff5), (a2, zI K 1290 f2), (a3, zI K 1290 f3), (a4, zI K 1290 f4), (a5, zI K 1290 f5), (a6, zI K 1290 f6), (a7, zI K 1290 f7), (a8, zI K 60000 f8)] := hD
  refine lv_iload_n hx hb dX12_begin_30 rfl (lv_at hl 1 rfl) ?_
  refine lv_aload_n hx hb dX12_begin_31 rfl (lv_at hl 2 rfl) ?_
  refine z_get (v := .ref a1) hx hb hg hown hK hP i_X12 rfl 0 rfl 14 (by decide) mt1294 (zu_of y2 (zu_ne (by decide) e0)) dX12_begin_32 ?_
  refine lv_iload_n hx hb dX12_begin_35 rfl (lv_at hl 0 rfl) ?_
  refine z_iald (v := 0) (j := 1) hx hb hK hP 1 rfl rfl (Nat.le_of_ble_eq_true rfl) (Nat.le_of_ble_eq_true rfl) (zu_of y6 (zu_ne (by decide) (zu_of y4 (zu_ne (by decide) e2)))) dX12_begin_36 ?_
  refine lv_if_le (tgt := 44) hx hb dX12_begin_37 (by decide) (fun _ => ?_) (fun c => absurd (by decide) c)
  refine lv_iconst (v := 0) hx hb dX12_begin_44 (by decide) ?_
  refine lv_iadd hx hb dX12_begin_45 ?_
  refine z_cst (v := 0) (by decide +kernel) ?_
  refine lv_istore_n (lv' := [(1, .int 0), (2, .int 1), (0, .ref a0)]) hx hb dX12_begin_46 rfl hl (by decide) rfl (fun ls hl => ?_)
  refine lv_iinc (v := 2) (lv' := [(2, .int 2), (1, .int 0), (0, .ref a0)]) hx hb dX12_begin_47 hl (k := 1) rfl (by decide +kernel) (by decide) rfl (fun ls hl => ?_)
  refine lv_goto (tgt := 9) hx hb dX12_begin_50 (by decide) ?_
  refine lv_iload_n hx hb dX12_begin_9 rfl (lv_at hl 0 rfl) ?_
  refine lv_bipush (v := 8) hx hb dX12_begin_10 (by decide) ?_
  refine lv_icmp_ge (tgt := 53) hx hb dX12_begin_12 (by decide) (fun c => absurd c (by decide)) (fun _ => ?_)
  refine lv_aload_n hx hb dX12_begin_15 rfl (lv_at hl 2 rfl) ?_
  refine z_get (v := .ref a1) hx hb hg hown hK hP i_X12 rfl 0 rfl 14 (by decide) mt1294 (zu_of y2 (zu_ne (by decide) e0)) dX12_begin_16 ?_
  refine lv_bipush (v := 8) hx hb dX12_begin_19 (by decide) ?_
  refine lv_iload_n hx hb dX12_begin_21 rfl (lv_at hl 0 rfl) ?_
  refine lv_iadd hx hb dX12_begin_22 ?_
  refine z_cst (v := 10) (by decide +kernel) ?_
  refine lv_aload_n hx hb dX12_begin_23 rfl (lv_at hl 2 rfl) ?_
  refine z_get (v := .ref a1) hx hb hg hown hK hP i_X12 rfl 0 rfl 14 (by decide) mt1294 (zu_of y2 (zu_ne (by decide) e0)) dX12_begin_24 ?_
  refine lv_iload_n hx hb dX12_begin_27 rfl (lv_at hl 0 rfl) ?_
  refine z_iald (v := 0) (j := 2) hx hb hK hP 1 rfl rfl (Nat.le_of_ble_eq_true rfl) (Nat.le_of_ble_eq_true rfl) (zu_of y6 (zu_ne (by decide) (zu_of y4 (zu_ne (by decide) e3)))) dX12_begin_28 ?_
  refine z_iast (j := 10) hx hb hK hP hD hS 1 rfl rfl (Nat.le_of_ble_eq_true rfl) (Nat.le_of_ble_eq_true rfl) dX12_begin_29 (fun ff7 H locs y8 hP hD hS => ?_)
  have hP : va_P K.1 classes [(a0, zO 10 83 gg1), (a1, zI K 16 ff7), (a2, zI K 1290 f2), (a3, zI K 1290 f3), (a4, zI K 1290 f4), (a5, zI K 1290 f5), (a6, zI K 1290 f6), (a7, zI K 1290 f7), (a8, zI K 60000 f8)] H := hP
  have hD : va_D A [(a0, zO 10 83 gg1), (a1, zI K 16 ff7), (a2, zI K 1290 f2), (a3, zI K 1290 f3), (a4, zI K 1290 f4), (a5, zI K 1290 f5), (a6, zI K 1290 f6), (a7, zI K 1290 f7), (a8, zI K 60000 f8)] := hD
  refine lv_iload_n hx hb dX12_begin_30 rfl (lv_at hl 1 rfl) ?_
  refine lv_aload_n hx hb dX12_begin_31 rfl (lv_at hl 2 rfl) ?_
  refine z_get (v := .ref a1) hx hb hg hown hK hP i_X12 rfl 0 rfl 14 (by decide) mt1294 (zu_of y2 (zu_ne (by decide) e0)) dX12_begin_32 ?_
  refine lv_iload_n hx hb dX12_begin_35 rfl (lv_at hl 0 rfl) ?_
  refine z_iald (v := 0) (j := 2) hx hb hK hP 1 rfl rfl (Nat.le_of_ble_eq_true rfl) (Nat.le_of_ble_eq_true rfl) (zu_of y8 (zu_ne (by decide) (zu_of y6 (zu_ne (by decide) (zu_of y4 (zu_ne (by decide) e3)))))) dX12_begin_36 ?_
  refine lv_if_le (tgt := 44) hx hb dX12_begin_37 (by decide) (fun _ => ?_) (fun c => absurd (by decide) c)
  refine lv_iconst (v := 0) hx hb dX12_begin_44 (by decide) ?_
  refine lv_iadd hx hb dX12_begin_45 ?_
  refine z_cst (v := 0) (by decide +kernel) ?_
  refine lv_istore_n (lv' := [(1, .int 0), (2, .int 2), (0, .ref a0)]) hx hb dX12_begin_46 rfl hl (by decide) rfl (fun ls hl => ?_)
  refine lv_iinc (v := 3) (lv' := [(2, .int 3), (1, .int 0), (0, .ref a0)]) hx hb dX12_begin_47 hl (k := 1) rfl (by decide +kernel) (by decide) rfl (fun ls hl => ?_)
  refine lv_goto (tgt := 9) hx hb dX12_begin_50 (by decide) ?_
  refine lv_iload_n hx hb dX12_begin_9 rfl (lv_at hl 0 rfl) ?_
  refine lv_bipush (v := 8) hx hb dX12_begin_10 (by decide) ?_
  refine lv_icmp_ge (tgt := 53) hx hb dX12_begin_12 (by decide) (fun c => absurd c (by decide)) (fun _ => ?_)
  refine lv_aload_n hx hb dX12_begin_15 rfl (lv_at hl 2 rfl) ?_
  refine z_get (v := .ref a1) hx hb hg hown hK hP i_X12 rfl 0 rfl 14 (by decide) mt1294 (zu_of y2 (zu_ne (by decide) e0)) dX12_begin_16 ?_
  refine lv_bipush (v := 8) hx hb dX12_begin_19 (by decide) ?_
  refine lv_iload_n hx hb dX12_begin_21 rfl (lv_at hl 0 rfl) ?_
  refine lv_iadd hx hb dX12_begin_22 ?_
  refine z_cst (v := 11) (by decide +kernel) ?_
  refine lv_aload_n hx hb dX12_begin_23 rfl (lv_at hl 2 rfl) ?_
  refine z_get (v := .ref a1) hx hb hg hown hK hP i_X12 rfl 0 rfl 14 (by decide) mt1294 (zu_of y2 (zu_ne (by decide) e0)) dX12_begin_24 ?_
  refine lv_iload_n hx hb dX12_begin_27 rfl (lv_at hl 0 rfl) ?_
  refine z_iald (v := 0) (j := 3) hx hb hK hP 1 rfl rfl (Nat.le_of_ble_eq_true rfl) (Nat.le_of_ble_eq_true rfl) (zu_of y8 (zu_ne (by decide) (zu_of y6 (zu_ne (by decide) (zu_of y4 (zu_ne (by decide) e4)))))) dX12_begin_28 ?_
  refine z_iast (j := 11) hx hb hK hP hD hS 1 rfl rfl (Nat.le_of_ble_eq_true rfl) (Nat.le_of_ble_eq_true rfl) dX12_begin_29 (fun ff9 H locs y10 hP hD hS => ?_)
  have hP : va_P K.1 classes [(a0, zO 10 83 gg1), (a1, zI K 16 ff9), (a2, zI K 1290 f2), (a3, zI K 1290 f3), (a4, zI K 1290 f4), (a5, zI K 1290 f5), (a6, zI K 1290 f6), (a7, zI K 1290 f7), (a8, zI K 60000 f8)] H := hP
  have hD : va_D A [(a0, zO 10 83 gg1), (a1, zI K 16 ff9), (a2, zI K 1290 f2), (a3, zI K 1290 f3), (a4, zI K 1290 f4), (a5, zI K 1290 f5), (a6, zI K 1290 f6), (a7, zI K 1290 f7), (a8, zI K 60000 f8)] := hD
  refine lv_iload_n hx hb dX12_begin_30 rfl (lv_at hl 1 rfl) ?_
  refine lv_aload_n hx hb dX12_begin_31 rfl (lv_at hl 2 rfl) ?_
  refine z_get (v := .ref a1) hx hb hg hown hK hP i_X12 rfl 0 rfl 14 (by decide) mt1294 (zu_of y2 (zu_ne (by decide) e0)) dX12_begin_32 ?_
  refine lv_iload_n hx hb dX12_begin_35 rfl (lv_at hl 0 rfl) ?_
  refine z_iald (v := 0) (j := 3) hx hb hK hP 1 rfl rfl (Nat.le_of_ble_eq_true rfl) (Nat.le_of_ble_eq_true rfl) (zu_of y10 (zu_ne (by decide) (zu_of y8 (zu_ne (by decide) (zu_of y6 (zu_ne (by decide) (zu_of y4 (zu_ne (by decide) e4)))))))) dX12_begin_36 ?_
  refine lv_if_le (tgt := 44) hx hb dX12_begin_37 (by decide) (fun _ => ?_) (fun c => absurd (by decide) c)
  refine lv_iconst (v := 0) hx hb dX12_begin_44 (by decide) ?_
  refine lv_iadd hx hb dX12_begin_45 ?_
  refine z_cst (v := 0) (by decide +kernel) ?_
  refine lv_istore_n (lv' := [(1, .int 0), (2, .int 3), (0, .ref a0)]) hx hb dX12_begin_46 rfl hl (by decide) rfl (fun ls hl => ?_)
  refine lv_iinc (v := 4) (lv' := [(2, .int 4), (1, .int 0), (0, .ref a0)]) hx hb dX12_begin_47 hl (k := 1) rfl (by decide +kernel) (by decide) rfl (fun ls hl => ?_)
  refine lv_goto (tgt := 9) hx hb dX12_begin_50 (by decide) ?_
  refine lv_iload_n hx hb dX12_begin_9 rfl (lv_at hl 0 rfl) ?_
  refine lv_bipush (v := 8) hx hb dX12_begin_10 (by decide) ?_
  refine lv_icmp_ge (tgt := 53) hx hb dX12_begin_12 (by decide) (fun c => absurd c (by decide)) (fun _ => ?_)
  refine lv_aload_n hx hb dX12_begin_15 rfl (lv_at hl 2 rfl) ?_
  refine z_get (v := .ref a1) hx hb hg hown hK hP i_X12 rfl 0 rfl 14 (by decide) mt1294 (zu_of y2 (zu_ne (by decide) e0)) dX12_begin_16 ?_
  refine lv_bipush (v := 8) hx hb dX12_begin_19 (by decide) ?_
  refine lv_iload_n hx hb dX12_begin_21 rfl (lv_at hl 0 rfl) ?_
  refine lv_iadd hx hb dX12_begin_22 ?_
  refine z_cst (v := 12) (by decide +kernel) ?_
  refine lv_aload_n hx hb dX12_begin_23 rfl (lv_at hl 2 rfl) ?_
  refine z_get (v := .ref a1) hx hb hg hown hK hP i_X12 rfl 0 rfl 14 (by decide) mt1294 (zu_of y2 (zu_ne (by decide) e0)) dX12_begin_24 ?_
  refine lv_iload_n hx hb dX12_begin_27 rfl (lv_at hl 0 rfl) ?_
  refine z_iald (v := 0) (j := 4) hx hb hK hP 1 rfl rfl (Nat.le_of_ble_eq_true rfl) (Nat.le_of_ble_eq_true rfl) (zu_of y10 (zu_ne (by decide) (zu_of y8 (zu_ne (by decide) (zu_of y6 (zu_ne (by decide) (zu_of y4 (zu_ne (by decide) e5)))))))) dX12_begin_28 ?_
  refine z_iast (j := 12) hx hb hK hP hD hS 1 rfl rfl (Nat.le_of_ble_eq_true rfl) (Nat.le_of_ble_eq_true rfl) dX12_begin_29 (fun ff11 H locs y12 hP hD hS => ?_)
  have hP : va_P K.1 classes [(a0, zO 10 83 gg1), (a1, zI K 16 ff11), (a2, zI K 1290 f2), (a3, zI K 1290 f3), (a4, zI K 1290 f4), (a5, zI K 1290 f5), (a6, zI K 1290 f6), (a7, zI K 1290 f7), (a8, zI K 60000 f8)] H := hP
  have hD : va_D A [(a0, zO 10 83 gg1), (a1, zI K 16 ff11), (a2, zI K 1290 f2), (a3, zI K 1290 f3), (a4, zI K 1290 f4), (a5, zI K 1290 f5), (a6, zI K 1290 f6), (a7, zI K 1290 f7), (a8, zI K 60000 f8)] := hD
  refine lv_iload_n hx hb dX12_begin_30 rfl (lv_at hl 1 rfl) ?_
  refine lv_aload_n hx hb dX12_begin_31 rfl (lv_at hl 2 rfl) ?_
  refine z_get (v := .ref a1) hx hb hg hown hK hP i_X12 rfl 0 rfl 14 (by decide) mt1294 (zu_of y2 (zu_ne (by decide) e0)) dX12_begin_32 ?_
  refine lv_iload_n hx hb dX12_begin_35 rfl (lv_at hl 0 rfl) ?_
  refine z_iald (v := 0) (j := 4) hx hb hK hP 1 rfl rfl (Nat.le_of_ble_eq_true rfl) (Nat.le_of_ble_eq_true rfl) (zu_of y12 (zu_ne (by decide) (zu_of y10 (zu_ne (by decide) (zu_of y8 (zu_ne (by decide) (zu_of y6 (zu_ne (by decide) (zu_of y4 (zu_ne (by decide) e5)))))))))) dX12_begin_36 ?_
  refine lv_if_le (tgt := 44) hx hb dX12_begin_37 (by decide) (fun _ => ?_) (fun c => absurd (by decide) c)
  refine lv_iconst (v := 0) hx hb dX12_begin_44 (by decide) ?_
  refine lv_iadd hx hb dX12_begin_45 ?_
  refine z_cst (v := 0) (by decide +kernel) ?_
  refine lv_istore_n (lv' := [(1, .int 0), (2, .int 4), (0, .ref a0)]) hx hb dX12_begin_46 rfl hl (by decide) rfl (fun ls hl => ?_)
  refine lv_iinc (v := 5) (lv' := [(2, .int 5), (1, .int 0), (0, .ref a0)]) hx hb dX12_begin_47 hl (k := 1) rfl (by decide +kernel) (by decide) rfl (fun ls hl => ?_)
  refine lv_goto (tgt := 9) hx hb dX12_begin_50 (by decide) ?_
  refine lv_iload_n hx hb dX12_begin_9 rfl (lv_at hl 0 rfl) ?_
  refine lv_bipush (v := 8) hx hb dX12_begin_10 (by decide) ?_
  refine lv_icmp_ge (tgt := 53) hx hb dX12_begin_12 (by decide) (fun c => absurd c (by decide)) (fun _ => ?_)
  refine lv_aload_n hx hb dX12_begin_15 rfl (lv_at hl 2 rfl) ?_
  refine z_get (v := .ref a1) hx hb hg hown hK hP i_X12 rfl 0 rfl 14 (by decide) mt1294 (zu_of y2 (zu_ne (by decide) e0)) dX12_begin_16 ?_
  refine lv_bipush (v := 8) hx hb dX12_begin_19 (by decide) ?_
  refine lv_iload_n hx hb dX12_begin_21 rfl (lv_at hl 0 rfl) ?_
  refine lv_iadd hx hb dX12_begin_22 ?_
  refine z_cst (v := 13) (by decide +kernel) ?_
  refine lv_aload_n hx hb dX12_begin_23 rfl (lv_at hl 2 rfl) ?_
  refine z_get (v := .ref a1) hx hb hg hown hK hP i_X12 rfl 0 rfl 14 (by decide) mt1294 (zu_of y2 (zu_ne (by decide) e0)) dX12_begin_24 ?_
  refine lv_iload_n hx hb dX12_begin_27 rfl (lv_at hl 0 rfl) ?_
  refine z_iald (v := 0) (j := 5) hx hb hK hP 1 rfl rfl (Nat.le_of_ble_eq_true rfl) (Nat.le_of_ble_eq_true rfl) (zu_of y12 (zu_ne (by decide) (zu_of y10 (zu_ne (by decide) (zu_of y8 (zu_ne (by decide) (zu_of y6 (zu_ne (by decide) (zu_of y4 (zu_ne (by decide) e6)))))))))) dX12_begin_28 ?_
  refine z_iast (j := 13) hx hb hK hP hD hS 1 rfl rfl (Nat.le_of_ble_eq_true rfl) (Nat.le_of_ble_eq_true rfl) dX12_begin_29 (fun ff13 H locs y14 hP hD hS => ?_)
  have hP : va_P K.1 classes [(a0, zO 10 83 gg1), (a1, zI K 16 ff13), (a2, zI K 1290 f2), (a3, zI K 1290 f3), (a4, zI K 1290 f4), (a5, zI K 1290 f5), (a6, zI K 1290 f6), (a7, zI K 1290 f7), (a8, zI K 60000 f8)] H := hP
  have hD : va_D A [(a0, zO 10 83 gg1), (a1, zI K 16 ff13), (a2, zI K 1290 f2), (a3, zI K 1290 f3), (a4, zI K 1290 f4), (a5, zI K 1290 f5), (a6, zI K 1290 f6), (a7, zI K 1290 f7), (a8, zI K 60000 f8)] := hD
  refine lv_iload_n hx hb dX12_begin_30 rfl (lv_at hl 1 rfl) ?_
  refine lv_aload_n hx hb dX12_begin_31 rfl (lv_at hl 2 rfl) ?_
  refine z_get (v := .ref a1) hx hb hg hown hK hP i_X12 rfl 0 rfl 14 (by decide) mt1294 (zu_of y2 (zu_ne (by decide) e0)) dX12_begin_32 ?_
  refine lv_iload_n hx hb dX12_begin_35 rfl (lv_at hl 0 rfl) ?_
  refine z_iald (v := 0) (j := 5) hx hb hK hP 1 rfl rfl (Nat.le_of_ble_eq_true rfl) (Nat.le_of_ble_eq_true rfl) (zu_of y14 (zu_ne (by decide) (zu_of y12 (zu_ne (by decide) (zu_of y10 (zu_ne (by decide) (zu_of y8 (zu_ne (by decide) (zu_of y6 (zu_ne (by decide) (zu_of y4 (zu_ne (by decide) e6)))))))))))) dX12_begin_36 ?_
  refine lv_if_le (tgt := 44) hx hb dX12_begin_37 (by decide) (fun _ => ?_) (fun c => absurd (by decide) c)
  refine lv_iconst (v := 0) hx hb dX12_begin_44 (by decide) ?_
  refine lv_iadd hx hb dX12_begin_45 ?_
  refine z_cst (v := 0) (by decide +kernel) ?_
  refine lv_istore_n (lv' := [(1, .int 0), (2, .int 5), (0, .ref a0)]) hx hb dX12_begin_46 rfl hl (by decide) rfl (fun ls hl => ?_)
  refine lv_iinc (v := 6) (lv' := [(2, .int 6), (1, .int 0), (0, .ref a0)]) hx hb dX12_begin_47 hl (k := 1) rfl (by decide +kernel) (by decide) rfl (fun ls hl => ?_)
  refine lv_goto (tgt := 9) hx hb dX12_begin_50 (by decide) ?_
  refine lv_iload_n hx hb dX12_begin_9 rfl (lv_at hl 0 rfl) ?_
  refine lv_bipush (v := 8) hx hb dX12_begin_10 (by decide) ?_
  refine lv_icmp_ge (tgt := 53) hx hb dX12_begin_12 (by decide) (fun c => absurd c (by decide)) (fun _ => ?_)
  refine lv_aload_n hx hb dX12_begin_15 rfl (lv_at hl 2 rfl) ?_
  refine z_get (v := .ref a1) hx hb hg hown hK hP i_X12 rfl 0 rfl 14 (by decide) mt1294 (zu_of y2 (zu_ne (by decide) e0)) dX12_begin_16 ?_
  refine lv_bipush (v := 8) hx hb dX12_begin_19 (by decide) ?_
  refine lv_iload_n hx hb dX12_begin_21 rfl (lv_at hl 0 rfl) ?_
  refine lv_iadd hx hb dX12_begin_22 ?_
  refine z_cst (v := 14) (by decide +kernel) ?_
  refine lv_aload_n hx hb dX12_begin_23 rfl (lv_at hl 2 rfl) ?_
  refine z_get (v := .ref a1) hx hb hg hown hK hP i_X12 rfl 0 rfl 14 (by decide) mt1294 (zu_of y2 (zu_ne (by decide) e0)) dX12_begin_24 ?_
  refine lv_iload_n hx hb dX12_begin_27 rfl (lv_at hl 0 rfl) ?_
  refine z_iald (v := 0) (j := 6) hx hb hK hP 1 rfl rfl (Nat.le_of_ble_eq_true rfl) (Nat.le_of_ble_eq_true rfl) (zu_of y14 (zu_ne (by decide) (zu_of y12 (zu_ne (by decide) (zu_of y10 (zu_ne (by decide) (zu_of y8 (zu_ne (by decide) (zu_of y6 (zu_ne (by decide) (zu_of y4 (zu_ne (by decide) e7)))))))))))) dX12_begin_28 ?_
  refine z_iast (j := 14) hx hb hK hP hD hS 1 rfl rfl (Nat.le_of_ble_eq_true rfl) (Nat.le_of_ble_eq_true rfl) dX12_begin_29 (fun ff15 H locs y16 hP hD hS => ?_)
  have hP : va_P K.1 classes [(a0, zO 10 83 gg1), (a1, zI K 16 ff15), (a2, zI K 1290 f2), (a3, zI K 1290 f3), (a4, zI K 1290 f4), (a5, zI K 1290 f5), (a6, zI K 1290 f6), (a7, zI K 1290 f7), (a8, zI K 60000 f8)] H := hP
  have hD : va_D A [(a0, zO 10 83 gg1), (a1, zI K 16 ff15), (a2, zI K 1290 f2), (a3, zI K 1290 f3), (a4, zI K 1290 f4), (a5, zI K 1290 f5), (a6, zI K 1290 f6), (a7, zI K 1290 f7), (a8, zI K 60000 f8)] := hD
  refine lv_iload_n hx hb dX12_begin_30 rfl (lv_at hl 1 rfl) ?_
  refine lv_aload_n hx hb dX12_begin_31 rfl (lv_at hl 2 rfl) ?_
  refine z_get (v := .ref a1) hx hb hg hown hK hP i_X12 rfl 0 rfl 14 (by decide) mt1294 (zu_of y2 (zu_ne (by decide) e0)) dX12_begin_32 ?_
  refine lv_iload_n hx hb dX12_begin_35 rfl (lv_at hl 0 rfl) ?_
  refine z_iald (v := 0) (j := 6) hx hb hK hP 1 rfl rfl (Nat.le_of_ble_eq_true rfl) (Nat.le_of_ble_eq_true rfl) (zu_of y16 (zu_ne (by decide) (zu_of y14 (zu_ne (by decide) (zu_of y12 (zu_ne (by decide) (zu_of y10 (zu_ne (by decide) (zu_of y8 (zu_ne (by decide) (zu_of y6 (zu_ne (by decide) (zu_of y4 (zu_ne (by decide) e7)))))))))))))) dX12_begin_36 ?_
  refine lv_if_le (tgt := 44) hx hb dX12_begin_37 (by decide) (fun _ => ?_) (fun c => absurd (by decide) c)
  refine lv_iconst (v := 0) hx hb dX12_begin_44 (by decide) ?_
  refine lv_iadd hx hb dX12_begin_45 ?_
  refine z_cst (v := 0) (by decide +kernel) ?_
  refine lv_istore_n (lv' := [(1, .int 0), (2, .int 6), (0, .ref a0)]) hx hb dX12_begin_46 rfl hl (by decide) rfl (fun ls hl => ?_)
  refine lv_iinc (v := 7) (lv' := [(2, .int 7), (1, .int 0), (0, .ref a0)]) hx hb dX12_begin_47 hl (k := 1) rfl (by decide +kernel) (by decide) rfl (fun ls hl => ?_)
  refine lv_goto (tgt := 9) hx hb dX12_begin_50 (by decide) ?_
  refine lv_iload_n hx hb dX12_begin_9 rfl (lv_at hl 0 rfl) ?_
  refine lv_bipush (v := 8) hx hb dX12_begin_10 (by decide) ?_
  refine lv_icmp_ge (tgt := 53) hx hb dX12_begin_12 (by decide) (fun c => absurd c (by decide)) (fun _ => ?_)
  refine lv_aload_n hx hb dX12_begin_15 rfl (lv_at hl 2 rfl) ?_
  refine z_get (v := .ref a1) hx hb hg hown hK hP i_X12 rfl 0 rfl 14 (by decide) mt1294 (zu_of y2 (zu_ne (by decide) e0)) dX12_begin_16 ?_
  refine lv_bipush (v := 8) hx hb dX12_begin_19 (by decide) ?_
  refine lv_iload_n hx hb dX12_begin_21 rfl (lv_at hl 0 rfl) ?_
  refine lv_iadd hx hb dX12_begin_22 ?_
  refine z_cst (v := 15) (by decide +kernel) ?_
  refine lv_aload_n hx hb dX12_begin_23 rfl (lv_at hl 2 rfl) ?_
  refine z_get (v := .ref a1) hx hb hg hown hK hP i_X12 rfl 0 rfl 14 (by decide) mt1294 (zu_of y2 (zu_ne (by decide) e0)) dX12_begin_24 ?_
  refine lv_iload_n hx hb dX12_begin_27 rfl (lv_at hl 0 rfl) ?_
  refine z_iald (v := 0) (j := 7) hx hb hK hP 1 rfl rfl (Nat.le_of_ble_eq_true rfl) (Nat.le_of_ble_eq_true rfl) (zu_of y16 (zu_ne (by decide) (zu_of y14 (zu_ne (by decide) (zu_of y12 (zu_ne (by decide) (zu_of y10 (zu_ne (by decide) (zu_of y8 (zu_ne (by decide) (zu_of y6 (zu_ne (by decide) (zu_of y4 (zu_ne (by decide) e8)))))))))))))) dX12_begin_28 ?_
  refine z_iast (j := 15) hx hb hK hP hD hS 1 rfl rfl (Nat.le_of_ble_eq_true rfl) (Nat.le_of_ble_eq_true rfl) dX12_begin_29 (fun ff17 H locs y18 hP hD hS => ?_)
  have hP : va_P K.1 classes [(a0, zO 10 83 gg1), (a1, zI K 16 ff17), (a2, zI K 1290 f2), (a3, zI K 1290 f3), (a4, zI K 1290 f4), (a5, zI K 1290 f5), (a6, zI K 1290 f6), (a7, zI K 1290 f7), (a8, zI K 60000 f8)] H := hP
  have hD : va_D A [(a0, zO 10 83 gg1), (a1, zI K 16 ff17), (a2, zI K 1290 f2), (a3, zI K 1290 f3), (a4, zI K 1290 f4), (a5, zI K 1290 f5), (a6, zI K 1290 f6), (a7, zI K 1290 f7), (a8, zI K 60000 f8)] := hD
  refine lv_iload_n hx hb dX12_begin_30 rfl (lv_at hl 1 rfl) ?_
  refine lv_aload_n hx hb dX12_begin_31 rfl (lv_at hl 2 rfl) ?_
  refine z_get (v := .ref a1) hx hb hg hown hK hP i_X12 rfl 0 rfl 14 (by decide) mt1294 (zu_of y2 (zu_ne (by decide) e0)) dX12_begin_32 ?_
  refine lv_iload_n hx hb dX12_begin_35 rfl (lv_at hl 0 rfl) ?_
  refine z_iald (v := 0) (j := 7) hx hb hK hP 1 rfl rfl (Nat.le_of_ble_eq_true rfl) (Nat.le_of_ble_eq_true rfl) (zu_of y18 (zu_ne (by decide) (zu_of y16 (zu_ne (by decide) (zu_of y14 (zu_ne (by decide) (zu_of y12 (zu_ne (by decide) (zu_of y10 (zu_ne (by decide) (zu_of y8 (zu_ne (by decide) (zu_of y6 (zu_ne (by decide) (zu_of y4 (zu_ne (by decide) e8)))))))))))))))) dX12_begin_36 ?_
  refine lv_if_le (tgt := 44) hx hb dX12_begin_37 (by decide) (fun _ => ?_) (fun c => absurd (by decide) c)
  refine lv_iconst (v := 0) hx hb dX12_begin_44 (by decide) ?_
  refine lv_iadd hx hb dX12_begin_45 ?_
  refine z_cst (v := 0) (by decide +kernel) ?_
  refine lv_istore_n (lv' := [(1, .int 0), (2, .int 7), (0, .ref a0)]) hx hb dX12_begin_46 rfl hl (by decide) rfl (fun ls hl => ?_)
  refine lv_iinc (v := 8) (lv' := [(2, .int 8), (1, .int 0), (0, .ref a0)]) hx hb dX12_begin_47 hl (k := 1) rfl (by decide +kernel) (by decide) rfl (fun ls hl => ?_)
  refine lv_goto (tgt := 9) hx hb dX12_begin_50 (by decide) ?_
  refine lv_iload_n hx hb dX12_begin_9 rfl (lv_at hl 0 rfl) ?_
  refine lv_bipush (v := 8) hx hb dX12_begin_10 (by decide) ?_
  refine lv_icmp_ge (tgt := 53) hx hb dX12_begin_12 (by decide) (fun _ => ?_) (fun c => absurd (by decide) c)
  refine lv_iconst (v := 0) hx hb dX12_begin_53 (by decide) ?_
  refine lv_istore_n (lv' := [(2, .int 0), (1, .int 0), (0, .ref a0)]) hx hb dX12_begin_54 rfl hl (by decide) rfl (fun ls hl => ?_)
  refine z_loop (I := (fun i ls H locs => ∃ (zz19 : Nat → Int32) (zz20 : Nat → Int32) (zz21 : Nat → Int32) (zz22 : Nat → Int32) (zz23 : Nat → Int32) (zz24 : Nat → Int32), va_P K.1 classes [(a0, zO 10 83 gg1), (a1, zI K 16 ff17), (a2, zI K 1290 zz19), (a3, zI K 1290 zz20), (a4, zI K 1290 zz21), (a5, zI K 1290 zz22), (a6, zI K 1290 zz23), (a7, zI K 1290 zz24), (a8, zI K 60000 f8)] H ∧ va_D A [(a0, zO 10 83 gg1), (a1, zI K 16 ff17), (a2, zI K 1290 zz19), (a3, zI K 1290 zz20), (a4, zI K 1290 zz21), (a5, zI K 1290 zz22), (a6, zI K 1290 zz23), (a7, zI K 1290 zz24), (a8, zI K 60000 f8)] ∧ va_S A s.heap H locs ∧ lv_has ls 4 [(2, .int (nI i)), (1, .int 0), (0, .ref a0)])) 640 ⟨_, _, _, _, _, _, hP, hD, hS, hl⟩ (fun i hi ls H locs hI kk => ?_) (fun ls H locs hI => ?_)
  · obtain ⟨zz19, zz20, zz21, zz22, zz23, zz24, hP, hD, hS, hl⟩ := hI
    refine lv_iload_n hx hb dX12_begin_55 rfl (lv_at hl 0 rfl) ?_
    refine lv_sipush (v := 640) hx hb dX12_begin_56 (by decide) ?_
    refine lv_icmp_ge (tgt := 150) hx hb dX12_begin_59 (by decide) (fun c => absurd c ((by decide +kernel : ∀ j, j < 640 → ¬ ((640 : Int32) ≤ (nI j))) i hi)) (fun _ => ?_)
    refine lv_sipush (v := 640) hx hb dX12_begin_62 (by decide) ?_
    refine lv_iload_n hx hb dX12_begin_65 rfl (lv_at hl 0 rfl) ?_
    refine lv_iadd hx hb dX12_begin_66 ?_
    refine z_cst (v := (nI (640 + i))) (nI_add 640 _) ?_
    refine lv_istore_n (lv' := [(3, .int (nI (640 + i))), (2, .int (nI i)), (1, .int 0), (0, .ref a0)]) hx hb dX12_begin_67 rfl hl (by decide) rfl (fun ls hl => ?_)
    refine lv_aload_n hx hb dX12_begin_68 rfl (lv_at hl 3 rfl) ?_
    refine z_get (v := .ref a2) hx hb hg hown hK hP i_X12 rfl 0 rfl 8 (by decide) mt1288 (zu_of y2 (zu_ne (by decide) e9)) dX12_begin_69 ?_
    refine lv_iload_n hx hb dX12_begin_72 rfl (lv_at hl 0 rfl) ?_
    refine lv_aload_n hx hb dX12_begin_73 rfl (lv_at hl 3 rfl) ?_
    refine z_get (v := .ref a2) hx hb hg hown hK hP i_X12 rfl 0 rfl 8 (by decide) mt1288 (zu_of y2 (zu_ne (by decide) e9)) dX12_begin_74 ?_
    refine lv_iload_n hx hb dX12_begin_77 rfl (lv_at hl 1 rfl) ?_
    refine z_iald (v := (zz19 i)) (j := i) hx hb hK hP 2 rfl rfl (Nat.lt_of_lt_of_le hi (Nat.le_of_ble_eq_true rfl)) (Nat.le_of_ble_eq_true rfl) rfl dX12_begin_78 ?_
    refine z_iast (j := (640 + i)) hx hb hK hP hD hS 2 rfl rfl (Nat.lt_of_lt_of_le (Nat.add_lt_add_left hi 640) (Nat.le_of_ble_eq_true rfl)) (Nat.le_of_ble_eq_true rfl) dX12_begin_79 (fun ff25 H locs y26 hP hD hS => ?_)
    have hP : va_P K.1 classes [(a0, zO 10 83 gg1), (a1, zI K 16 ff17), (a2, zI K 1290 ff25), (a3, zI K 1290 zz20), (a4, zI K 1290 zz21), (a5, zI K 1290 zz22), (a6, zI K 1290 zz23), (a7, zI K 1290 zz24), (a8, zI K 60000 f8)] H := hP
    have hD : va_D A [(a0, zO 10 83 gg1), (a1, zI K 16 ff17), (a2, zI K 1290 ff25), (a3, zI K 1290 zz20), (a4, zI K 1290 zz21), (a5, zI K 1290 zz22), (a6, zI K 1290 zz23), (a7, zI K 1290 zz24), (a8, zI K 60000 f8)] := hD
    refine lv_aload_n hx hb dX12_begin_80 rfl (lv_at hl 3 rfl) ?_
    refine z_get (v := .ref a3) hx hb hg hown hK hP i_X12 rfl 0 rfl 9 (by decide) mt1289 (zu_of y2 (zu_ne (by decide) e10)) dX12_begin_81 ?_
    refine lv_iload_n hx hb dX12_begin_84 rfl (lv_at hl 0 rfl) ?_
    refine lv_aload_n hx hb dX12_begin_85 rfl (lv_at hl 3 rfl) ?_
    refine z_get (v := .ref a3) hx hb hg hown hK hP i_X12 rfl 0 rfl 9 (by decide) mt1289 (zu_of y2 (zu_ne (by decide) e10)) dX12_begin_86 ?_
    refine lv_iload_n hx hb dX12_begin_89 rfl (lv_at hl 1 rfl) ?_
    refine z_iald (v := (zz20 i)) (j := i) hx hb hK hP 3 rfl rfl (Nat.lt_of_lt_of_le hi (Nat.le_of_ble_eq_true rfl)) (Nat.le_of_ble_eq_true rfl) rfl dX12_begin_90 ?_
    refine z_iast (j := (640 + i)) hx hb hK hP hD hS 3 rfl rfl (Nat.lt_of_lt_of_le (Nat.add_lt_add_left hi 640) (Nat.le_of_ble_eq_true rfl)) (Nat.le_of_ble_eq_true rfl) dX12_begin_91 (fun ff27 H locs y28 hP hD hS => ?_)
    have hP : va_P K.1 classes [(a0, zO 10 83 gg1), (a1, zI K 16 ff17), (a2, zI K 1290 ff25), (a3, zI K 1290 ff27), (a4, zI K 1290 zz21), (a5, zI K 1290 zz22), (a6, zI K 1290 zz23), (a7, zI K 1290 zz24), (a8, zI K 60000 f8)] H := hP
    have hD : va_D A [(a0, zO 10 83 gg1), (a1, zI K 16 ff17), (a2, zI K 1290 ff25), (a3, zI K 1290 ff27), (a4, zI K 1290 zz21), (a5, zI K 1290 zz22), (a6, zI K 1290 zz23), (a7, zI K 1290 zz24), (a8, zI K 60000 f8)] := hD
    refine lv_aload_n hx hb dX12_begin_92 rfl (lv_at hl 3 rfl) ?_
    refine z_get (v := .ref a4) hx hb hg hown hK hP i_X12 rfl 0 rfl 10 (by decide) mt1290 (zu_of y2 (zu_ne (by decide) e11)) dX12_begin_93 ?_
    refine lv_iload_n hx hb dX12_begin_96 rfl (lv_at hl 0 rfl) ?_
    refine lv_aload_n hx hb dX12_begin_97 rfl (lv_at hl 3 rfl) ?_
    refine z_get (v := .ref a4) hx hb hg hown hK hP i_X12 rfl 0 rfl 10 (by decide) mt1290 (zu_of y2 (zu_ne (by decide) e11)) dX12_begin_98 ?_
    refine lv_iload_n hx hb dX12_begin_101 rfl (lv_at hl 1 rfl) ?_
    refine z_iald (v := (zz21 i)) (j := i) hx hb hK hP 4 rfl rfl (Nat.lt_of_lt_of_le hi (Nat.le_of_ble_eq_true rfl)) (Nat.le_of_ble_eq_true rfl) rfl dX12_begin_102 ?_
    refine z_iast (j := (640 + i)) hx hb hK hP hD hS 4 rfl rfl (Nat.lt_of_lt_of_le (Nat.add_lt_add_left hi 640) (Nat.le_of_ble_eq_true rfl)) (Nat.le_of_ble_eq_true rfl) dX12_begin_103 (fun ff29 H locs y30 hP hD hS => ?_)
    have hP : va_P K.1 classes [(a0, zO 10 83 gg1), (a1, zI K 16 ff17), (a2, zI K 1290 ff25), (a3, zI K 1290 ff27), (a4, zI K 1290 ff29), (a5, zI K 1290 zz22), (a6, zI K 1290 zz23), (a7, zI K 1290 zz24), (a8, zI K 60000 f8)] H := hP
    have hD : va_D A [(a0, zO 10 83 gg1), (a1, zI K 16 ff17), (a2, zI K 1290 ff25), (a3, zI K 1290 ff27), (a4, zI K 1290 ff29), (a5, zI K 1290 zz22), (a6, zI K 1290 zz23), (a7, zI K 1290 zz24), (a8, zI K 60000 f8)] := hD
    refine lv_aload_n hx hb dX12_begin_104 rfl (lv_at hl 3 rfl) ?_
    refine z_get (v := .ref a5) hx hb hg hown hK hP i_X12 rfl 0 rfl 11 (by decide) mt1291 (zu_of y2 (zu_ne (by decide) e12)) dX12_begin_105 ?_
    refine lv_iload_n hx hb dX12_begin_108 rfl (lv_at hl 0 rfl) ?_
    refine lv_aload_n hx hb dX12_begin_109 rfl (lv_at hl 3 rfl) ?_
    refine z_get (v := .ref a5) hx hb hg hown hK hP i_X12 rfl 0 rfl 11 (by decide) mt1291 (zu_of y2 (zu_ne (by decide) e12)) dX12_begin_110 ?_
    refine lv_iload_n hx hb dX12_begin_113 rfl (lv_at hl 1 rfl) ?_
    refine z_iald (v := (zz22 i)) (j := i) hx hb hK hP 5 rfl rfl (Nat.lt_of_lt_of_le hi (Nat.le_of_ble_eq_true rfl)) (Nat.le_of_ble_eq_true rfl) rfl dX12_begin_114 ?_
    refine z_iast (j := (640 + i)) hx hb hK hP hD hS 5 rfl rfl (Nat.lt_of_lt_of_le (Nat.add_lt_add_left hi 640) (Nat.le_of_ble_eq_true rfl)) (Nat.le_of_ble_eq_true rfl) dX12_begin_115 (fun ff31 H locs y32 hP hD hS => ?_)
    have hP : va_P K.1 classes [(a0, zO 10 83 gg1), (a1, zI K 16 ff17), (a2, zI K 1290 ff25), (a3, zI K 1290 ff27), (a4, zI K 1290 ff29), (a5, zI K 1290 ff31), (a6, zI K 1290 zz23), (a7, zI K 1290 zz24), (a8, zI K 60000 f8)] H := hP
    have hD : va_D A [(a0, zO 10 83 gg1), (a1, zI K 16 ff17), (a2, zI K 1290 ff25), (a3, zI K 1290 ff27), (a4, zI K 1290 ff29), (a5, zI K 1290 ff31), (a6, zI K 1290 zz23), (a7, zI K 1290 zz24), (a8, zI K 60000 f8)] := hD
    refine lv_aload_n hx hb dX12_begin_116 rfl (lv_at hl 3 rfl) ?_
    refine z_get (v := .ref a6) hx hb hg hown hK hP i_X12 rfl 0 rfl 12 (by decide) mt1292 (zu_of y2 (zu_ne (by decide) e13)) dX12_begin_117 ?_
    refine lv_iload_n hx hb dX12_begin_120 rfl (lv_at hl 0 rfl) ?_
    refine lv_aload_n hx hb dX12_begin_121 rfl (lv_at hl 3 rfl) ?_
    refine z_get (v := .ref a6) hx hb hg hown hK hP i_X12 rfl 0 rfl 12 (by decide) mt1292 (zu_of y2 (zu_ne (by decide) e13)) dX12_begin_122 ?_
    refine lv_iload_n hx hb dX12_begin_125 rfl (lv_at hl 1 rfl) ?_
    refine z_iald (v := (zz23 i)) (j := i) hx hb hK hP 6 rfl rfl (Nat.lt_of_lt_of_le hi (Nat.le_of_ble_eq_true rfl)) (Nat.le_of_ble_eq_true rfl) rfl dX12_begin_126 ?_
    refine z_iast (j := (640 + i)) hx hb hK hP hD hS 6 rfl rfl (Nat.lt_of_lt_of_le (Nat.add_lt_add_left hi 640) (Nat.le_of_ble_eq_true rfl)) (Nat.le_of_ble_eq_true rfl) dX12_begin_127 (fun ff33 H locs y34 hP hD hS => ?_)
    have hP : va_P K.1 classes [(a0, zO 10 83 gg1), (a1, zI K 16 ff17), (a2, zI K 1290 ff25), (a3, zI K 1290 ff27), (a4, zI K 1290 ff29), (a5, zI K 1290 ff31), (a6, zI K 1290 ff33), (a7, zI K 1290 zz24), (a8, zI K 60000 f8)] H := hP
    have hD : va_D A [(a0, zO 10 83 gg1), (a1, zI K 16 ff17), (a2, zI K 1290 ff25), (a3, zI K 1290 ff27), (a4, zI K 1290 ff29), (a5, zI K 1290 ff31), (a6, zI K 1290 ff33), (a7, zI K 1290 zz24), (a8, zI K 60000 f8)] := hD
    refine lv_aload_n hx hb dX12_begin_128 rfl (lv_at hl 3 rfl) ?_
    refine z_get (v := .ref a7) hx hb hg hown hK hP i_X12 rfl 0 rfl 13 (by decide) mt1293 (zu_of y2 (zu_ne (by decide) e14)) dX12_begin_129 ?_
    refine lv_iload_n hx hb dX12_begin_132 rfl (lv_at hl 0 rfl) ?_
    refine lv_sipush (v := 640) hx hb dX12_begin_133 (by decide) ?_
    refine lv_aload_n hx hb dX12_begin_136 rfl (lv_at hl 3 rfl) ?_
    refine z_get (v := .ref a7) hx hb hg hown hK hP i_X12 rfl 0 rfl 13 (by decide) mt1293 (zu_of y2 (zu_ne (by decide) e14)) dX12_begin_137 ?_
    refine lv_iload_n hx hb dX12_begin_140 rfl (lv_at hl 1 rfl) ?_
    refine z_iald (v := (zz24 i)) (j := i) hx hb hK hP 7 rfl rfl (Nat.lt_of_lt_of_le hi (Nat.le_of_ble_eq_true rfl)) (Nat.le_of_ble_eq_true rfl) rfl dX12_begin_141 ?_
    refine lv_iadd hx hb dX12_begin_142 ?_
    refine z_iast (j := (640 + i)) hx hb hK hP hD hS 7 rfl rfl (Nat.lt_of_lt_of_le (Nat.add_lt_add_left hi 640) (Nat.le_of_ble_eq_true rfl)) (Nat.le_of_ble_eq_true rfl) dX12_begin_143 (fun ff35 H locs y36 hP hD hS => ?_)
    have hP : va_P K.1 classes [(a0, zO 10 83 gg1), (a1, zI K 16 ff17), (a2, zI K 1290 ff25), (a3, zI K 1290 ff27), (a4, zI K 1290 ff29), (a5, zI K 1290 ff31), (a6, zI K 1290 ff33), (a7, zI K 1290 ff35), (a8, zI K 60000 f8)] H := hP
    have hD : va_D A [(a0, zO 10 83 gg1), (a1, zI K 16 ff17), (a2, zI K 1290 ff25), (a3, zI K 1290 ff27), (a4, zI K 1290 ff29), (a5, zI K 1290 ff31), (a6, zI K 1290 ff33), (a7, zI K 1290 ff35), (a8, zI K 60000 f8)] := hD
    refine lv_iinc (v := (nI (i + 1))) (lv' := [(2, .int (nI (i + 1))), (3, .int (nI (640 + i))), (1, .int 0), (0, .ref a0)]) hx hb dX12_begin_144 hl (k := 1) rfl (nI_1 _) (by decide) rfl (fun ls hl => ?_)
    refine lv_goto (tgt := 55) hx hb dX12_begin_147 (by decide) ?_
    exact kk _ _ _ ⟨_, _, _, _, _, _, hP, hD, hS, lv_sub hl [0, 2, 3] rfl⟩
  obtain ⟨zz19, zz20, zz21, zz22, zz23, zz24, hP, hD, hS, hl⟩ := hI
  have hl : lv_has ls 4 [(2, .int 640), (1, .int 0), (0, .ref a0)] := hl
  refine lv_iload_n hx hb dX12_begin_55 rfl (lv_at hl 0 rfl) ?_
  refine lv_sipush (v := 640) hx hb dX12_begin_56 (by decide) ?_
  refine lv_icmp_ge (tgt := 150) hx hb dX12_begin_59 (by decide) (fun _ => ?_) (fun c => absurd (by decide) c)
  refine lv_aload_n hx hb dX12_begin_150 rfl (lv_at hl 2 rfl) ?_
  refine lv_iconst (v := 1) hx hb dX12_begin_151 (by decide) ?_
  refine z_callv [(a0, zO 10 83 gg1), (a8, zI K 60000 f8)] [(a1, zI K 16 ff17), (a2, zI K 1290 zz19), (a3, zI K 1290 zz20), (a4, zI K 1290 zz21), (a5, zI K 1290 zz22), (a6, zI K 1290 zz23), (a7, zI K 1290 zz24)] [0, 8] [1, 2, 3, 4, 5, 6, 7] hP hD hS hA rfl rfl (by decide) (by decide) (by decide +kernel) 0 0 rfl rfl (fun hPc hDc hF => z_runV (As := [.int 1]) (rest := []) ⟨hx, hb, hml, hown, hg⟩ (cX12_forgets_1 l K H.size a0 a8 gg1 f8 (zu_of y2 (zu_ne (by decide) e15))) kV_RX12_244 hd_X12_forgets rfl rfl ⟨(Nat.le_of_ble_eq_true rfl), (Nat.le_of_ble_eq_true rfl)⟩ hK hS hZ hPc hDc hF 0 rfl rfl rfl hl.1 rfl (Nat.le_of_ble_eq_true rfl) dX12_begin_152 ⟨(Nat.le_of_ble_eq_true rfl), (Nat.le_of_ble_eq_true rfl)⟩) (fun u37 H locs w38 hP hD hS => ?_)
  have hP : va_P K.1 classes [(a1, zI K 16 ff17), (a2, zI K 1290 zz19), (a3, zI K 1290 zz20), (a4, zI K 1290 zz21), (a5, zI K 1290 zz22), (a6, zI K 1290 zz23), (a7, zI K 1290 zz24), (a0, zO 10 83 gg1), (a8, zI K 60000 (va_up (va_up (va_up (va_up (va_up (va_up (va_up (va_up f8 8 0) 9 0) 10 0) 11 0) 12 0) 13 0) 14 0) 15 0))] H := hP
  have hD : va_D A [(a1, zI K 16 ff17), (a2, zI K 1290 zz19), (a3, zI K 1290 zz20), (a4, zI K 1290 zz21), (a5, zI K 1290 zz22), (a6, zI K 1290 zz23), (a7, zI K 1290 zz24), (a0, zO 10 83 gg1), (a8, zI K 60000 (va_up (va_up (va_up (va_up (va_up (va_up (va_up (va_up f8 8 0) 9 0) 10 0) 11 0) 12 0) 13 0) 14 0) 15 0))] := hD
  obtain ⟨ff40, y41⟩ : ∃ z, z = ((va_up (va_up (va_up (va_up (va_up (va_up (va_up (va_up f8 8 0) 9 0) 10 0) 11 0) 12 0) 13 0) 14 0) 15 0) : Nat → Int32) := ⟨_, rfl⟩
  rw [← y41] at hP hD
  refine lv_aload_n hx hb dX12_begin_155 rfl (lv_at hl 2 rfl) ?_
  refine lv_iconst (v := 1) hx hb dX12_begin_156 (by decide) ?_
  refine z_put hx hb hg hown hK hP hD hS i_X12 rfl tyX12_ok nmX12 7 rfl 15 (by decide) mt1295 rfl rfl rfl dX12_begin_157 (fun gg42 H locs y43 hP hD hS => ?_)
  have hP : va_P K.1 classes [(a1, zI K 16 ff17), (a2, zI K 1290 zz19), (a3, zI K 1290 zz20), (a4, zI K 1290 zz21), (a5, zI K 1290 zz22), (a6, zI K 1290 zz23), (a7, zI K 1290 zz24), (a0, zO 10 83 gg42), (a8, zI K 60000 ff40)] H := hP
  have hD : va_D A [(a1, zI K 16 ff17), (a2, zI K 1290 zz19), (a3, zI K 1290 zz20), (a4, zI K 1290 zz21), (a5, zI K 1290 zz22), (a6, zI K 1290 zz23), (a7, zI K 1290 zz24), (a0, zO 10 83 gg42), (a8, zI K 60000 ff40)] := hD
  refine lv_iload_n hx hb dX12_begin_160 rfl (lv_at hl 1 rfl) ?_
  subst y43
  subst y41
  subst y18
  subst y16
  subst y14
  subst y12
  subst y10
  subst y8
  subst y6
  subst y4
  subst y2
  have hP9 : va_P K.1 classes [(a0, zO 10 83 (va_up (va_up g0 81 (.int 0)) 15 (.int 1)))] H := hP.sub [7] rfl
  have hD9 : va_D A [(a0, zO 10 83 (va_up (va_up g0 81 (.int 0)) 15 (.int 1)))] := hD.sub [7] (by decide) rfl
  exact z_iret hx hb hr (fun _ => 0) rfl hP9 hD9 hS (Nat.le_of_ble_eq_true rfl) (Nat.le_of_ble_eq_true rfl) hlocks dX12_begin_161
set_option maxHeartbeats 4000000 in
set_option maxRecDepth 100000 in
theorem cX11_needed_1 (l : Launch) (hl9 : l.stackTraces = false) (K : zK) (sz : Nat) (a0 : Nat) (g0 : Nat → Value) (x0 : Int32) (x1 : Int32) (e0 : x0 < (0 : Int32)) : vx_Met l yX11_needed (Cond.code yX11_needed cX11_needed 3 (some .int) :: WG) { frames := 7, cells := 1, slots := 6, locals := 104 } (zPre K [(a0, zO 9 9 g0)] sz [.ref a0, .int x0, .int x1]) (va_Qv (fun _ : Unit => False) (fun _ _ => True) (va_A [(a0, zO 9 9 g0)] sz)) (zX (va_A [(a0, zO 9 9 g0)] sz) zIA) 1 6 (va_A [(a0, zO 9 9 g0)] sz) := by
  refine z_xmet (Qc := fun A => va_Qv (fun _ : Unit => False) (fun _ _ => True) A) (XC := fun A => zX A zIA) (by decide +kernel) (Nat.le_of_ble_eq_true rfl) ?_
  intro p e s m args below meth c A ls H hx hb hr hg hown hlocks hml hno hK hP hD hA hS hZ hl
  have hown : s.vm.findClass RX11 = some m.cls := hown
  have hl : lv_has ls 3 [(0, .ref a0), (1, .int x0), (2, .int x1)] := hl
  refine lv_aload_n hx hb dX11_needed_0 rfl (lv_at hl 0 rfl) ?_
  refine lv_iload_n hx hb dX11_needed_1 rfl (lv_at hl 1 rfl) ?_
  refine lv_bipush (v := 8) hx hb dX11_needed_2 (by decide) ?_
  refine z_xcall (EX := zIA) [(a0, zO 9 9 g0)] [0] hP hD hS hA rfl (by decide) 1 6 rfl rfl (fun hPc hDc hF => z_xrunV (As := [.int x0, .int 8]) (rest := []) ⟨hx, hb, hml, hown, hg⟩ (cX11_checkRange_4 l hl9 K H.size a0 g0 x0 e0) kV_RX11_72 hd_X11_checkRange rfl rfl ⟨(Nat.le_of_ble_eq_true rfl), (Nat.le_of_ble_eq_true rfl)⟩ hK hS hZ hPc hDc hF 0 rfl rfl rfl hl.1 rfl (Nat.le_of_ble_eq_true rfl) dX11_needed_4 ⟨(Nat.le_of_ble_eq_true rfl), (Nat.le_of_ble_eq_true rfl)⟩) (fun ce q9 H locs hS hce hcv hcl => ?_)
  exact z_xout hno hlocks hS hce hcv hcl (Nat.le_of_ble_eq_true rfl) (Nat.le_of_ble_eq_true rfl)
set_option maxHeartbeats 4000000 in
set_option maxRecDepth 100000 in
theorem cL_needed_1 (l : Launch) (hl9 : l.stackTraces = false) (K : zK) (sz : Nat) (a0 : Nat) (a1 : Nat) (g0 : Nat → Value) (x0 : Int32) (x1 : Int32) (e0 : x0 < (0 : Int32)) : vx_Met l yL_needed (Cond.codeWith yL_needed cL_needed 5 (some .int) [(0, 10, 13, 18)] :: WG) { frames := 8, cells := 1, slots := 6, locals := 126 } (zPre K [(a0, zO 9 9 g0)] sz [.ref a0, .int x0, .int x1, .ref a1]) (va_Qi (fun (r : Int32) (_ : Nat → Nat) => r = 1) (zB K (va_A [(a0, zO 9 9 g0)] sz) (fun u : Nat → Nat => [])) (va_A [(a0, zO 9 9 g0)] sz)) (vx_X (fun _ : Unit => False) (fun _ _ _ => True) (va_A [(a0, zO 9 9 g0)] sz)) 1 6 (va_A [(a0, zO 9 9 g0)] sz) := by
  refine z_hmet (Qc := fun A => (va_Qi (fun (r : Int32) (_ : Nat → Nat) => r = 1) (zB K A (fun u : Nat → Nat => [])) A)) (XC := fun A => vx_X (fun _ : Unit => False) (fun _ _ _ => True) A) (by decide +kernel) (Nat.le_of_ble_eq_true rfl) ?_
  intro p e s m args below meth c A ls H hx hb hr hg hown hlocks hml hTab hK hP hD hA hS hZ hl
  have hown : s.vm.findClass RL = some m.cls := hown
  have hl : lv_has ls 5 [(0, .ref a0), (1, .int x0), (2, .int x1), (3, .ref a1)] := hl
  refine lv_aload_n hx hb dL_needed_0 rfl (lv_at hl 3 rfl) ?_
  refine lv_iconst (v := 0) hx hb dL_needed_1 (by decide) ?_
  refine lv_aload_n hx hb dL_needed_2 rfl (lv_at hl 0 rfl) ?_
  refine lv_iload_n hx hb dL_needed_3 rfl (lv_at hl 1 rfl) ?_
  refine lv_iload_n hx hb dL_needed_4 rfl (lv_at hl 2 rfl) ?_
  refine z_xcall (EX := zIA) [(a0, zO 9 9 g0)] [0] hP hD hS hA rfl (by decide) 1 6 rfl rfl (fun hPc hDc hF => z_xrunV (As := [.int x0, .int x1]) (rest := [.int 0, .ref a1]) ⟨hx, hb, hml, hown, hg⟩ (cX11_needed_1 l hl9 K H.size a0 g0 x0 x1 e0) kV_RL_84 hd_X11_needed rfl rfl ⟨(Nat.le_of_ble_eq_true rfl), (Nat.le_of_ble_eq_true rfl)⟩ hK hS hZ hPc hDc hF 0 rfl rfl rfl hl.1 rfl (Nat.le_of_ble_eq_true rfl) dL_needed_5 ⟨(Nat.le_of_ble_eq_true rfl), (Nat.le_of_ble_eq_true rfl)⟩) (fun ce q9 H locs hS hce hcv hcl => ?_)
  refine vx_catch (own := RL) (name := zIA) (E := zIA) hown [] ⟨0, 10, 13, 18⟩ [] (by rw [hTab]; rfl) (fun z hz => nomatch hz) (by decide) (by decide) (hg _ mt491) (va_Nw.use rfl hZ.1.1.2.1) hce hcv hcl ?_
  have hP : va_P K.1 classes [] H := z_P0
  have hD : va_D A [] := z_D0
  refine lv_astore (lv' := [(4, .ref q9), (0, .ref a0), (1, .int x0), (2, .int x1), (3, .ref a1)]) hx hb dL_needed_13 hl (by decide) rfl (fun ls hl => ?_)
  refine lv_iconst (v := 1) hx hb dL_needed_15 (by decide) ?_
  have hP9 : va_P K.1 classes [] H := hP.sub [] rfl
  have hD9 : va_D A [] := hD.sub [] (by decide) rfl
  exact z_iret hx hb hr (fun _ => 0) rfl hP9 hD9 hS (Nat.le_of_ble_eq_true rfl) (Nat.le_of_ble_eq_true rfl) hlocks dL_needed_16
set_option maxHeartbeats 4000000 in
set_option maxRecDepth 100000 in
theorem cX12_needed_1 (l : Launch) (K : zK) (sz : Nat) (a0 : Nat) (g0 : Nat → Value) (x0 : Int32) (x1 : Int32) (e0 : x0 < (0 : Int32)) : Met l yX12_needed (Cond.code yX12_needed cX12_needed 3 (some .int) :: WG) { frames := 2, cells := 0, slots := 0, locals := 42 } (zPre K [(a0, zO 10 83 g0)] sz [.ref a0, .int x0, .int x1]) (va_Qi (fun (r : Int32) (_ : Nat → Nat) => r = 0) (zB K (va_A [(a0, zO 10 83 g0)] sz) (fun u : Nat → Nat => [(a0, zO 10 83 (va_up g0 81 (.int 1)))])) (va_A [(a0, zO 10 83 g0)] sz)) 0 0 (va_A [(a0, zO 10 83 g0)] sz) := by
  refine z_met (Qc := fun A => (va_Qi (fun (r : Int32) (_ : Nat → Nat) => r = 0) (zB K A (fun u : Nat → Nat => [(a0, zO 10 83 (va_up g0 81 (.int 1)))])) A)) (by decide +kernel) (Nat.le_of_ble_eq_true rfl) ?_
  intro p e s m args below meth c A ls H hx hb hr hg hown hlocks hml hin hK hP hD hA hS hZ hl
  have hown : s.vm.findClass RX12 = some m.cls := hown
  have hl : lv_has ls 3 [(0, .ref a0), (1, .int x0), (2, .int x1)] := hl
  refine lv_aload_n hx hb dX12_needed_0 rfl (lv_at hl 0 rfl) ?_
  refine lv_iload_n hx hb dX12_needed_1 rfl (lv_at hl 1 rfl) ?_
  refine z_calli [] [(a0, zO 10 83 g0)] [] [0] hP hD hS hA rfl rfl (by decide) (by decide) (by decide +kernel) 0 0 rfl rfl (fun hPc hDc hF => z_runS (As := [.int x0]) (rest := [.ref a0]) ⟨hx, hb, hml, hown, hg⟩ (cX12_isGlobal_1 l K H.size x0 e0) kS_RX12_197 hd_X12_isGlobal rfl rfl ⟨(Nat.le_of_ble_eq_true rfl), (Nat.le_of_ble_eq_true rfl)⟩ hK hS hZ hPc hDc hF rfl hl.1 rfl (Nat.le_of_ble_eq_true rfl) dX12_needed_2 ⟨(Nat.le_of_ble_eq_true rfl), (Nat.le_of_ble_eq_true rfl)⟩) (fun r3 u1 H locs w2 hP hD hS => ?_)
  subst w2
  have hP : va_P K.1 classes [(a0, zO 10 83 g0)] H := hP
  have hD : va_D A [(a0, zO 10 83 g0)] := hD
  refine lv_if_eq (tgt := 16) hx hb dX12_needed_5 (by decide) (fun _ => ?_) (fun c => absurd (by decide) c)
  refine lv_iconst (v := 1) hx hb dX12_needed_16 (by decide) ?_
  refine z_calli [(a0, zO 10 83 g0)] [] [0] [] hP hD hS hA rfl rfl (by decide) (by decide) (by decide +kernel) 0 0 rfl rfl (fun hPc hDc hF => z_runV (As := [.int 1]) (rest := []) ⟨hx, hb, hml, hown, hg⟩ (cX12_can_2 l K H.size a0 g0) kV_RX12_182 hd_X12_can rfl rfl ⟨(Nat.le_of_ble_eq_true rfl), (Nat.le_of_ble_eq_true rfl)⟩ hK hS hZ hPc hDc hF 0 rfl rfl rfl hl.1 rfl (Nat.le_of_ble_eq_true rfl) dX12_needed_17 ⟨(Nat.le_of_ble_eq_true rfl), (Nat.le_of_ble_eq_true rfl)⟩) (fun r6 u4 H locs w5 hP hD hS => ?_)
  subst w5
  have hP : va_P K.1 classes [(a0, zO 10 83 (va_up g0 81 (.int 1)))] H := hP
  have hD : va_D A [(a0, zO 10 83 (va_up g0 81 (.int 1)))] := hD
  refine lv_if_ne (tgt := 25) hx hb dX12_needed_20 (by decide) (fun c => absurd (by decide) c) (fun _ => ?_)
  refine lv_iconst (v := 0) hx hb dX12_needed_23 (by decide) ?_
  have hP9 : va_P K.1 classes [(a0, zO 10 83 (va_up g0 81 (.int 1)))] H := hP.sub [0] rfl
  have hD9 : va_D A [(a0, zO 10 83 (va_up g0 81 (.int 1)))] := hD.sub [0] (by decide) rfl
  exact z_iret hx hb hr (fun _ => 0) rfl hP9 hD9 hS (Nat.le_of_ble_eq_true rfl) (Nat.le_of_ble_eq_true rfl) hlocks dX12_needed_24
set_option maxHeartbeats 4000000 in
set_option maxRecDepth 100000 in
theorem cX11_needed_2 (l : Launch) (hl9 : l.stackTraces = false) (K : zK) (sz : Nat) (a0 : Nat) (g0 : Nat → Value) (j0 : Nat) (hj0 : j0 < 8) (x1 : Int32) (e0 : ¬ (0 : Int32) ≤ x1) : vx_Met l yX11_needed (Cond.code yX11_needed cX11_needed 3 (some .int) :: WG) { frames := 6, cells := 1, slots := 6, locals := 82 } (zPre K [(a0, zO 9 9 g0)] sz [.ref a0, .int (nI j0), .int x1]) (va_Qv (fun _ : Unit => False) (fun _ _ => True) (va_A [(a0, zO 9 9 g0)] sz)) (zX (va_A [(a0, zO 9 9 g0)] sz) zIA) 1 6 (va_A [(a0, zO 9 9 g0)] sz) := by
  refine z_xmet (Qc := fun A => va_Qv (fun _ : Unit => False) (fun _ _ => True) A) (XC := fun A => zX A zIA) (by decide +kernel) (Nat.le_of_ble_eq_true rfl) ?_
  intro p e s m args below meth c A ls H hx hb hr hg hown hlocks hml hno hK hP hD hA hS hZ hl
  have hown : s.vm.findClass RX11 = some m.cls := hown
  have hl : lv_has ls 3 [(0, .ref a0), (1, .int (nI j0)), (2, .int x1)] := hl
  refine lv_aload_n hx hb dX11_needed_0 rfl (lv_at hl 0 rfl) ?_
  refine lv_iload_n hx hb dX11_needed_1 rfl (lv_at hl 1 rfl) ?_
  refine lv_bipush (v := 8) hx hb dX11_needed_2 (by decide) ?_
  refine z_callv [(a0, zO 9 9 g0)] [] [0] [] hP hD hS hA rfl rfl (by decide) (by decide) (by decide +kernel) 0 0 rfl rfl (fun hPc hDc hF => z_runV (As := [.int (nI j0), .int 8]) (rest := []) ⟨hx, hb, hml, hown, hg⟩ (cX11_checkRange_5 l K H.size a0 g0 j0 hj0) kV_RX11_72 hd_X11_checkRange rfl rfl ⟨(Nat.le_of_ble_eq_true rfl), (Nat.le_of_ble_eq_true rfl)⟩ hK hS hZ hPc hDc hF 0 rfl rfl rfl hl.1 rfl (Nat.le_of_ble_eq_true rfl) dX11_needed_4 ⟨(Nat.le_of_ble_eq_true rfl), (Nat.le_of_ble_eq_true rfl)⟩) (fun u1 H locs w2 hP hD hS => ?_)
  have hP : va_P K.1 classes [(a0, zO 9 9 g0)] H := hP
  have hD : va_D A [(a0, zO 9 9 g0)] := hD
  refine lv_iload_n hx hb dX11_needed_7 rfl (lv_at hl 2 rfl) ?_
  refine lv_if_ge (tgt := 21) hx hb dX11_needed_8 (by decide) (fun c => absurd c e0) (fun _ => ?_)
  exact z_throw (ik := 82) (is := 148) (ic := 86) hx hb hl9 hg hown (by decide +kernel) mt500 mt16 hZ.1.2.2.2.2.2.2.1 (at_zIA hg hZ) ok_zIA hZ hS hl.1 hml dX11_needed_11 dX11_needed_14 dX11_needed_15 dX11_needed_17 dX11_needed_20 hno hlocks (Nat.le_of_ble_eq_true rfl) (Nat.le_of_ble_eq_true rfl) (Nat.le_of_ble_eq_true rfl) (Nat.le_of_ble_eq_true rfl) (Nat.le_of_ble_eq_true rfl) (Nat.le_of_ble_eq_true rfl)
set_option maxHeartbeats 4000000 in
set_option maxRecDepth 100000 in
theorem cL_needed_2 (l : Launch) (hl9 : l.stackTraces = false) (K : zK) (sz : Nat) (a0 : Nat) (a1 : Nat) (g0 : Nat → Value) (j0 : Nat) (hj0 : j0 < 8) (x1 : Int32) (e0 : ¬ (0 : Int32) ≤ x1) : vx_Met l yL_needed (Cond.codeWith yL_needed cL_needed 5 (some .int) [(0, 10, 13, 18)] :: WG) { frames := 7, cells := 1, slots := 6, locals := 104 } (zPre K [(a0, zO 9 9 g0)] sz [.ref a0, .int (nI j0), .int x1, .ref a1]) (va_Qi (fun (r : Int32) (_ : Nat → Nat) => r = 1) (zB K (va_A [(a0, zO 9 9 g0)] sz) (fun u : Nat → Nat => [])) (va_A [(a0, zO 9 9 g0)] sz)) (vx_X (fun _ : Unit => False) (fun _ _ _ => True) (va_A [(a0, zO 9 9 g0)] sz)) 1 6 (va_A [(a0, zO 9 9 g0)] sz) := by
  refine z_hmet (Qc := fun A => (va_Qi (fun (r : Int32) (_ : Nat → Nat) => r = 1) (zB K A (fun u : Nat → Nat => [])) A)) (XC := fun A => vx_X (fun _ : Unit => False) (fun _ _ _ => True) A) (by decide +kernel) (Nat.le_of_ble_eq_true rfl) ?_
  intro p e s m args below meth c A ls H hx hb hr hg hown hlocks hml hTab hK hP hD hA hS hZ hl
  have hown : s.vm.findClass RL = some m.cls := hown
  have hl : lv_has ls 5 [(0, .ref a0), (1, .int (nI j0)), (2, .int x1), (3, .ref a1)] := hl
  refine lv_aload_n hx hb dL_needed_0 rfl (lv_at hl 3 rfl) ?_
  refine lv_iconst (v := 0) hx hb dL_needed_1 (by decide) ?_
  refine lv_aload_n hx hb dL_needed_2 rfl (lv_at hl 0 rfl) ?_
  refine lv_iload_n hx hb dL_needed_3 rfl (lv_at hl 1 rfl) ?_
  refine lv_iload_n hx hb dL_needed_4 rfl (lv_at hl 2 rfl) ?_
  refine z_xcall (EX := zIA) [(a0, zO 9 9 g0)] [0] hP hD hS hA rfl (by decide) 1 6 rfl rfl (fun hPc hDc hF => z_xrunV (As := [.int (nI j0), .int x1]) (rest := [.int 0, .ref a1]) ⟨hx, hb, hml, hown, hg⟩ (cX11_needed_2 l hl9 K H.size a0 g0 j0 hj0 x1 e0) kV_RL_84 hd_X11_needed rfl rfl ⟨(Nat.le_of_ble_eq_true rfl), (Nat.le_of_ble_eq_true rfl)⟩ hK hS hZ hPc hDc hF 0 rfl rfl rfl hl.1 rfl (Nat.le_of_ble_eq_true rfl) dL_needed_5 ⟨(Nat.le_of_ble_eq_true rfl), (Nat.le_of_ble_eq_true rfl)⟩) (fun ce q9 H locs hS hce hcv hcl => ?_)
  refine vx_catch (own := RL) (name := zIA) (E := zIA) hown [] ⟨0, 10, 13, 18⟩ [] (by rw [hTab]; rfl) (fun z hz => nomatch hz) (by decide) (by decide) (hg _ mt491) (va_Nw.use rfl hZ.1.1.2.1) hce hcv hcl ?_
  have hP : va_P K.1 classes [] H := z_P0
  have hD : va_D A [] := z_D0
  refine lv_astore (lv' := [(4, .ref q9), (0, .ref a0), (1, .int (nI j0)), (2, .int x1), (3, .ref a1)]) hx hb dL_needed_13 hl (by decide) rfl (fun ls hl => ?_)
  refine lv_iconst (v := 1) hx hb dL_needed_15 (by decide) ?_
  have hP9 : va_P K.1 classes [] H := hP.sub [] rfl
  have hD9 : va_D A [] := hD.sub [] (by decide) rfl
  exact z_iret hx hb hr (fun _ => 0) rfl hP9 hD9 hS (Nat.le_of_ble_eq_true rfl) (Nat.le_of_ble_eq_true rfl) hlocks dL_needed_16
set_option maxHeartbeats 4000000 in
set_option maxRecDepth 100000 in
theorem cX12_needed_2 (l : Launch) (K : zK) (sz : Nat) (a0 : Nat) (g0 : Nat → Value) (j0 : Nat) (hj0 : j0 < 8) (x1 : Int32) (e0 : x1 < (0 : Int32)) : Met l yX12_needed (Cond.code yX12_needed cX12_needed 3 (some .int) :: WG) { frames := 2, cells := 0, slots := 0, locals := 42 } (zPre K [(a0, zO 10 83 g0)] sz [.ref a0, .int (nI j0), .int x1]) (va_Qi (fun (r : Int32) (_ : Nat → Nat) => r = 0) (zB K (va_A [(a0, zO 10 83 g0)] sz) (fun u : Nat → Nat => [(a0, zO 10 83 (va_up g0 81 (.int 1)))])) (va_A [(a0, zO 10 83 g0)] sz)) 0 0 (va_A [(a0, zO 10 83 g0)] sz) := by
  refine z_met (Qc := fun A => (va_Qi (fun (r : Int32) (_ : Nat → Nat) => r = 0) (zB K A (fun u : Nat → Nat => [(a0, zO 10 83 (va_up g0 81 (.int 1)))])) A)) (by decide +kernel) (Nat.le_of_ble_eq_true rfl) ?_
  intro p e s m args below meth c A ls H hx hb hr hg hown hlocks hml hin hK hP hD hA hS hZ hl
  have hown : s.vm.findClass RX12 = some m.cls := hown
  have hl : lv_has ls 3 [(0, .ref a0), (1, .int (nI j0)), (2, .int x1)] := hl
  refine lv_aload_n hx hb dX12_needed_0 rfl (lv_at hl 0 rfl) ?_
  refine lv_iload_n hx hb dX12_needed_1 rfl (lv_at hl 1 rfl) ?_
  refine z_calli [] [(a0, zO 10 83 g0)] [] [0] hP hD hS hA rfl rfl (by decide) (by decide) (by decide +kernel) 0 0 rfl rfl (fun hPc hDc hF => z_runS (As := [.int (nI j0)]) (rest := [.ref a0]) ⟨hx, hb, hml, hown, hg⟩ (cX12_isGlobal_2 l K H.size j0 hj0) kS_RX12_197 hd_X12_isGlobal rfl rfl ⟨(Nat.le_of_ble_eq_true rfl), (Nat.le_of_ble_eq_true rfl)⟩ hK hS hZ hPc hDc hF rfl hl.1 rfl (Nat.le_of_ble_eq_true rfl) dX12_needed_2 ⟨(Nat.le_of_ble_eq_true rfl), (Nat.le_of_ble_eq_true rfl)⟩) (fun r3 u1 H locs w2 hP hD hS => ?_)
  subst w2
  have hP : va_P K.1 classes [(a0, zO 10 83 g0)] H := hP
  have hD : va_D A [(a0, zO 10 83 g0)] := hD
  refine lv_if_eq (tgt := 16) hx hb dX12_needed_5 (by decide) (fun c => absurd c (by decide)) (fun _ => ?_)
  refine lv_iload_n hx hb dX12_needed_8 rfl (lv_at hl 2 rfl) ?_
  refine lv_if_lt (tgt := 16) hx hb dX12_needed_9 (by decide) (fun _ => ?_) (fun c => absurd e0 c)
  refine lv_iconst (v := 1) hx hb dX12_needed_16 (by decide) ?_
  refine z_calli [(a0, zO 10 83 g0)] [] [0] [] hP hD hS hA rfl rfl (by decide) (by decide) (by decide +kernel) 0 0 rfl rfl (fun hPc hDc hF => z_runV (As := [.int 1]) (rest := []) ⟨hx, hb, hml, hown, hg⟩ (cX12_can_2 l K H.size a0 g0) kV_RX12_182 hd_X12_can rfl rfl ⟨(Nat.le_of_ble_eq_true rfl), (Nat.le_of_ble_eq_true rfl)⟩ hK hS hZ hPc hDc hF 0 rfl rfl rfl hl.1 rfl (Nat.le_of_ble_eq_true rfl) dX12_needed_17 ⟨(Nat.le_of_ble_eq_true rfl), (Nat.le_of_ble_eq_true rfl)⟩) (fun r6 u4 H locs w5 hP hD hS => ?_)
  subst w5
  have hP : va_P K.1 classes [(a0, zO 10 83 (va_up g0 81 (.int 1)))] H := hP
  have hD : va_D A [(a0, zO 10 83 (va_up g0 81 (.int 1)))] := hD
  refine lv_if_ne (tgt := 25) hx hb dX12_needed_20 (by decide) (fun c => absurd (by decide) c) (fun _ => ?_)
  refine lv_iconst (v := 0) hx hb dX12_needed_23 (by decide) ?_
  have hP9 : va_P K.1 classes [(a0, zO 10 83 (va_up g0 81 (.int 1)))] H := hP.sub [0] rfl
  have hD9 : va_D A [(a0, zO 10 83 (va_up g0 81 (.int 1)))] := hD.sub [0] (by decide) rfl
  exact z_iret hx hb hr (fun _ => 0) rfl hP9 hD9 hS (Nat.le_of_ble_eq_true rfl) (Nat.le_of_ble_eq_true rfl) hlocks dX12_needed_24
set_option maxHeartbeats 4000000 in
set_option maxRecDepth 100000 in
theorem cX5_firstLams_1 (l : Launch) (K : zK) (sz : Nat) (a0 : Nat) (a1 : Nat) (g0 : Nat → Value) (f1 : Nat → Int32) (j0 : Nat) (hj0 : j0 < 8) (e0 : g0 1 = (.ref a1)) (e1 : ∀ j : Nat, f1 j = 0) : Met l yX5_firstLams (Cond.code yX5_firstLams cX5_firstLams 4 (some .int) :: WG) { frames := 1, cells := 0, slots := 0, locals := 21 } (zPre K [(a0, zO 4 6 g0), (a1, zI K 8 f1)] sz [.ref a0, .int (nI j0)]) (va_Qi (fun (r : Int32) (_ : Nat → Nat) => r = 0) (zB K (va_A [(a0, zO 4 6 g0), (a1, zI K 8 f1)] sz) (fun u : Nat → Nat => [(a0, zO 4 6 g0), (a1, zI K 8 f1)])) (va_A [(a0, zO 4 6 g0), (a1, zI K 8 f1)] sz)) 0 0 (va_A [(a0, zO 4 6 g0), (a1, zI K 8 f1)] sz) := by
  refine z_met (Qc := fun A => (va_Qi (fun (r : Int32) (_ : Nat → Nat) => r = 0) (zB K A (fun u : Nat → Nat => [(a0, zO 4 6 g0), (a1, zI K 8 f1)])) A)) (by decide +kernel) (Nat.le_of_ble_eq_true rfl) ?_
  intro p e s m args below meth c A ls H hx hb hr hg hown hlocks hml hin hK hP hD hA hS hZ hl
  have hown : s.vm.findClass RX5 = some m.cls := hown
  have hl : lv_has ls 4 [(0, .ref a0), (1, .int (nI j0))] := hl
  refine lv_iconst (v := 0) hx hb dX5_firstLams_0 (by decide) ?_
  refine lv_istore_n (lv' := [(2, .int 0), (0, .ref a0), (1, .int (nI j0))]) hx hb dX5_firstLams_1 rfl hl (by decide) rfl (fun ls hl => ?_)
  refine lv_aload_n hx hb dX5_firstLams_2 rfl (lv_at hl 1 rfl) ?_
  refine lv_iload_n hx hb dX5_firstLams_3 rfl (lv_at hl 2 rfl) ?_
  refine z_calli [(a0, zO 4 6 g0), (a1, zI K 8 f1)] [] [0, 1] [] hP hD hS hA rfl rfl (by decide) (by decide) (by decide +kernel) 0 0 rfl rfl (fun hPc hDc hF => z_runV (As := [.int (nI j0)]) (rest := []) ⟨hx, hb, hml, hown, hg⟩ (cX5_sizeOf_1 l K H.size a0 a1 g0 f1 j0 hj0 e0 e1) kV_RX5_41 hd_X5_sizeOf rfl rfl ⟨(Nat.le_of_ble_eq_true rfl), (Nat.le_of_ble_eq_true rfl)⟩ hK hS hZ hPc hDc hF 0 rfl rfl rfl hl.1 rfl (Nat.le_of_ble_eq_true rfl) dX5_firstLams_4 ⟨(Nat.le_of_ble_eq_true rfl), (Nat.le_of_ble_eq_true rfl)⟩) (fun r3 u1 H locs w2 hP hD hS => ?_)
  subst w2
  have hP : va_P K.1 classes [(a0, zO 4 6 g0), (a1, zI K 8 f1)] H := hP
  have hD : va_D A [(a0, zO 4 6 g0), (a1, zI K 8 f1)] := hD
  refine lv_istore_n (lv' := [(3, .int 0), (2, .int 0), (0, .ref a0), (1, .int (nI j0))]) hx hb dX5_firstLams_7 rfl hl (by decide) rfl (fun ls hl => ?_)
  refine lv_iload_n hx hb dX5_firstLams_8 rfl (lv_at hl 1 rfl) ?_
  refine lv_iload_n hx hb dX5_firstLams_9 rfl (lv_at hl 0 rfl) ?_
  refine lv_icmp_ge (tgt := 37) hx hb dX5_firstLams_10 (by decide) (fun _ => ?_) (fun c => absurd (by decide) c)
  refine lv_iload_n hx hb dX5_firstLams_37 rfl (lv_at hl 1 rfl) ?_
  have hP9 : va_P K.1 classes [(a0, zO 4 6 g0), (a1, zI K 8 f1)] H := hP.sub [0, 1] rfl
  have hD9 : va_D A [(a0, zO 4 6 g0), (a1, zI K 8 f1)] := hD.sub [0, 1] (by decide) rfl
  exact z_iret hx hb hr (fun _ => 0) rfl hP9 hD9 hS (Nat.le_of_ble_eq_true rfl) (Nat.le_of_ble_eq_true rfl) hlocks dX5_firstLams_38
set_option maxHeartbeats 4000000 in
set_option maxRecDepth 100000 in
theorem cX11_needed_3 (l : Launch) (K : zK) (sz : Nat) (a0 : Nat) (a1 : Nat) (a2 : Nat) (g0 : Nat → Value) (g1 : Nat → Value) (f2 : Nat → Int32) (j0 : Nat) (hj0 : j0 < 8) (x1 : Int32) (e0 : (0 : Int32) ≤ x1) (e1 : g0 3 = (.ref a1)) (e2 : g1 1 = (.ref a2)) (e3 : ∀ j : Nat, f2 j = 0) (e4 : ¬ x1 < (0 : Int32)) : Met l yX11_needed (Cond.code yX11_needed cX11_needed 3 (some .int) :: WG) { frames := 2, cells := 0, slots := 0, locals := 44 } (zPre K [(a0, zO 9 9 g0), (a1, zO 4 6 g1), (a2, zI K 8 f2)] sz [.ref a0, .int (nI j0), .int x1]) (va_Qi (fun (r : Int32) (_ : Nat → Nat) => r = (-1)) (zB K (va_A [(a0, zO 9 9 g0), (a1, zO 4 6 g1), (a2, zI K 8 f2)] sz) (fun u : Nat → Nat => [])) (va_A [(a0, zO 9 9 g0), (a1, zO 4 6 g1), (a2, zI K 8 f2)] sz)) 0 0 (va_A [(a0, zO 9 9 g0), (a1, zO 4 6 g1), (a2, zI K 8 f2)] sz) := by
  refine z_met (Qc := fun A => (va_Qi (fun (r : Int32) (_ : Nat → Nat) => r = (-1)) (zB K A (fun u : Nat → Nat => [])) A)) (by decide +kernel) (Nat.le_of_ble_eq_true rfl) ?_
  intro p e s m args below meth c A ls H hx hb hr hg hown hlocks hml hin hK hP hD hA hS hZ hl
  have hown : s.vm.findClass RX11 = some m.cls := hown
  have hl : lv_has ls 3 [(0, .ref a0), (1, .int (nI j0)), (2, .int x1)] := hl
  refine lv_aload_n hx hb dX11_needed_0 rfl (lv_at hl 0 rfl) ?_
  refine lv_iload_n hx hb dX11_needed_1 rfl (lv_at hl 1 rfl) ?_
  refine lv_bipush (v := 8) hx hb dX11_needed_2 (by decide) ?_
  refine z_callv [(a0, zO 9 9 g0)] [(a1, zO 4 6 g1), (a2, zI K 8 f2)] [0] [1, 2] hP hD hS hA rfl rfl (by decide) (by decide) (by decide +kernel) 0 0 rfl rfl (fun hPc hDc hF => z_runV (As := [.int (nI j0), .int 8]) (rest := []) ⟨hx, hb, hml, hown, hg⟩ (cX11_checkRange_5 l K H.size a0 g0 j0 hj0) kV_RX11_72 hd_X11_checkRange rfl rfl ⟨(Nat.le_of_ble_eq_true rfl), (Nat.le_of_ble_eq_true rfl)⟩ hK hS hZ hPc hDc hF 0 rfl rfl rfl hl.1 rfl (Nat.le_of_ble_eq_true rfl) dX11_needed_4 ⟨(Nat.le_of_ble_eq_true rfl), (Nat.le_of_ble_eq_true rfl)⟩) (fun u1 H locs w2 hP hD hS => ?_)
  have hP : va_P K.1 classes [(a1, zO 4 6 g1), (a2, zI K 8 f2), (a0, zO 9 9 g0)] H := hP
  have hD : va_D A [(a1, zO 4 6 g1), (a2, zI K 8 f2), (a0, zO 9 9 g0)] := hD
  refine lv_iload_n hx hb dX11_needed_7 rfl (lv_at hl 2 rfl) ?_
  refine lv_if_ge (tgt := 21) hx hb dX11_needed_8 (by decide) (fun _ => ?_) (fun c => absurd e0 c)
  refine lv_iload_n hx hb dX11_needed_21 rfl (lv_at hl 2 rfl) ?_
  refine lv_aload_n hx hb dX11_needed_22 rfl (lv_at hl 0 rfl) ?_
  refine z_get (v := .ref a1) hx hb hg hown hK hP i_X11 rfl 2 rfl 3 (by decide) mt307 e1 dX11_needed_23 ?_
  refine lv_iload_n hx hb dX11_needed_26 rfl (lv_at hl 1 rfl) ?_
  refine z_calli [(a1, zO 4 6 g1), (a2, zI K 8 f2)] [(a0, zO 9 9 g0)] [0, 1] [2] hP hD hS hA rfl rfl (by decide) (by decide) (by decide +kernel) 0 0 rfl rfl (fun hPc hDc hF => z_runV (As := [.int (nI j0)]) (rest := [.int x1]) ⟨hx, hb, hml, hown, hg⟩ (cX5_firstLams_1 l K H.size a1 a2 g1 f2 j0 hj0 e2 e3) kV_RX11_150 hd_X5_firstLams rfl rfl ⟨(Nat.le_of_ble_eq_true rfl), (Nat.le_of_ble_eq_true rfl)⟩ hK hS hZ hPc hDc hF 0 rfl rfl rfl hl.1 rfl (Nat.le_of_ble_eq_true rfl) dX11_needed_27 ⟨(Nat.le_of_ble_eq_true rfl), (Nat.le_of_ble_eq_true rfl)⟩) (fun r6 u4 H locs w5 hP hD hS => ?_)
  subst w5
  have hP : va_P K.1 classes [(a0, zO 9 9 g0), (a1, zO 4 6 g1), (a2, zI K 8 f2)] H := hP
  have hD : va_D A [(a0, zO 9 9 g0), (a1, zO 4 6 g1), (a2, zI K 8 f2)] := hD
  refine lv_icmp_lt (tgt := 35) hx hb dX11_needed_30 (by decide) (fun c => absurd c e4) (fun _ => ?_)
  refine lv_iconst (v := (-1)) hx hb dX11_needed_33 (by decide) ?_
  have hP9 : va_P K.1 classes [] H := hP.sub [] rfl
  have hD9 : va_D A [] := hD.sub [] (by decide) rfl
  exact z_iret hx hb hr (fun _ => 0) rfl hP9 hD9 hS (Nat.le_of_ble_eq_true rfl) (Nat.le_of_ble_eq_true rfl) hlocks dX11_needed_34
set_option maxHeartbeats 4000000 in
set_option maxRecDepth 100000 in
theorem cL_needed_3 (l : Launch) (hl9 : l.stackTraces = false) (K : zK) (sz : Nat) (a0 : Nat) (a1 : Nat) (a2 : Nat) (a3 : Nat) (g0 : Nat → Value) (g2 : Nat → Value) (f3 : Nat → Int32) (f1 : Nat → Int64) (j0 : Nat) (hj0 : j0 < 8) (x1 : Int32) (e0 : (0 : Int32) ≤ x1) (e1 : g0 3 = (.ref a2)) (e2 : g2 1 = (.ref a3)) (e3 : ∀ j : Nat, f3 j = 0) (e4 : ¬ x1 < (0 : Int32)) : vx_Met l yL_needed (Cond.codeWith yL_needed cL_needed 5 (some .int) [(0, 10, 13, 18)] :: WG) { frames := 3, cells := 0, slots := 0, locals := 66 } (zPre K [(a0, zO 9 9 g0), (a2, zO 4 6 g2), (a3, zI K 8 f3), (a1, zJ K 1 f1)] sz [.ref a0, .int (nI j0), .int x1, .ref a1]) (va_Qi (fun (r : Int32) (_ : Nat → Nat) => r = 0) (zB K (va_A [(a0, zO 9 9 g0), (a2, zO 4 6 g2), (a3, zI K 8 f3), (a1, zJ K 1 f1)] sz) (fun u : Nat → Nat => [(a1, zJ K 1 (va_up f1 0 (-1)))])) (va_A [(a0, zO 9 9 g0), (a2, zO 4 6 g2), (a3, zI K 8 f3), (a1, zJ K 1 f1)] sz)) (vx_X (fun _ : Unit => False) (fun _ _ _ => True) (va_A [(a0, zO 9 9 g0), (a2, zO 4 6 g2), (a3, zI K 8 f3), (a1, zJ K 1 f1)] sz)) 0 0 (va_A [(a0, zO 9 9 g0), (a2, zO 4 6 g2), (a3, zI K 8 f3), (a1, zJ K 1 f1)] sz) := by
  refine z_hmet (Qc := fun A => (va_Qi (fun (r : Int32) (_ : Nat → Nat) => r = 0) (zB K A (fun u : Nat → Nat => [(a1, zJ K 1 (va_up f1 0 (-1)))])) A)) (XC := fun A => vx_X (fun _ : Unit => False) (fun _ _ _ => True) A) (by decide +kernel) (Nat.le_of_ble_eq_true rfl) ?_
  intro p e s m args below meth c A ls H hx hb hr hg hown hlocks hml hTab hK hP hD hA hS hZ hl
  have hown : s.vm.findClass RL = some m.cls := hown
  have hl : lv_has ls 5 [(0, .ref a0), (1, .int (nI j0)), (2, .int x1), (3, .ref a1)] := hl
  refine lv_aload_n hx hb dL_needed_0 rfl (lv_at hl 3 rfl) ?_
  refine lv_iconst (v := 0) hx hb dL_needed_1 (by decide) ?_
  refine lv_aload_n hx hb dL_needed_2 rfl (lv_at hl 0 rfl) ?_
  refine lv_iload_n hx hb dL_needed_3 rfl (lv_at hl 1 rfl) ?_
  refine lv_iload_n hx hb dL_needed_4 rfl (lv_at hl 2 rfl) ?_
  refine z_calli [(a0, zO 9 9 g0), (a2, zO 4 6 g2), (a3, zI K 8 f3)] [(a1, zJ K 1 f1)] [0, 1, 2] [3] hP hD hS hA rfl rfl (by decide) (by decide) (by decide +kernel) 0 0 rfl rfl (fun hPc hDc hF => z_runV (As := [.int (nI j0), .int x1]) (rest := [.int 0, .ref a1]) ⟨hx, hb, hml, hown, hg⟩ (cX11_needed_3 l K H.size a0 a2 a3 g0 g2 f3 j0 hj0 x1 e0 e1 e2 e3 e4) kV_RL_84 hd_X11_needed rfl rfl ⟨(Nat.le_of_ble_eq_true rfl), (Nat.le_of_ble_eq_true rfl)⟩ hK hS hZ hPc hDc hF 0 rfl rfl rfl hl.1 rfl (Nat.le_of_ble_eq_true rfl) dL_needed_5 ⟨(Nat.le_of_ble_eq_true rfl), (Nat.le_of_ble_eq_true rfl)⟩) (fun r3 u1 H locs w2 hP hD hS => ?_)
  subst w2
  have hP : va_P K.1 classes [(a1, zJ K 1 f1)] H := hP
  have hD : va_D A [(a1, zJ K 1 f1)] := hD
  refine lv_i2l hx hb dL_needed_8 rfl ?_
  refine z_cstl (v := (-1)) (by decide +kernel) ?_
  refine z_last (j := 0) hx hb hK hP hD hS 0 rfl rfl (Nat.le_of_ble_eq_true rfl) (Nat.le_of_ble_eq_true rfl) dL_needed_9 (fun ff4 H locs y5 hP hD hS => ?_)
  have hP : va_P K.1 classes [(a1, zJ K 1 ff4)] H := hP
  have hD : va_D A [(a1, zJ K 1 ff4)] := hD
  refine lv_goto (tgt := 17) hx hb dL_needed_10 (by decide) ?_
  refine lv_iconst (v := 0) hx hb dL_needed_17 (by decide) ?_
  subst y5
  have hP9 : va_P K.1 classes [(a1, zJ K 1 (va_up f1 0 (-1)))] H := hP.sub [0] rfl
  have hD9 : va_D A [(a1, zJ K 1 (va_up f1 0 (-1)))] := hD.sub [0] (by decide) rfl
  exact z_iret hx hb hr (fun _ => 0) rfl hP9 hD9 hS (Nat.le_of_ble_eq_true rfl) (Nat.le_of_ble_eq_true rfl) hlocks dL_needed_18
set_option maxHeartbeats 4000000 in
set_option maxRecDepth 100000 in
theorem cX12_copiesGlobal_1 (l : Launch) (K : zK) (sz : Nat) (a0 : Nat) (a1 : Nat) (g0 : Nat → Value) (f1 : Nat → Int32) (e0 : g0 14 = (.ref a1)) (e1 : f1 0 = 0) : Met l yX12_copiesGlobal (Cond.code yX12_copiesGlobal cX12_copiesGlobal 5 (some .int) :: WG) { frames := 0, cells := 0, slots := 0, locals := 0 } (zPre K [(a0, zO 10 83 g0), (a1, zI K 16 f1)] sz [.ref a0, .int 0, .int 4000]) (va_Qi (fun (r : Int32) (_ : Nat → Nat) => r = 4000) (zB K (va_A [(a0, zO 10 83 g0), (a1, zI K 16 f1)] sz) (fun u : Nat → Nat => [(a0, zO 10 83 g0), (a1, zI K 16 f1)])) (va_A [(a0, zO 10 83 g0), (a1, zI K 16 f1)] sz)) 0 0 (va_A [(a0, zO 10 83 g0), (a1, zI K 16 f1)] sz) := by
  refine z_met (Qc := fun A => (va_Qi (fun (r : Int32) (_ : Nat → Nat) => r = 4000) (zB K A (fun u : Nat → Nat => [(a0, zO 10 83 g0), (a1, zI K 16 f1)])) A)) (by decide +kernel) (Nat.le_of_ble_eq_true rfl) ?_
  intro p e s m args below meth c A ls H hx hb hr hg hown hlocks hml hin hK hP hD hA hS hZ hl
  have hown : s.vm.findClass RX12 = some m.cls := hown
  have hl : lv_has ls 5 [(0, .ref a0), (1, .int 0), (2, .int 4000)] := hl
  refine lv_iconst (v := 0) hx hb dX12_copiesGlobal_0 (by decide) ?_
  refine lv_istore_n (lv' := [(3, .int 0), (0, .ref a0), (1, .int 0), (2, .int 4000)]) hx hb dX12_copiesGlobal_1 rfl hl (by decide) rfl (fun ls hl => ?_)
  refine lv_iload_n hx hb dX12_copiesGlobal_2 rfl (lv_at hl 0 rfl) ?_
  refine lv_aload_n hx hb dX12_copiesGlobal_3 rfl (lv_at hl 1 rfl) ?_
  refine z_get (v := .ref a1) hx hb hg hown hK hP i_X12 rfl 0 rfl 14 (by decide) mt1294 e0 dX12_copiesGlobal_4 ?_
  refine lv_iload_n hx hb dX12_copiesGlobal_7 rfl (lv_at hl 2 rfl) ?_
  refine z_iald (v := 0) (j := 0) hx hb hK hP 1 rfl rfl (Nat.le_of_ble_eq_true rfl) (Nat.le_of_ble_eq_true rfl) e1 dX12_copiesGlobal_8 ?_
  refine lv_icmp_ge (tgt := 68) hx hb dX12_copiesGlobal_9 (by decide) (fun _ => ?_) (fun c => absurd (by decide) c)
  refine lv_iload_n hx hb dX12_copiesGlobal_68 rfl (lv_at hl 3 rfl) ?_
  refine lv_aload_n hx hb dX12_copiesGlobal_69 rfl (lv_at hl 1 rfl) ?_
  refine z_get (v := .ref a1) hx hb hg hown hK hP i_X12 rfl 0 rfl 14 (by decide) mt1294 e0 dX12_copiesGlobal_70 ?_
  refine lv_iload_n hx hb dX12_copiesGlobal_73 rfl (lv_at hl 2 rfl) ?_
  refine z_iald (v := 0) (j := 0) hx hb hK hP 1 rfl rfl (Nat.le_of_ble_eq_true rfl) (Nat.le_of_ble_eq_true rfl) e1 dX12_copiesGlobal_74 ?_
  refine lv_iadd hx hb dX12_copiesGlobal_75 ?_
  refine z_cst (v := 4000) (by decide +kernel) ?_
  have hP9 : va_P K.1 classes [(a0, zO 10 83 g0), (a1, zI K 16 f1)] H := hP.sub [0, 1] rfl
  have hD9 : va_D A [(a0, zO 10 83 g0), (a1, zI K 16 f1)] := hD.sub [0, 1] (by decide) rfl
  exact z_iret hx hb hr (fun _ => 0) rfl hP9 hD9 hS (Nat.le_of_ble_eq_true rfl) (Nat.le_of_ble_eq_true rfl) hlocks dX12_copiesGlobal_76
set_option maxHeartbeats 4000000 in
set_option maxRecDepth 100000 in
theorem cX12_ends_1 (l : Launch) (K : zK) (sz : Nat) (a0 : Nat) (g0 : Nat → Value) : Met l yX12_ends (Cond.code yX12_ends cX12_ends 6 none :: WG) { frames := 0, cells := 0, slots := 0, locals := 0 } (zPre K [(a0, zO 10 83 g0)] sz [.ref a0, .int 4000, .int 4000]) (va_Qv (fun _ : Nat → Nat => True) (zB K (va_A [(a0, zO 10 83 g0)] sz) (fun u : Nat → Nat => [(a0, zO 10 83 g0)])) (va_A [(a0, zO 10 83 g0)] sz)) 0 0 (va_A [(a0, zO 10 83 g0)] sz) := by
  refine z_met (Qc := fun A => (va_Qv (fun _ : Nat → Nat => True) (zB K A (fun u : Nat → Nat => [(a0, zO 10 83 g0)])) A)) (by decide +kernel) (Nat.le_of_ble_eq_true rfl) ?_
  intro p e s m args below meth c A ls H hx hb hr hg hown hlocks hml hin hK hP hD hA hS hZ hl
  have hown : s.vm.findClass RX12 = some m.cls := hown
  have hl : lv_has ls 6 [(0, .ref a0), (1, .int 4000), (2, .int 4000)] := hl
  refine lv_iload_n hx hb dX12_ends_0 rfl (lv_at hl 2 rfl) ?_
  refine lv_iconst (v := 1) hx hb dX12_ends_1 (by decide) ?_
  refine lv_isub hx hb dX12_ends_2 ?_
  refine z_cst (v := 3999) (by decide +kernel) ?_
  refine lv_istore_n (lv' := [(3, .int 3999), (0, .ref a0), (1, .int 4000), (2, .int 4000)]) hx hb dX12_ends_3 rfl hl (by decide) rfl (fun ls hl => ?_)
  refine lv_iload_n hx hb dX12_ends_4 rfl (lv_at hl 0 rfl) ?_
  refine lv_iload_n hx hb dX12_ends_5 rfl (lv_at hl 2 rfl) ?_
  refine lv_icmp_lt (tgt := 57) hx hb dX12_ends_6 (by decide) (fun _ => ?_) (fun c => absurd (by decide) c)
  have hP9 : va_P K.1 classes [(a0, zO 10 83 g0)] H := hP.sub [0] rfl
  have hD9 : va_D A [(a0, zO 10 83 g0)] := hD.sub [0] (by decide) rfl
  exact z_vret hx hb hr (fun _ => 0) trivial hP9 hD9 hS (Nat.le_of_ble_eq_true rfl) (Nat.le_of_ble_eq_true rfl) hlocks dX12_ends_57
set_option maxHeartbeats 4000000 in
set_option maxRecDepth 100000 in
theorem cX12_findsNeeds_1 (l : Launch) (K : zK) (sz : Nat) (a0 : Nat) (g0 : Nat → Value) : Met l yX12_findsNeeds (Cond.code yX12_findsNeeds cX12_findsNeeds 4 none :: WG) { frames := 0, cells := 0, slots := 0, locals := 0 } (zPre K [(a0, zO 10 83 g0)] sz [.ref a0, .int 4000, .int 4000]) (va_Qv (fun _ : Nat → Nat => True) (zB K (va_A [(a0, zO 10 83 g0)] sz) (fun u : Nat → Nat => [(a0, zO 10 83 g0)])) (va_A [(a0, zO 10 83 g0)] sz)) 0 0 (va_A [(a0, zO 10 83 g0)] sz) := by
  refine z_met (Qc := fun A => (va_Qv (fun _ : Nat → Nat => True) (zB K A (fun u : Nat → Nat => [(a0, zO 10 83 g0)])) A)) (by decide +kernel) (Nat.le_of_ble_eq_true rfl) ?_
  intro p e s m args below meth c A ls H hx hb hr hg hown hlocks hml hin hK hP hD hA hS hZ hl
  have hown : s.vm.findClass RX12 = some m.cls := hown
  have hl : lv_has ls 4 [(0, .ref a0), (1, .int 4000), (2, .int 4000)] := hl
  refine lv_iload_n hx hb dX12_findsNeeds_0 rfl (lv_at hl 2 rfl) ?_
  refine lv_iconst (v := 1) hx hb dX12_findsNeeds_1 (by decide) ?_
  refine lv_isub hx hb dX12_findsNeeds_2 ?_
  refine z_cst (v := 3999) (by decide +kernel) ?_
  refine lv_istore_n (lv' := [(3, .int 3999), (0, .ref a0), (1, .int 4000), (2, .int 4000)]) hx hb dX12_findsNeeds_3 rfl hl (by decide) rfl (fun ls hl => ?_)
  refine lv_iload_n hx hb dX12_findsNeeds_4 rfl (lv_at hl 0 rfl) ?_
  refine lv_iload_n hx hb dX12_findsNeeds_5 rfl (lv_at hl 2 rfl) ?_
  refine lv_icmp_lt (tgt := 26) hx hb dX12_findsNeeds_6 (by decide) (fun _ => ?_) (fun c => absurd (by decide) c)
  have hP9 : va_P K.1 classes [(a0, zO 10 83 g0)] H := hP.sub [0] rfl
  have hD9 : va_D A [(a0, zO 10 83 g0)] := hD.sub [0] (by decide) rfl
  exact z_vret hx hb hr (fun _ => 0) trivial hP9 hD9 hS (Nat.le_of_ble_eq_true rfl) (Nat.le_of_ble_eq_true rfl) hlocks dX12_findsNeeds_26
set_option maxHeartbeats 4000000 in
set_option maxRecDepth 100000 in
theorem cX12_looks_1 (l : Launch) (K : zK) (sz : Nat) (a0 : Nat) (a1 : Nat) (a2 : Nat) (g0 : Nat → Value) (f1 : Nat → Int32) (f2 : Nat → Int32) (e0 : g0 14 = (.ref a1)) (e1 : f1 0 = 0) (e2 : g0 31 = (.ref a2)) (e3 : f2 0 = 0) : Met l yX12_looks (Cond.code yX12_looks cX12_looks 10 (some .boolean) :: WG) { frames := 1, cells := 0, slots := 0, locals := 25 } (zPre K [(a0, zO 10 83 g0), (a1, zI K 16 f1), (a2, zI K 8 f2)] sz [.ref a0, .int 0]) (va_Qi (fun (r : Int32) (_ : Nat → Nat) => r = 0) (zB K (va_A [(a0, zO 10 83 g0), (a1, zI K 16 f1), (a2, zI K 8 f2)] sz) (fun u : Nat → Nat => [(a0, zO 10 83 g0), (a1, zI K 16 f1), (a2, zI K 8 f2)])) (va_A [(a0, zO 10 83 g0), (a1, zI K 16 f1), (a2, zI K 8 f2)] sz)) 0 0 (va_A [(a0, zO 10 83 g0), (a1, zI K 16 f1), (a2, zI K 8 f2)] sz) := by
  refine z_met (Qc := fun A => (va_Qi (fun (r : Int32) (_ : Nat → Nat) => r = 0) (zB K A (fun u : Nat → Nat => [(a0, zO 10 83 g0), (a1, zI K 16 f1), (a2, zI K 8 f2)])) A)) (by decide +kernel) (Nat.le_of_ble_eq_true rfl) ?_
  intro p e s m args below meth c A ls H hx hb hr hg hown hlocks hml hin hK hP hD hA hS hZ hl
  have hown : s.vm.findClass RX12 = some m.cls := hown
  have hl : lv_has ls 10 [(0, .ref a0), (1, .int 0)] := hl
  refine lv_sipush (v := 4000) hx hb dX12_looks_0 (by decide) ?_
  refine lv_istore_n (lv' := [(2, .int 4000), (0, .ref a0), (1, .int 0)]) hx hb dX12_looks_3 rfl hl (by decide) rfl (fun ls hl => ?_)
  refine lv_aload_n hx hb dX12_looks_4 rfl (lv_at hl 1 rfl) ?_
  refine lv_iload_n hx hb dX12_looks_5 rfl (lv_at hl 2 rfl) ?_
  refine lv_iload_n hx hb dX12_looks_6 rfl (lv_at hl 0 rfl) ?_
  refine z_calli [(a0, zO 10 83 g0), (a1, zI K 16 f1)] [(a2, zI K 8 f2)] [0, 1] [2] hP hD hS hA rfl rfl (by decide) (by decide) (by decide +kernel) 0 0 rfl rfl (fun hPc hDc hF => z_runV (As := [.int 0, .int 4000]) (rest := []) ⟨hx, hb, hml, hown, hg⟩ (cX12_copiesGlobal_1 l K H.size a0 a1 g0 f1 e0 e1) kV_RX12_273 hd_X12_copiesGlobal rfl rfl ⟨(Nat.le_of_ble_eq_true rfl), (Nat.le_of_ble_eq_true rfl)⟩ hK hS hZ hPc hDc hF 0 rfl rfl rfl hl.1 rfl (Nat.le_of_ble_eq_true rfl) dX12_looks_7 ⟨(Nat.le_of_ble_eq_true rfl), (Nat.le_of_ble_eq_true rfl)⟩) (fun r3 u1 H locs w2 hP hD hS => ?_)
  subst w2
  have hP : va_P K.1 classes [(a2, zI K 8 f2), (a0, zO 10 83 g0), (a1, zI K 16 f1)] H := hP
  have hD : va_D A [(a2, zI K 8 f2), (a0, zO 10 83 g0), (a1, zI K 16 f1)] := hD
  refine lv_istore_n (lv' := [(3, .int 4000), (2, .int 4000), (0, .ref a0), (1, .int 0)]) hx hb dX12_looks_10 rfl hl (by decide) rfl (fun ls hl => ?_)
  refine lv_aload_n hx hb dX12_looks_11 rfl (lv_at hl 2 rfl) ?_
  refine lv_iload_n hx hb dX12_looks_12 rfl (lv_at hl 1 rfl) ?_
  refine lv_iload_n hx hb dX12_looks_13 rfl (lv_at hl 0 rfl) ?_
  refine z_callv [(a0, zO 10 83 g0)] [(a2, zI K 8 f2), (a1, zI K 16 f1)] [1] [0, 2] hP hD hS hA rfl rfl (by decide) (by decide) (by decide +kernel) 0 0 rfl rfl (fun hPc hDc hF => z_runV (As := [.int 4000, .int 4000]) (rest := []) ⟨hx, hb, hml, hown, hg⟩ (cX12_ends_1 l K H.size a0 g0) kV_RX12_240 hd_X12_ends rfl rfl ⟨(Nat.le_of_ble_eq_true rfl), (Nat.le_of_ble_eq_true rfl)⟩ hK hS hZ hPc hDc hF 0 rfl rfl rfl hl.1 rfl (Nat.le_of_ble_eq_true rfl) dX12_looks_14 ⟨(Nat.le_of_ble_eq_true rfl), (Nat.le_of_ble_eq_true rfl)⟩) (fun u4 H locs w5 hP hD hS => ?_)
  have hP : va_P K.1 classes [(a2, zI K 8 f2), (a1, zI K 16 f1), (a0, zO 10 83 g0)] H := hP
  have hD : va_D A [(a2, zI K 8 f2), (a1, zI K 16 f1), (a0, zO 10 83 g0)] := hD
  refine lv_aload_n hx hb dX12_looks_17 rfl (lv_at hl 2 rfl) ?_
  refine lv_iload_n hx hb dX12_looks_18 rfl (lv_at hl 1 rfl) ?_
  refine lv_iload_n hx hb dX12_looks_19 rfl (lv_at hl 0 rfl) ?_
  refine z_callv [(a0, zO 10 83 g0)] [(a2, zI K 8 f2), (a1, zI K 16 f1)] [2] [0, 1] hP hD hS hA rfl rfl (by decide) (by decide) (by decide +kernel) 0 0 rfl rfl (fun hPc hDc hF => z_runV (As := [.int 4000, .int 4000]) (rest := []) ⟨hx, hb, hml, hown, hg⟩ (cX12_findsNeeds_1 l K H.size a0 g0) kV_RX12_276 hd_X12_findsNeeds rfl rfl ⟨(Nat.le_of_ble_eq_true rfl), (Nat.le_of_ble_eq_true rfl)⟩ hK hS hZ hPc hDc hF 0 rfl rfl rfl hl.1 rfl (Nat.le_of_ble_eq_true rfl) dX12_looks_20 ⟨(Nat.le_of_ble_eq_true rfl), (Nat.le_of_ble_eq_true rfl)⟩) (fun u7 H locs w8 hP hD hS => ?_)
  have hP : va_P K.1 classes [(a2, zI K 8 f2), (a1, zI K 16 f1), (a0, zO 10 83 g0)] H := hP
  have hD : va_D A [(a2, zI K 8 f2), (a1, zI K 16 f1), (a0, zO 10 83 g0)] := hD
  refine lv_iconst (v := 0) hx hb dX12_looks_23 (by decide) ?_
  refine lv_istore (lv' := [(4, .int 0), (3, .int 4000), (2, .int 4000), (0, .ref a0), (1, .int 0)]) hx hb dX12_looks_24 hl (by decide) rfl (fun ls hl => ?_)
  refine lv_iconst (v := 0) hx hb dX12_looks_26 (by decide) ?_
  refine lv_istore (lv' := [(5, .int 0), (4, .int 0), (3, .int 4000), (2, .int 4000), (0, .ref a0), (1, .int 0)]) hx hb dX12_looks_27 hl (by decide) rfl (fun ls hl => ?_)
  refine lv_aload_n hx hb dX12_looks_29 rfl (lv_at hl 4 rfl) ?_
  refine z_get (v := .ref a2) hx hb hg hown hK hP i_X12 rfl 2 rfl 31 (by decide) mt1311 e2 dX12_looks_30 ?_
  refine lv_iload_n hx hb dX12_looks_33 rfl (lv_at hl 5 rfl) ?_
  refine z_iald (v := 0) (j := 0) hx hb hK hP 0 rfl rfl (Nat.le_of_ble_eq_true rfl) (Nat.le_of_ble_eq_true rfl) e3 dX12_looks_34 ?_
  refine lv_if_le (tgt := 54) hx hb dX12_looks_35 (by decide) (fun _ => ?_) (fun c => absurd (by decide) c)
  refine lv_iconst (v := 0) hx hb dX12_looks_54 (by decide) ?_
  refine lv_istore (lv' := [(6, .int 0), (5, .int 0), (4, .int 0), (3, .int 4000), (2, .int 4000), (0, .ref a0), (1, .int 0)]) hx hb dX12_looks_55 hl (by decide) rfl (fun ls hl => ?_)
  refine lv_aload_n hx hb dX12_looks_57 rfl (lv_at hl 5 rfl) ?_
  refine z_get (v := .ref a2) hx hb hg hown hK hP i_X12 rfl 2 rfl 31 (by decide) mt1311 e2 dX12_looks_58 ?_
  refine lv_iload_n hx hb dX12_looks_61 rfl (lv_at hl 6 rfl) ?_
  refine z_iald (v := 0) (j := 0) hx hb hK hP 0 rfl rfl (Nat.le_of_ble_eq_true rfl) (Nat.le_of_ble_eq_true rfl) e3 dX12_looks_62 ?_
  refine lv_iconst (v := 1) hx hb dX12_looks_63 (by decide) ?_
  refine lv_isub hx hb dX12_looks_64 ?_
  refine z_cst (v := (-1)) (by decide +kernel) ?_
  refine lv_istore (lv' := [(7, .int (-1)), (6, .int 0), (5, .int 0), (4, .int 0), (3, .int 4000), (2, .int 4000), (0, .ref a0), (1, .int 0)]) hx hb dX12_looks_65 hl (by decide) rfl (fun ls hl => ?_)
  refine lv_iload hx hb dX12_looks_67 (lv_at hl 0 rfl) ?_
  refine lv_if_lt (tgt := 164) hx hb dX12_looks_69 (by decide) (fun _ => ?_) (fun c => absurd (by decide) c)
  refine lv_iload hx hb dX12_looks_164 (lv_at hl 3 rfl) ?_
  have hP9 : va_P K.1 classes [(a0, zO 10 83 g0), (a1, zI K 16 f1), (a2, zI K 8 f2)] H := hP.sub [2, 1, 0] rfl
  have hD9 : va_D A [(a0, zO 10 83 g0), (a1, zI K 16 f1), (a2, zI K 8 f2)] := hD.sub [2, 1, 0] (by decide) rfl
  exact z_zret hx hb hr rfl (fun _ => 0) rfl hP9 hD9 hS (Nat.le_of_ble_eq_true rfl) (Nat.le_of_ble_eq_true rfl) hlocks dX12_looks_166
set_option maxHeartbeats 4000000 in
set_option maxRecDepth 100000 in
theorem cX12_copiesGlobal_2 (l : Launch) (K : zK) (sz : Nat) (a0 : Nat) (a1 : Nat) (g0 : Nat → Value) (f1 : Nat → Int32) (e0 : g0 14 = (.ref a1)) (e1 : f1 1 = 0) : Met l yX12_copiesGlobal (Cond.code yX12_copiesGlobal cX12_copiesGlobal 5 (some .int) :: WG) { frames := 0, cells := 0, slots := 0, locals := 0 } (zPre K [(a0, zO 10 83 g0), (a1, zI K 16 f1)] sz [.ref a0, .int 1, .int 4000]) (va_Qi (fun (r : Int32) (_ : Nat → Nat) => r = 4000) (zB K (va_A [(a0, zO 10 83 g0), (a1, zI K 16 f1)] sz) (fun u : Nat → Nat => [(a0, zO 10 83 g0), (a1, zI K 16 f1)])) (va_A [(a0, zO 10 83 g0), (a1, zI K 16 f1)] sz)) 0 0 (va_A [(a0, zO 10 83 g0), (a1, zI K 16 f1)] sz) := by
  refine z_met (Qc := fun A => (va_Qi (fun (r : Int32) (_ : Nat → Nat) => r = 4000) (zB K A (fun u : Nat → Nat => [(a0, zO 10 83 g0), (a1, zI K 16 f1)])) A)) (by decide +kernel) (Nat.le_of_ble_eq_true rfl) ?_
  intro p e s m args below meth c A ls H hx hb hr hg hown hlocks hml hin hK hP hD hA hS hZ hl
  have hown : s.vm.findClass RX12 = some m.cls := hown
  have hl : lv_has ls 5 [(0, .ref a0), (1, .int 1), (2, .int 4000)] := hl
  refine lv_iconst (v := 0) hx hb dX12_copiesGlobal_0 (by decide) ?_
  refine lv_istore_n (lv' := [(3, .int 0), (0, .ref a0), (1, .int 1), (2, .int 4000)]) hx hb dX12_copiesGlobal_1 rfl hl (by decide) rfl (fun ls hl => ?_)
  refine lv_iload_n hx hb dX12_copiesGlobal_2 rfl (lv_at hl 0 rfl) ?_
  refine lv_aload_n hx hb dX12_copiesGlobal_3 rfl (lv_at hl 1 rfl) ?_
  refine z_get (v := .ref a1) hx hb hg hown hK hP i_X12 rfl 0 rfl 14 (by decide) mt1294 e0 dX12_copiesGlobal_4 ?_
  refine lv_iload_n hx hb dX12_copiesGlobal_7 rfl (lv_at hl 2 rfl) ?_
  refine z_iald (v := 0) (j := 1) hx hb hK hP 1 rfl rfl (Nat.le_of_ble_eq_true rfl) (Nat.le_of_ble_eq_true rfl) e1 dX12_copiesGlobal_8 ?_
  refine lv_icmp_ge (tgt := 68) hx hb dX12_copiesGlobal_9 (by decide) (fun _ => ?_) (fun c => absurd (by decide) c)
  refine lv_iload_n hx hb dX12_copiesGlobal_68 rfl (lv_at hl 3 rfl) ?_
  refine lv_aload_n hx hb dX12_copiesGlobal_69 rfl (lv_at hl 1 rfl) ?_
  refine z_get (v := .ref a1) hx hb hg hown hK hP i_X12 rfl 0 rfl 14 (by decide) mt1294 e0 dX12_copiesGlobal_70 ?_
  refine lv_iload_n hx hb dX12_copiesGlobal_73 rfl (lv_at hl 2 rfl) ?_
  refine z_iald (v := 0) (j := 1) hx hb hK hP 1 rfl rfl (Nat.le_of_ble_eq_true rfl) (Nat.le_of_ble_eq_true rfl) e1 dX12_copiesGlobal_74 ?_
  refine lv_iadd hx hb dX12_copiesGlobal_75 ?_
  refine z_cst (v := 4000) (by decide +kernel) ?_
  have hP9 : va_P K.1 classes [(a0, zO 10 83 g0), (a1, zI K 16 f1)] H := hP.sub [0, 1] rfl
  have hD9 : va_D A [(a0, zO 10 83 g0), (a1, zI K 16 f1)] := hD.sub [0, 1] (by decide) rfl
  exact z_iret hx hb hr (fun _ => 0) rfl hP9 hD9 hS (Nat.le_of_ble_eq_true rfl) (Nat.le_of_ble_eq_true rfl) hlocks dX12_copiesGlobal_76
set_option maxHeartbeats 4000000 in
set_option maxRecDepth 100000 in
theorem cX12_looks_2 (l : Launch) (K : zK) (sz : Nat) (a0 : Nat) (a1 : Nat) (a2 : Nat) (g0 : Nat → Value) (f1 : Nat → Int32) (f2 : Nat → Int32) (e0 : g0 14 = (.ref a1)) (e1 : f1 1 = 0) (e2 : g0 31 = (.ref a2)) (e3 : f2 1 = 0) : Met l yX12_looks (Cond.code yX12_looks cX12_looks 10 (some .boolean) :: WG) { frames := 1, cells := 0, slots := 0, locals := 25 } (zPre K [(a0, zO 10 83 g0), (a1, zI K 16 f1), (a2, zI K 8 f2)] sz [.ref a0, .int 1]) (va_Qi (fun (r : Int32) (_ : Nat → Nat) => r = 0) (zB K (va_A [(a0, zO 10 83 g0), (a1, zI K 16 f1), (a2, zI K 8 f2)] sz) (fun u : Nat → Nat => [(a0, zO 10 83 g0), (a1, zI K 16 f1), (a2, zI K 8 f2)])) (va_A [(a0, zO 10 83 g0), (a1, zI K 16 f1), (a2, zI K 8 f2)] sz)) 0 0 (va_A [(a0, zO 10 83 g0), (a1, zI K 16 f1), (a2, zI K 8 f2)] sz) := by
  refine z_met (Qc := fun A => (va_Qi (fun (r : Int32) (_ : Nat → Nat) => r = 0) (zB K A (fun u : Nat → Nat => [(a0, zO 10 83 g0), (a1, zI K 16 f1), (a2, zI K 8 f2)])) A)) (by decide +kernel) (Nat.le_of_ble_eq_true rfl) ?_
  intro p e s m args below meth c A ls H hx hb hr hg hown hlocks hml hin hK hP hD hA hS hZ hl
  have hown : s.vm.findClass RX12 = some m.cls := hown
  have hl : lv_has ls 10 [(0, .ref a0), (1, .int 1)] := hl
  refine lv_sipush (v := 4000) hx hb dX12_looks_0 (by decide) ?_
  refine lv_istore_n (lv' := [(2, .int 4000), (0, .ref a0), (1, .int 1)]) hx hb dX12_looks_3 rfl hl (by decide) rfl (fun ls hl => ?_)
  refine lv_aload_n hx hb dX12_looks_4 rfl (lv_at hl 1 rfl) ?_
  refine lv_iload_n hx hb dX12_looks_5 rfl (lv_at hl 2 rfl) ?_
  refine lv_iload_n hx hb dX12_looks_6 rfl (lv_at hl 0 rfl) ?_
  refine z_calli [(a0, zO 10 83 g0), (a1, zI K 16 f1)] [(a2, zI K 8 f2)] [0, 1] [2] hP hD hS hA rfl rfl (by decide) (by decide) (by decide +kernel) 0 0 rfl rfl (fun hPc hDc hF => z_runV (As := [.int 1, .int 4000]) (rest := []) ⟨hx, hb, hml, hown, hg⟩ (cX12_copiesGlobal_2 l K H.size a0 a1 g0 f1 e0 e1) kV_RX12_273 hd_X12_copiesGlobal rfl rfl ⟨(Nat.le_of_ble_eq_true rfl), (Nat.le_of_ble_eq_true rfl)⟩ hK hS hZ hPc hDc hF 0 rfl rfl rfl hl.1 rfl (Nat.le_of_ble_eq_true rfl) dX12_looks_7 ⟨(Nat.le_of_ble_eq_true rfl), (Nat.le_of_ble_eq_true rfl)⟩) (fun r3 u1 H locs w2 hP hD hS => ?_)
  subst w2
  have hP : va_P K.1 classes [(a2, zI K 8 f2), (a0, zO 10 83 g0), (a1, zI K 16 f1)] H := hP
  have hD : va_D A [(a2, zI K 8 f2), (a0, zO 10 83 g0), (a1, zI K 16 f1)] := hD
  refine lv_istore_n (lv' := [(3, .int 4000), (2, .int 4000), (0, .ref a0), (1, .int 1)]) hx hb dX12_looks_10 rfl hl (by decide) rfl (fun ls hl => ?_)
  refine lv_aload_n hx hb dX12_looks_11 rfl (lv_at hl 2 rfl) ?_
  refine lv_iload_n hx hb dX12_looks_12 rfl (lv_at hl 1 rfl) ?_
  refine lv_iload_n hx hb dX12_looks_13 rfl (lv_at hl 0 rfl) ?_
  refine z_callv [(a0, zO 10 83 g0)] [(a2, zI K 8 f2), (a1, zI K 16 f1)] [1] [0, 2] hP hD hS hA rfl rfl (by decide) (by decide) (by decide +kernel) 0 0 rfl rfl (fun hPc hDc hF => z_runV (As := [.int 4000, .int 4000]) (rest := []) ⟨hx, hb, hml, hown, hg⟩ (cX12_ends_1 l K H.size a0 g0) kV_RX12_240 hd_X12_ends rfl rfl ⟨(Nat.le_of_ble_eq_true rfl), (Nat.le_of_ble_eq_true rfl)⟩ hK hS hZ hPc hDc hF 0 rfl rfl rfl hl.1 rfl (Nat.le_of_ble_eq_true rfl) dX12_looks_14 ⟨(Nat.le_of_ble_eq_true rfl), (Nat.le_of_ble_eq_true rfl)⟩) (fun u4 H locs w5 hP hD hS => ?_)
  have hP : va_P K.1 classes [(a2, zI K 8 f2), (a1, zI K 16 f1), (a0, zO 10 83 g0)] H := hP
  have hD : va_D A [(a2, zI K 8 f2), (a1, zI K 16 f1), (a0, zO 10 83 g0)] := hD
  refine lv_aload_n hx hb dX12_looks_17 rfl (lv_at hl 2 rfl) ?_
  refine lv_iload_n hx hb dX12_looks_18 rfl (lv_at hl 1 rfl) ?_
  refine lv_iload_n hx hb dX12_looks_19 rfl (lv_at hl 0 rfl) ?_
  refine z_callv [(a0, zO 10 83 g0)] [(a2, zI K 8 f2), (a1, zI K 16 f1)] [2] [0, 1] hP hD hS hA rfl rfl (by decide) (by decide) (by decide +kernel) 0 0 rfl rfl (fun hPc hDc hF => z_runV (As := [.int 4000, .int 4000]) (rest := []) ⟨hx, hb, hml, hown, hg⟩ (cX12_findsNeeds_1 l K H.size a0 g0) kV_RX12_276 hd_X12_findsNeeds rfl rfl ⟨(Nat.le_of_ble_eq_true rfl), (Nat.le_of_ble_eq_true rfl)⟩ hK hS hZ hPc hDc hF 0 rfl rfl rfl hl.1 rfl (Nat.le_of_ble_eq_true rfl) dX12_looks_20 ⟨(Nat.le_of_ble_eq_true rfl), (Nat.le_of_ble_eq_true rfl)⟩) (fun u7 H locs w8 hP hD hS => ?_)
  have hP : va_P K.1 classes [(a2, zI K 8 f2), (a1, zI K 16 f1), (a0, zO 10 83 g0)] H := hP
  have hD : va_D A [(a2, zI K 8 f2), (a1, zI K 16 f1), (a0, zO 10 83 g0)] := hD
  refine lv_iconst (v := 0) hx hb dX12_looks_23 (by decide) ?_
  refine lv_istore (lv' := [(4, .int 0), (3, .int 4000), (2, .int 4000), (0, .ref a0), (1, .int 1)]) hx hb dX12_looks_24 hl (by decide) rfl (fun ls hl => ?_)
  refine lv_iconst (v := 0) hx hb dX12_looks_26 (by decide) ?_
  refine lv_istore (lv' := [(5, .int 0), (4, .int 0), (3, .int 4000), (2, .int 4000), (0, .ref a0), (1, .int 1)]) hx hb dX12_looks_27 hl (by decide) rfl (fun ls hl => ?_)
  refine lv_aload_n hx hb dX12_looks_29 rfl (lv_at hl 4 rfl) ?_
  refine z_get (v := .ref a2) hx hb hg hown hK hP i_X12 rfl 2 rfl 31 (by decide) mt1311 e2 dX12_looks_30 ?_
  refine lv_iload_n hx hb dX12_looks_33 rfl (lv_at hl 5 rfl) ?_
  refine z_iald (v := 0) (j := 1) hx hb hK hP 0 rfl rfl (Nat.le_of_ble_eq_true rfl) (Nat.le_of_ble_eq_true rfl) e3 dX12_looks_34 ?_
  refine lv_if_le (tgt := 54) hx hb dX12_looks_35 (by decide) (fun _ => ?_) (fun c => absurd (by decide) c)
  refine lv_iconst (v := 0) hx hb dX12_looks_54 (by decide) ?_
  refine lv_istore (lv' := [(6, .int 0), (5, .int 0), (4, .int 0), (3, .int 4000), (2, .int 4000), (0, .ref a0), (1, .int 1)]) hx hb dX12_looks_55 hl (by decide) rfl (fun ls hl => ?_)
  refine lv_aload_n hx hb dX12_looks_57 rfl (lv_at hl 5 rfl) ?_
  refine z_get (v := .ref a2) hx hb hg hown hK hP i_X12 rfl 2 rfl 31 (by decide) mt1311 e2 dX12_looks_58 ?_
  refine lv_iload_n hx hb dX12_looks_61 rfl (lv_at hl 6 rfl) ?_
  refine z_iald (v := 0) (j := 1) hx hb hK hP 0 rfl rfl (Nat.le_of_ble_eq_true rfl) (Nat.le_of_ble_eq_true rfl) e3 dX12_looks_62 ?_
  refine lv_iconst (v := 1) hx hb dX12_looks_63 (by decide) ?_
  refine lv_isub hx hb dX12_looks_64 ?_
  refine z_cst (v := (-1)) (by decide +kernel) ?_
  refine lv_istore (lv' := [(7, .int (-1)), (6, .int 0), (5, .int 0), (4, .int 0), (3, .int 4000), (2, .int 4000), (0, .ref a0), (1, .int 1)]) hx hb dX12_looks_65 hl (by decide) rfl (fun ls hl => ?_)
  refine lv_iload hx hb dX12_looks_67 (lv_at hl 0 rfl) ?_
  refine lv_if_lt (tgt := 164) hx hb dX12_looks_69 (by decide) (fun _ => ?_) (fun c => absurd (by decide) c)
  refine lv_iload hx hb dX12_looks_164 (lv_at hl 3 rfl) ?_
  have hP9 : va_P K.1 classes [(a0, zO 10 83 g0), (a1, zI K 16 f1), (a2, zI K 8 f2)] H := hP.sub [2, 1, 0] rfl
  have hD9 : va_D A [(a0, zO 10 83 g0), (a1, zI K 16 f1), (a2, zI K 8 f2)] := hD.sub [2, 1, 0] (by decide) rfl
  exact z_zret hx hb hr rfl (fun _ => 0) rfl hP9 hD9 hS (Nat.le_of_ble_eq_true rfl) (Nat.le_of_ble_eq_true rfl) hlocks dX12_looks_166
set_option maxHeartbeats 4000000 in
set_option maxRecDepth 100000 in
theorem cX12_copiesGlobal_3 (l : Launch) (K : zK) (sz : Nat) (a0 : Nat) (a1 : Nat) (g0 : Nat → Value) (f1 : Nat → Int32) (e0 : g0 14 = (.ref a1)) (e1 : f1 2 = 0) : Met l yX12_copiesGlobal (Cond.code yX12_copiesGlobal cX12_copiesGlobal 5 (some .int) :: WG) { frames := 0, cells := 0, slots := 0, locals := 0 } (zPre K [(a0, zO 10 83 g0), (a1, zI K 16 f1)] sz [.ref a0, .int 2, .int 4000]) (va_Qi (fun (r : Int32) (_ : Nat → Nat) => r = 4000) (zB K (va_A [(a0, zO 10 83 g0), (a1, zI K 16 f1)] sz) (fun u : Nat → Nat => [(a0, zO 10 83 g0), (a1, zI K 16 f1)])) (va_A [(a0, zO 10 83 g0), (a1, zI K 16 f1)] sz)) 0 0 (va_A [(a0, zO 10 83 g0), (a1, zI K 16 f1)] sz) := by
  refine z_met (Qc := fun A => (va_Qi (fun (r : Int32) (_ : Nat → Nat) => r = 4000) (zB K A (fun u : Nat → Nat => [(a0, zO 10 83 g0), (a1, zI K 16 f1)])) A)) (by decide +kernel) (Nat.le_of_ble_eq_true rfl) ?_
  intro p e s m args below meth c A ls H hx hb hr hg hown hlocks hml hin hK hP hD hA hS hZ hl
  have hown : s.vm.findClass RX12 = some m.cls := hown
  have hl : lv_has ls 5 [(0, .ref a0), (1, .int 2), (2, .int 4000)] := hl
  refine lv_iconst (v := 0) hx hb dX12_copiesGlobal_0 (by decide) ?_
  refine lv_istore_n (lv' := [(3, .int 0), (0, .ref a0), (1, .int 2), (2, .int 4000)]) hx hb dX12_copiesGlobal_1 rfl hl (by decide) rfl (fun ls hl => ?_)
  refine lv_iload_n hx hb dX12_copiesGlobal_2 rfl (lv_at hl 0 rfl) ?_
  refine lv_aload_n hx hb dX12_copiesGlobal_3 rfl (lv_at hl 1 rfl) ?_
  refine z_get (v := .ref a1) hx hb hg hown hK hP i_X12 rfl 0 rfl 14 (by decide) mt1294 e0 dX12_copiesGlobal_4 ?_
  refine lv_iload_n hx hb dX12_copiesGlobal_7 rfl (lv_at hl 2 rfl) ?_
  refine z_iald (v := 0) (j := 2) hx hb hK hP 1 rfl rfl (Nat.le_of_ble_eq_true rfl) (Nat.le_of_ble_eq_true rfl) e1 dX12_copiesGlobal_8 ?_
  refine lv_icmp_ge (tgt := 68) hx hb dX12_copiesGlobal_9 (by decide) (fun _ => ?_) (fun c => absurd (by decide) c)
  refine lv_iload_n hx hb dX12_copiesGlobal_68 rfl (lv_at hl 3 rfl) ?_
  refine lv_aload_n hx hb dX12_copiesGlobal_69 rfl (lv_at hl 1 rfl) ?_
  refine z_get (v := .ref a1) hx hb hg hown hK hP i_X12 rfl 0 rfl 14 (by decide) mt1294 e0 dX12_copiesGlobal_70 ?_
  refine lv_iload_n hx hb dX12_copiesGlobal_73 rfl (lv_at hl 2 rfl) ?_
  refine z_iald (v := 0) (j := 2) hx hb hK hP 1 rfl rfl (Nat.le_of_ble_eq_true rfl) (Nat.le_of_ble_eq_true rfl) e1 dX12_copiesGlobal_74 ?_
  refine lv_iadd hx hb dX12_copiesGlobal_75 ?_
  refine z_cst (v := 4000) (by decide +kernel) ?_
  have hP9 : va_P K.1 classes [(a0, zO 10 83 g0), (a1, zI K 16 f1)] H := hP.sub [0, 1] rfl
  have hD9 : va_D A [(a0, zO 10 83 g0), (a1, zI K 16 f1)] := hD.sub [0, 1] (by decide) rfl
  exact z_iret hx hb hr (fun _ => 0) rfl hP9 hD9 hS (Nat.le_of_ble_eq_true rfl) (Nat.le_of_ble_eq_true rfl) hlocks dX12_copiesGlobal_76
set_option maxHeartbeats 4000000 in
set_option maxRecDepth 100000 in
theorem cX12_looks_3 (l : Launch) (K : zK) (sz : Nat) (a0 : Nat) (a1 : Nat) (a2 : Nat) (g0 : Nat → Value) (f1 : Nat → Int32) (f2 : Nat → Int32) (e0 : g0 14 = (.ref a1)) (e1 : f1 2 = 0) (e2 : g0 31 = (.ref a2)) (e3 : f2 2 = 0) : Met l yX12_looks (Cond.code yX12_looks cX12_looks 10 (some .boolean) :: WG) { frames := 1, cells := 0, slots := 0, locals := 25 } (zPre K [(a0, zO 10 83 g0), (a1, zI K 16 f1), (a2, zI K 8 f2)] sz [.ref a0, .int 2]) (va_Qi (fun (r : Int32) (_ : Nat → Nat) => r = 0) (zB K (va_A [(a0, zO 10 83 g0), (a1, zI K 16 f1), (a2, zI K 8 f2)] sz) (fun u : Nat → Nat => [(a0, zO 10 83 g0), (a1, zI K 16 f1), (a2, zI K 8 f2)])) (va_A [(a0, zO 10 83 g0), (a1, zI K 16 f1), (a2, zI K 8 f2)] sz)) 0 0 (va_A [(a0, zO 10 83 g0), (a1, zI K 16 f1), (a2, zI K 8 f2)] sz) := by
  refine z_met (Qc := fun A => (va_Qi (fun (r : Int32) (_ : Nat → Nat) => r = 0) (zB K A (fun u : Nat → Nat => [(a0, zO 10 83 g0), (a1, zI K 16 f1), (a2, zI K 8 f2)])) A)) (by decide +kernel) (Nat.le_of_ble_eq_true rfl) ?_
  intro p e s m args below meth c A ls H hx hb hr hg hown hlocks hml hin hK hP hD hA hS hZ hl
  have hown : s.vm.findClass RX12 = some m.cls := hown
  have hl : lv_has ls 10 [(0, .ref a0), (1, .int 2)] := hl
  refine lv_sipush (v := 4000) hx hb dX12_looks_0 (by decide) ?_
  refine lv_istore_n (lv' := [(2, .int 4000), (0, .ref a0), (1, .int 2)]) hx hb dX12_looks_3 rfl hl (by decide) rfl (fun ls hl => ?_)
  refine lv_aload_n hx hb dX12_looks_4 rfl (lv_at hl 1 rfl) ?_
  refine lv_iload_n hx hb dX12_looks_5 rfl (lv_at hl 2 rfl) ?_
  refine lv_iload_n hx hb dX12_looks_6 rfl (lv_at hl 0 rfl) ?_
  refine z_calli [(a0, zO 10 83 g0), (a1, zI K 16 f1)] [(a2, zI K 8 f2)] [0, 1] [2] hP hD hS hA rfl rfl (by decide) (by decide) (by decide +kernel) 0 0 rfl rfl (fun hPc hDc hF => z_runV (As := [.int 2, .int 4000]) (rest := []) ⟨hx, hb, hml, hown, hg⟩ (cX12_copiesGlobal_3 l K H.size a0 a1 g0 f1 e0 e1) kV_RX12_273 hd_X12_copiesGlobal rfl rfl ⟨(Nat.le_of_ble_eq_true rfl), (Nat.le_of_ble_eq_true rfl)⟩ hK hS hZ hPc hDc hF 0 rfl rfl rfl hl.1 rfl (Nat.le_of_ble_eq_true rfl) dX12_looks_7 ⟨(Nat.le_of_ble_eq_true rfl), (Nat.le_of_ble_eq_true rfl)⟩) (fun r3 u1 H locs w2 hP hD hS => ?_)
  subst w2
  have hP : va_P K.1 classes [(a2, zI K 8 f2), (a0, zO 10 83 g0), (a1, zI K 16 f1)] H := hP
  have hD : va_D A [(a2, zI K 8 f2), (a0, zO 10 83 g0), (a1, zI K 16 f1)] := hD
  refine lv_istore_n (lv' := [(3, .int 4000), (2, .int 4000), (0, .ref a0), (1, .int 2)]) hx hb dX12_looks_10 rfl hl (by decide) rfl (fun ls hl => ?_)
  refine lv_aload_n hx hb dX12_looks_11 rfl (lv_at hl 2 rfl) ?_
  refine lv_iload_n hx hb dX12_looks_12 rfl (lv_at hl 1 rfl) ?_
  refine lv_iload_n hx hb dX12_looks_13 rfl (lv_at hl 0 rfl) ?_
  refine z_callv [(a0, zO 10 83 g0)] [(a2, zI K 8 f2), (a1, zI K 16 f1)] [1] [0, 2] hP hD hS hA rfl rfl (by decide) (by decide) (by decide +kernel) 0 0 rfl rfl (fun hPc hDc hF => z_runV (As := [.int 4000, .int 4000]) (rest := []) ⟨hx, hb, hml, hown, hg⟩ (cX12_ends_1 l K H.size a0 g0) kV_RX12_240 hd_X12_ends rfl rfl ⟨(Nat.le_of_ble_eq_true rfl), (Nat.le_of_ble_eq_true rfl)⟩ hK hS hZ hPc hDc hF 0 rfl rfl rfl hl.1 rfl (Nat.le_of_ble_eq_true rfl) dX12_looks_14 ⟨(Nat.le_of_ble_eq_true rfl), (Nat.le_of_ble_eq_true rfl)⟩) (fun u4 H locs w5 hP hD hS => ?_)
  have hP : va_P K.1 classes [(a2, zI K 8 f2), (a1, zI K 16 f1), (a0, zO 10 83 g0)] H := hP
  have hD : va_D A [(a2, zI K 8 f2), (a1, zI K 16 f1), (a0, zO 10 83 g0)] := hD
  refine lv_aload_n hx hb dX12_looks_17 rfl (lv_at hl 2 rfl) ?_
  refine lv_iload_n hx hb dX12_looks_18 rfl (lv_at hl 1 rfl) ?_
  refine lv_iload_n hx hb dX12_looks_19 rfl (lv_at hl 0 rfl) ?_
  refine z_callv [(a0, zO 10 83 g0)] [(a2, zI K 8 f2), (a1, zI K 16 f1)] [2] [0, 1] hP hD hS hA rfl rfl (by decide) (by decide) (by decide +kernel) 0 0 rfl rfl (fun hPc hDc hF => z_runV (As := [.int 4000, .int 4000]) (rest := []) ⟨hx, hb, hml, hown, hg⟩ (cX12_findsNeeds_1 l K H.size a0 g0) kV_RX12_276 hd_X12_findsNeeds rfl rfl ⟨(Nat.le_of_ble_eq_true rfl), (Nat.le_of_ble_eq_true rfl)⟩ hK hS hZ hPc hDc hF 0 rfl rfl rfl hl.1 rfl (Nat.le_of_ble_eq_true rfl) dX12_looks_20 ⟨(Nat.le_of_ble_eq_true rfl), (Nat.le_of_ble_eq_true rfl)⟩) (fun u7 H locs w8 hP hD hS => ?_)
  have hP : va_P K.1 classes [(a2, zI K 8 f2), (a1, zI K 16 f1), (a0, zO 10 83 g0)] H := hP
  have hD : va_D A [(a2, zI K 8 f2), (a1, zI K 16 f1), (a0, zO 10 83 g0)] := hD
  refine lv_iconst (v := 0) hx hb dX12_looks_23 (by decide) ?_
  refine lv_istore (lv' := [(4, .int 0), (3, .int 4000), (2, .int 4000), (0, .ref a0), (1, .int 2)]) hx hb dX12_looks_24 hl (by decide) rfl (fun ls hl => ?_)
  refine lv_iconst (v := 0) hx hb dX12_looks_26 (by decide) ?_
  refine lv_istore (lv' := [(5, .int 0), (4, .int 0), (3, .int 4000), (2, .int 4000), (0, .ref a0), (1, .int 2)]) hx hb dX12_looks_27 hl (by decide) rfl (fun ls hl => ?_)
  refine lv_aload_n hx hb dX12_looks_29 rfl (lv_at hl 4 rfl) ?_
  refine z_get (v := .ref a2) hx hb hg hown hK hP i_X12 rfl 2 rfl 31 (by decide) mt1311 e2 dX12_looks_30 ?_
  refine lv_iload_n hx hb dX12_looks_33 rfl (lv_at hl 5 rfl) ?_
  refine z_iald (v := 0) (j := 2) hx hb hK hP 0 rfl rfl (Nat.le_of_ble_eq_true rfl) (Nat.le_of_ble_eq_true rfl) e3 dX12_looks_34 ?_
  refine lv_if_le (tgt := 54) hx hb dX12_looks_35 (by decide) (fun _ => ?_) (fun c => absurd (by decide) c)
  refine lv_iconst (v := 0) hx hb dX12_looks_54 (by decide) ?_
  refine lv_istore (lv' := [(6, .int 0), (5, .int 0), (4, .int 0), (3, .int 4000), (2, .int 4000), (0, .ref a0), (1, .int 2)]) hx hb dX12_looks_55 hl (by decide) rfl (fun ls hl => ?_)
  refine lv_aload_n hx hb dX12_looks_57 rfl (lv_at hl 5 rfl) ?_
  refine z_get (v := .ref a2) hx hb hg hown hK hP i_X12 rfl 2 rfl 31 (by decide) mt1311 e2 dX12_looks_58 ?_
  refine lv_iload_n hx hb dX12_looks_61 rfl (lv_at hl 6 rfl) ?_
  refine z_iald (v := 0) (j := 2) hx hb hK hP 0 rfl rfl (Nat.le_of_ble_eq_true rfl) (Nat.le_of_ble_eq_true rfl) e3 dX12_looks_62 ?_
  refine lv_iconst (v := 1) hx hb dX12_looks_63 (by decide) ?_
  refine lv_isub hx hb dX12_looks_64 ?_
  refine z_cst (v := (-1)) (by decide +kernel) ?_
  refine lv_istore (lv' := [(7, .int (-1)), (6, .int 0), (5, .int 0), (4, .int 0), (3, .int 4000), (2, .int 4000), (0, .ref a0), (1, .int 2)]) hx hb dX12_looks_65 hl (by decide) rfl (fun ls hl => ?_)
  refine lv_iload hx hb dX12_looks_67 (lv_at hl 0 rfl) ?_
  refine lv_if_lt (tgt := 164) hx hb dX12_looks_69 (by decide) (fun _ => ?_) (fun c => absurd (by decide) c)
  refine lv_iload hx hb dX12_looks_164 (lv_at hl 3 rfl) ?_
  have hP9 : va_P K.1 classes [(a0, zO 10 83 g0), (a1, zI K 16 f1), (a2, zI K 8 f2)] H := hP.sub [2, 1, 0] rfl
  have hD9 : va_D A [(a0, zO 10 83 g0), (a1, zI K 16 f1), (a2, zI K 8 f2)] := hD.sub [2, 1, 0] (by decide) rfl
  exact z_zret hx hb hr rfl (fun _ => 0) rfl hP9 hD9 hS (Nat.le_of_ble_eq_true rfl) (Nat.le_of_ble_eq_true rfl) hlocks dX12_looks_166
set_option maxHeartbeats 4000000 in
set_option maxRecDepth 100000 in
theorem cX12_copiesGlobal_4 (l : Launch) (K : zK) (sz : Nat) (a0 : Nat) (a1 : Nat) (g0 : Nat → Value) (f1 : Nat → Int32) (e0 : g0 14 = (.ref a1)) (e1 : f1 3 = 0) : Met l yX12_copiesGlobal (Cond.code yX12_copiesGlobal cX12_copiesGlobal 5 (some .int) :: WG) { frames := 0, cells := 0, slots := 0, locals := 0 } (zPre K [(a0, zO 10 83 g0), (a1, zI K 16 f1)] sz [.ref a0, .int 3, .int 4000]) (va_Qi (fun (r : Int32) (_ : Nat → Nat) => r = 4000) (zB K (va_A [(a0, zO 10 83 g0), (a1, zI K 16 f1)] sz) (fun u : Nat → Nat => [(a0, zO 10 83 g0), (a1, zI K 16 f1)])) (va_A [(a0, zO 10 83 g0), (a1, zI K 16 f1)] sz)) 0 0 (va_A [(a0, zO 10 83 g0), (a1, zI K 16 f1)] sz) := by
  refine z_met (Qc := fun A => (va_Qi (fun (r : Int32) (_ : Nat → Nat) => r = 4000) (zB K A (fun u : Nat → Nat => [(a0, zO 10 83 g0), (a1, zI K 16 f1)])) A)) (by decide +kernel) (Nat.le_of_ble_eq_true rfl) ?_
  intro p e s m args below meth c A ls H hx hb hr hg hown hlocks hml hin hK hP hD hA hS hZ hl
  have hown : s.vm.findClass RX12 = some m.cls := hown
  have hl : lv_has ls 5 [(0, .ref a0), (1, .int 3), (2, .int 4000)] := hl
  refine lv_iconst (v := 0) hx hb dX12_copiesGlobal_0 (by decide) ?_
  refine lv_istore_n (lv' := [(3, .int 0), (0, .ref a0), (1, .int 3), (2, .int 4000)]) hx hb dX12_copiesGlobal_1 rfl hl (by decide) rfl (fun ls hl => ?_)
  refine lv_iload_n hx hb dX12_copiesGlobal_2 rfl (lv_at hl 0 rfl) ?_
  refine lv_aload_n hx hb dX12_copiesGlobal_3 rfl (lv_at hl 1 rfl) ?_
  refine z_get (v := .ref a1) hx hb hg hown hK hP i_X12 rfl 0 rfl 14 (by decide) mt1294 e0 dX12_copiesGlobal_4 ?_
  refine lv_iload_n hx hb dX12_copiesGlobal_7 rfl (lv_at hl 2 rfl) ?_
  refine z_iald (v := 0) (j := 3) hx hb hK hP 1 rfl rfl (Nat.le_of_ble_eq_true rfl) (Nat.le_of_ble_eq_true rfl) e1 dX12_copiesGlobal_8 ?_
  refine lv_icmp_ge (tgt := 68) hx hb dX12_copiesGlobal_9 (by decide) (fun _ => ?_) (fun c => absurd (by decide) c)
  refine lv_iload_n hx hb dX12_copiesGlobal_68 rfl (lv_at hl 3 rfl) ?_
  refine lv_aload_n hx hb dX12_copiesGlobal_69 rfl (lv_at hl 1 rfl) ?_
  refine z_get (v := .ref a1) hx hb hg hown hK hP i_X12 rfl 0 rfl 14 (by decide) mt1294 e0 dX12_copiesGlobal_70 ?_
  refine lv_iload_n hx hb dX12_copiesGlobal_73 rfl (lv_at hl 2 rfl) ?_
  refine z_iald (v := 0) (j := 3) hx hb hK hP 1 rfl rfl (Nat.le_of_ble_eq_true rfl) (Nat.le_of_ble_eq_true rfl) e1 dX12_copiesGlobal_74 ?_
  refine lv_iadd hx hb dX12_copiesGlobal_75 ?_
  refine z_cst (v := 4000) (by decide +kernel) ?_
  have hP9 : va_P K.1 classes [(a0, zO 10 83 g0), (a1, zI K 16 f1)] H := hP.sub [0, 1] rfl
  have hD9 : va_D A [(a0, zO 10 83 g0), (a1, zI K 16 f1)] := hD.sub [0, 1] (by decide) rfl
  exact z_iret hx hb hr (fun _ => 0) rfl hP9 hD9 hS (Nat.le_of_ble_eq_true rfl) (Nat.le_of_ble_eq_true rfl) hlocks dX12_copiesGlobal_76
set_option maxHeartbeats 4000000 in
set_option maxRecDepth 100000 in
theorem cX12_looks_4 (l : Launch) (K : zK) (sz : Nat) (a0 : Nat) (a1 : Nat) (a2 : Nat) (g0 : Nat → Value) (f1 : Nat → Int32) (f2 : Nat → Int32) (e0 : g0 14 = (.ref a1)) (e1 : f1 3 = 0) (e2 : g0 31 = (.ref a2)) (e3 : f2 3 = 0) : Met l yX12_looks (Cond.code yX12_looks cX12_looks 10 (some .boolean) :: WG) { frames := 1, cells := 0, slots := 0, locals := 25 } (zPre K [(a0, zO 10 83 g0), (a1, zI K 16 f1), (a2, zI K 8 f2)] sz [.ref a0, .int 3]) (va_Qi (fun (r : Int32) (_ : Nat → Nat) => r = 0) (zB K (va_A [(a0, zO 10 83 g0), (a1, zI K 16 f1), (a2, zI K 8 f2)] sz) (fun u : Nat → Nat => [(a0, zO 10 83 g0), (a1, zI K 16 f1), (a2, zI K 8 f2)])) (va_A [(a0, zO 10 83 g0), (a1, zI K 16 f1), (a2, zI K 8 f2)] sz)) 0 0 (va_A [(a0, zO 10 83 g0), (a1, zI K 16 f1), (a2, zI K 8 f2)] sz) := by
  refine z_met (Qc := fun A => (va_Qi (fun (r : Int32) (_ : Nat → Nat) => r = 0) (zB K A (fun u : Nat → Nat => [(a0, zO 10 83 g0), (a1, zI K 16 f1), (a2, zI K 8 f2)])) A)) (by decide +kernel) (Nat.le_of_ble_eq_true rfl) ?_
  intro p e s m args below meth c A ls H hx hb hr hg hown hlocks hml hin hK hP hD hA hS hZ hl
  have hown : s.vm.findClass RX12 = some m.cls := hown
  have hl : lv_has ls 10 [(0, .ref a0), (1, .int 3)] := hl
  refine lv_sipush (v := 4000) hx hb dX12_looks_0 (by decide) ?_
  refine lv_istore_n (lv' := [(2, .int 4000), (0, .ref a0), (1, .int 3)]) hx hb dX12_looks_3 rfl hl (by decide) rfl (fun ls hl => ?_)
  refine lv_aload_n hx hb dX12_looks_4 rfl (lv_at hl 1 rfl) ?_
  refine lv_iload_n hx hb dX12_looks_5 rfl (lv_at hl 2 rfl) ?_
  refine lv_iload_n hx hb dX12_looks_6 rfl (lv_at hl 0 rfl) ?_
  refine z_calli [(a0, zO 10 83 g0), (a1, zI K 16 f1)] [(a2, zI K 8 f2)] [0, 1] [2] hP hD hS hA rfl rfl (by decide) (by decide) (by decide +kernel) 0 0 rfl rfl (fun hPc hDc hF => z_runV (As := [.int 3, .int 4000]) (rest := []) ⟨hx, hb, hml, hown, hg⟩ (cX12_copiesGlobal_4 l K H.size a0 a1 g0 f1 e0 e1) kV_RX12_273 hd_X12_copiesGlobal rfl rfl ⟨(Nat.le_of_ble_eq_true rfl), (Nat.le_of_ble_eq_true rfl)⟩ hK hS hZ hPc hDc hF 0 rfl rfl rfl hl.1 rfl (Nat.le_of_ble_eq_true rfl) dX12_looks_7 ⟨(Nat.le_of_ble_eq_true rfl), (Nat.le_of_ble_eq_true rfl)⟩) (fun r3 u1 H locs w2 hP hD hS => ?_)
  subst w2
  have hP : va_P K.1 classes [(a2, zI K 8 f2), (a0, zO 10 83 g0), (a1, zI K 16 f1)] H := hP
  have hD : va_D A [(a2, zI K 8 f2), (a0, zO 10 83 g0), (a1, zI K 16 f1)] := hD
  refine lv_istore_n (lv' := [(3, .int 4000), (2, .int 4000), (0, .ref a0), (1, .int 3)]) hx hb dX12_looks_10 rfl hl (by decide) rfl (fun ls hl => ?_)
  refine lv_aload_n hx hb dX12_looks_11 rfl (lv_at hl 2 rfl) ?_
  refine lv_iload_n hx hb dX12_looks_12 rfl (lv_at hl 1 rfl) ?_
  refine lv_iload_n hx hb dX12_looks_13 rfl (lv_at hl 0 rfl) ?_
  refine z_callv [(a0, zO 10 83 g0)] [(a2, zI K 8 f2), (a1, zI K 16 f1)] [1] [0, 2] hP hD hS hA rfl rfl (by decide) (by decide) (by decide +kernel) 0 0 rfl rfl (fun hPc hDc hF => z_runV (As := [.int 4000, .int 4000]) (rest := []) ⟨hx, hb, hml, hown, hg⟩ (cX12_ends_1 l K H.size a0 g0) kV_RX12_240 hd_X12_ends rfl rfl ⟨(Nat.le_of_ble_eq_true rfl), (Nat.le_of_ble_eq_true rfl)⟩ hK hS hZ hPc hDc hF 0 rfl rfl rfl hl.1 rfl (Nat.le_of_ble_eq_true rfl) dX12_looks_14 ⟨(Nat.le_of_ble_eq_true rfl), (Nat.le_of_ble_eq_true rfl)⟩) (fun u4 H locs w5 hP hD hS => ?_)
  have hP : va_P K.1 classes [(a2, zI K 8 f2), (a1, zI K 16 f1), (a0, zO 10 83 g0)] H := hP
  have hD : va_D A [(a2, zI K 8 f2), (a1, zI K 16 f1), (a0, zO 10 83 g0)] := hD
  refine lv_aload_n hx hb dX12_looks_17 rfl (lv_at hl 2 rfl) ?_
  refine lv_iload_n hx hb dX12_looks_18 rfl (lv_at hl 1 rfl) ?_
  refine lv_iload_n hx hb dX12_looks_19 rfl (lv_at hl 0 rfl) ?_
  refine z_callv [(a0, zO 10 83 g0)] [(a2, zI K 8 f2), (a1, zI K 16 f1)] [2] [0, 1] hP hD hS hA rfl rfl (by decide) (by decide) (by decide +kernel) 0 0 rfl rfl (fun hPc hDc hF => z_runV (As := [.int 4000, .int 4000]) (rest := []) ⟨hx, hb, hml, hown, hg⟩ (cX12_findsNeeds_1 l K H.size a0 g0) kV_RX12_276 hd_X12_findsNeeds rfl rfl ⟨(Nat.le_of_ble_eq_true rfl), (Nat.le_of_ble_eq_true rfl)⟩ hK hS hZ hPc hDc hF 0 rfl rfl rfl hl.1 rfl (Nat.le_of_ble_eq_true rfl) dX12_looks_20 ⟨(Nat.le_of_ble_eq_true rfl), (Nat.le_of_ble_eq_true rfl)⟩) (fun u7 H locs w8 hP hD hS => ?_)
  have hP : va_P K.1 classes [(a2, zI K 8 f2), (a1, zI K 16 f1), (a0, zO 10 83 g0)] H := hP
  have hD : va_D A [(a2, zI K 8 f2), (a1, zI K 16 f1), (a0, zO 10 83 g0)] := hD
  refine lv_iconst (v := 0) hx hb dX12_looks_23 (by decide) ?_
  refine lv_istore (lv' := [(4, .int 0), (3, .int 4000), (2, .int 4000), (0, .ref a0), (1, .int 3)]) hx hb dX12_looks_24 hl (by decide) rfl (fun ls hl => ?_)
  refine lv_iconst (v := 0) hx hb dX12_looks_26 (by decide) ?_
  refine lv_istore (lv' := [(5, .int 0), (4, .int 0), (3, .int 4000), (2, .int 4000), (0, .ref a0), (1, .int 3)]) hx hb dX12_looks_27 hl (by decide) rfl (fun ls hl => ?_)
  refine lv_aload_n hx hb dX12_looks_29 rfl (lv_at hl 4 rfl) ?_
  refine z_get (v := .ref a2) hx hb hg hown hK hP i_X12 rfl 2 rfl 31 (by decide) mt1311 e2 dX12_looks_30 ?_
  refine lv_iload_n hx hb dX12_looks_33 rfl (lv_at hl 5 rfl) ?_
  refine z_iald (v := 0) (j := 3) hx hb hK hP 0 rfl rfl (Nat.le_of_ble_eq_true rfl) (Nat.le_of_ble_eq_true rfl) e3 dX12_looks_34 ?_
  refine lv_if_le (tgt := 54) hx hb dX12_looks_35 (by decide) (fun _ => ?_) (fun c => absurd (by decide) c)
  refine lv_iconst (v := 0) hx hb dX12_looks_54 (by decide) ?_
  refine lv_istore (lv' := [(6, .int 0), (5, .int 0), (4, .int 0), (3, .int 4000), (2, .int 4000), (0, .ref a0), (1, .int 3)]) hx hb dX12_looks_55 hl (by decide) rfl (fun ls hl => ?_)
  refine lv_aload_n hx hb dX12_looks_57 rfl (lv_at hl 5 rfl) ?_
  refine z_get (v := .ref a2) hx hb hg hown hK hP i_X12 rfl 2 rfl 31 (by decide) mt1311 e2 dX12_looks_58 ?_
  refine lv_iload_n hx hb dX12_looks_61 rfl (lv_at hl 6 rfl) ?_
  refine z_iald (v := 0) (j := 3) hx hb hK hP 0 rfl rfl (Nat.le_of_ble_eq_true rfl) (Nat.le_of_ble_eq_true rfl) e3 dX12_looks_62 ?_
  refine lv_iconst (v := 1) hx hb dX12_looks_63 (by decide) ?_
  refine lv_isub hx hb dX12_looks_64 ?_
  refine z_cst (v := (-1)) (by decide +kernel) ?_
  refine lv_istore (lv' := [(7, .int (-1)), (6, .int 0), (5, .int 0), (4, .int 0), (3, .int 4000), (2, .int 4000), (0, .ref a0), (1, .int 3)]) hx hb dX12_looks_65 hl (by decide) rfl (fun ls hl => ?_)
  refine lv_iload hx hb dX12_looks_67 (lv_at hl 0 rfl) ?_
  refine lv_if_lt (tgt := 164) hx hb dX12_looks_69 (by decide) (fun _ => ?_) (fun c => absurd (by decide) c)
  refine lv_iload hx hb dX12_looks_164 (lv_at hl 3 rfl) ?_
  have hP9 : va_P K.1 classes [(a0, zO 10 83 g0), (a1, zI K 16 f1), (a2, zI K 8 f2)] H := hP.sub [2, 1, 0] rfl
  have hD9 : va_D A [(a0, zO 10 83 g0), (a1, zI K 16 f1), (a2, zI K 8 f2)] := hD.sub [2, 1, 0] (by decide) rfl
  exact z_zret hx hb hr rfl (fun _ => 0) rfl hP9 hD9 hS (Nat.le_of_ble_eq_true rfl) (Nat.le_of_ble_eq_true rfl) hlocks dX12_looks_166
set_option maxHeartbeats 4000000 in
set_option maxRecDepth 100000 in
theorem cX12_copiesGlobal_5 (l : Launch) (K : zK) (sz : Nat) (a0 : Nat) (a1 : Nat) (g0 : Nat → Value) (f1 : Nat → Int32) (e0 : g0 14 = (.ref a1)) (e1 : f1 4 = 0) : Met l yX12_copiesGlobal (Cond.code yX12_copiesGlobal cX12_copiesGlobal 5 (some .int) :: WG) { frames := 0, cells := 0, slots := 0, locals := 0 } (zPre K [(a0, zO 10 83 g0), (a1, zI K 16 f1)] sz [.ref a0, .int 4, .int 4000]) (va_Qi (fun (r : Int32) (_ : Nat → Nat) => r = 4000) (zB K (va_A [(a0, zO 10 83 g0), (a1, zI K 16 f1)] sz) (fun u : Nat → Nat => [(a0, zO 10 83 g0), (a1, zI K 16 f1)])) (va_A [(a0, zO 10 83 g0), (a1, zI K 16 f1)] sz)) 0 0 (va_A [(a0, zO 10 83 g0), (a1, zI K 16 f1)] sz) := by
  refine z_met (Qc := fun A => (va_Qi (fun (r : Int32) (_ : Nat → Nat) => r = 4000) (zB K A (fun u : Nat → Nat => [(a0, zO 10 83 g0), (a1, zI K 16 f1)])) A)) (by decide +kernel) (Nat.le_of_ble_eq_true rfl) ?_
  intro p e s m args below meth c A ls H hx hb hr hg hown hlocks hml hin hK hP hD hA hS hZ hl
  have hown : s.vm.findClass RX12 = some m.cls := hown
  have hl : lv_has ls 5 [(0, .ref a0), (1, .int 4), (2, .int 4000)] := hl
  refine lv_iconst (v := 0) hx hb dX12_copiesGlobal_0 (by decide) ?_
  refine lv_istore_n (lv' := [(3, .int 0), (0, .ref a0), (1, .int 4), (2, .int 4000)]) hx hb dX12_copiesGlobal_1 rfl hl (by decide) rfl (fun ls hl => ?_)
  refine lv_iload_n hx hb dX12_copiesGlobal_2 rfl (lv_at hl 0 rfl) ?_
  refine lv_aload_n hx hb dX12_copiesGlobal_3 rfl (lv_at hl 1 rfl) ?_
  refine z_get (v := .ref a1) hx hb hg hown hK hP i_X12 rfl 0 rfl 14 (by decide) mt1294 e0 dX12_copiesGlobal_4 ?_
  refine lv_iload_n hx hb dX12_copiesGlobal_7 rfl (lv_at hl 2 rfl) ?_
  refine z_iald (v := 0) (j := 4) hx hb hK hP 1 rfl rfl (Nat.le_of_ble_eq_true rfl) (Nat.le_of_ble_eq_true rfl) e1 dX12_copiesGlobal_8 ?_
  refine lv_icmp_ge (tgt := 68) hx hb dX12_copiesGlobal_9 (by decide) (fun _ => ?_) (fun c => absurd (by decide) c)
  refine lv_iload_n hx hb dX12_copiesGlobal_68 rfl (lv_at hl 3 rfl) ?_
  refine lv_aload_n hx hb dX12_copiesGlobal_69 rfl (lv_at hl 1 rfl) ?_
  refine z_get (v := .ref a1) hx hb hg hown hK hP i_X12 rfl 0 rfl 14 (by decide) mt1294 e0 dX12_copiesGlobal_70 ?_
  refine lv_iload_n hx hb dX12_copiesGlobal_73 rfl (lv_at hl 2 rfl) ?_
  refine z_iald (v := 0) (j := 4) hx hb hK hP 1 rfl rfl (Nat.le_of_ble_eq_true rfl) (Nat.le_of_ble_eq_true rfl) e1 dX12_copiesGlobal_74 ?_
  refine lv_iadd hx hb dX12_copiesGlobal_75 ?_
  refine z_cst (v := 4000) (by decide +kernel) ?_
  have hP9 : va_P K.1 classes [(a0, zO 10 83 g0), (a1, zI K 16 f1)] H := hP.sub [0, 1] rfl
  have hD9 : va_D A [(a0, zO 10 83 g0), (a1, zI K 16 f1)] := hD.sub [0, 1] (by decide) rfl
  exact z_iret hx hb hr (fun _ => 0) rfl hP9 hD9 hS (Nat.le_of_ble_eq_true rfl) (Nat.le_of_ble_eq_true rfl) hlocks dX12_copiesGlobal_76
set_option maxHeartbeats 4000000 in
set_option maxRecDepth 100000 in
theorem cX12_looks_5 (l : Launch) (K : zK) (sz : Nat) (a0 : Nat) (a1 : Nat) (a2 : Nat) (g0 : Nat → Value) (f1 : Nat → Int32) (f2 : Nat → Int32) (e0 : g0 14 = (.ref a1)) (e1 : f1 4 = 0) (e2 : g0 31 = (.ref a2)) (e3 : f2 4 = 0) : Met l yX12_looks (Cond.code yX12_looks cX12_looks 10 (some .boolean) :: WG) { frames := 1, cells := 0, slots := 0, locals := 25 } (zPre K [(a0, zO 10 83 g0), (a1, zI K 16 f1), (a2, zI K 8 f2)] sz [.ref a0, .int 4]) (va_Qi (fun (r : Int32) (_ : Nat → Nat) => r = 0) (zB K (va_A [(a0, zO 10 83 g0), (a1, zI K 16 f1), (a2, zI K 8 f2)] sz) (fun u : Nat → Nat => [(a0, zO 10 83 g0), (a1, zI K 16 f1), (a2, zI K 8 f2)])) (va_A [(a0, zO 10 83 g0), (a1, zI K 16 f1), (a2, zI K 8 f2)] sz)) 0 0 (va_A [(a0, zO 10 83 g0), (a1, zI K 16 f1), (a2, zI K 8 f2)] sz) := by
  refine z_met (Qc := fun A => (va_Qi (fun (r : Int32) (_ : Nat → Nat) => r = 0) (zB K A (fun u : Nat → Nat => [(a0, zO 10 83 g0), (a1, zI K 16 f1), (a2, zI K 8 f2)])) A)) (by decide +kernel) (Nat.le_of_ble_eq_true rfl) ?_
  intro p e s m args below meth c A ls H hx hb hr hg hown hlocks hml hin hK hP hD hA hS hZ hl
  have hown : s.vm.findClass RX12 = some m.cls := hown
  have hl : lv_has ls 10 [(0, .ref a0), (1, .int 4)] := hl
  refine lv_sipush (v := 4000) hx hb dX12_looks_0 (by decide) ?_
  refine lv_istore_n (lv' := [(2, .int 4000), (0, .ref a0), (1, .int 4)]) hx hb dX12_looks_3 rfl hl (by decide) rfl (fun ls hl => ?_)
  refine lv_aload_n hx hb dX12_looks_4 rfl (lv_at hl 1 rfl) ?_
  refine lv_iload_n hx hb dX12_looks_5 rfl (lv_at hl 2 rfl) ?_
  refine lv_iload_n hx hb dX12_looks_6 rfl (lv_at hl 0 rfl) ?_
  refine z_calli [(a0, zO 10 83 g0), (a1, zI K 16 f1)] [(a2, zI K 8 f2)] [0, 1] [2] hP hD hS hA rfl rfl (by decide) (by decide) (by decide +kernel) 0 0 rfl rfl (fun hPc hDc hF => z_runV (As := [.int 4, .int 4000]) (rest := []) ⟨hx, hb, hml, hown, hg⟩ (cX12_copiesGlobal_5 l K H.size a0 a1 g0 f1 e0 e1) kV_RX12_273 hd_X12_copiesGlobal rfl rfl ⟨(Nat.le_of_ble_eq_true rfl), (Nat.le_of_ble_eq_true rfl)⟩ hK hS hZ hPc hDc hF 0 rfl rfl rfl hl.1 rfl (Nat.le_of_ble_eq_true rfl) dX12_looks_7 ⟨(Nat.le_of_ble_eq_true rfl), (Nat.le_of_ble_eq_true rfl)⟩) (fun r3 u1 H locs w2 hP hD hS => ?_)
  subst w2
  have hP : va_P K.1 classes [(a2, zI K 8 f2), (a0, zO 10 83 g0), (a1, zI K 16 f1)] H := hP
  have hD : va_D A [(a2, zI K 8 f2), (a0, zO 10 83 g0), (a1, zI K 16 f1)] := hD
  refine lv_istore_n (lv' := [(3, .int 4000), (2, .int 4000), (0, .ref a0), (1, .int 4)]) hx hb dX12_looks_10 rfl hl (by decide) rfl (fun ls hl => ?_)
  refine lv_aload_n hx hb dX12_looks_11 rfl (lv_at hl 2 rfl) ?_
  refine lv_iload_n hx hb dX12_looks_12 rfl (lv_at hl 1 rfl) ?_
  refine lv_iload_n hx hb dX12_looks_13 rfl (lv_at hl 0 rfl) ?_
  refine z_callv [(a0, zO 10 83 g0)] [(a2, zI K 8 f2), (a1, zI K 16 f1)] [1] [0, 2] hP hD hS hA rfl rfl (by decide) (by decide) (by decide +kernel) 0 0 rfl rfl (fun hPc hDc hF => z_runV (As := [.int 4000, .int 4000]) (rest := []) ⟨hx, hb, hml, hown, hg⟩ (cX12_ends_1 l K H.size a0 g0) kV_RX12_240 hd_X12_ends rfl rfl ⟨(Nat.le_of_ble_eq_true rfl), (Nat.le_of_ble_eq_true rfl)⟩ hK hS hZ hPc hDc hF 0 rfl rfl rfl hl.1 rfl (Nat.le_of_ble_eq_true rfl) dX12_looks_14 ⟨(Nat.le_of_ble_eq_true rfl), (Nat.le_of_ble_eq_true rfl)⟩) (fun u4 H locs w5 hP hD hS => ?_)
  have hP : va_P K.1 classes [(a2, zI K 8 f2), (a1, zI K 16 f1), (a0, zO 10 83 g0)] H := hP
  have hD : va_D A [(a2, zI K 8 f2), (a1, zI K 16 f1), (a0, zO 10 83 g0)] := hD
  refine lv_aload_n hx hb dX12_looks_17 rfl (lv_at hl 2 rfl) ?_
  refine lv_iload_n hx hb dX12_looks_18 rfl (lv_at hl 1 rfl) ?_
  refine lv_iload_n hx hb dX12_looks_19 rfl (lv_at hl 0 rfl) ?_
  refine z_callv [(a0, zO 10 83 g0)] [(a2, zI K 8 f2), (a1, zI K 16 f1)] [2] [0, 1] hP hD hS hA rfl rfl (by decide) (by decide) (by decide +kernel) 0 0 rfl rfl (fun hPc hDc hF => z_runV (As := [.int 4000, .int 4000]) (rest := []) ⟨hx, hb, hml, hown, hg⟩ (cX12_findsNeeds_1 l K H.size a0 g0) kV_RX12_276 hd_X12_findsNeeds rfl rfl ⟨(Nat.le_of_ble_eq_true rfl), (Nat.le_of_ble_eq_true rfl)⟩ hK hS hZ hPc hDc hF 0 rfl rfl rfl hl.1 rfl (Nat.le_of_ble_eq_true rfl) dX12_looks_20 ⟨(Nat.le_of_ble_eq_true rfl), (Nat.le_of_ble_eq_true rfl)⟩) (fun u7 H locs w8 hP hD hS => ?_)
  have hP : va_P K.1 classes [(a2, zI K 8 f2), (a1, zI K 16 f1), (a0, zO 10 83 g0)] H := hP
  have hD : va_D A [(a2, zI K 8 f2), (a1, zI K 16 f1), (a0, zO 10 83 g0)] := hD
  refine lv_iconst (v := 0) hx hb dX12_looks_23 (by decide) ?_
  refine lv_istore (lv' := [(4, .int 0), (3, .int 4000), (2, .int 4000), (0, .ref a0), (1, .int 4)]) hx hb dX12_looks_24 hl (by decide) rfl (fun ls hl => ?_)
  refine lv_iconst (v := 0) hx hb dX12_looks_26 (by decide) ?_
  refine lv_istore (lv' := [(5, .int 0), (4, .int 0), (3, .int 4000), (2, .int 4000), (0, .ref a0), (1, .int 4)]) hx hb dX12_looks_27 hl (by decide) rfl (fun ls hl => ?_)
  refine lv_aload_n hx hb dX12_looks_29 rfl (lv_at hl 4 rfl) ?_
  refine z_get (v := .ref a2) hx hb hg hown hK hP i_X12 rfl 2 rfl 31 (by decide) mt1311 e2 dX12_looks_30 ?_
  refine lv_iload_n hx hb dX12_looks_33 rfl (lv_at hl 5 rfl) ?_
  refine z_iald (v := 0) (j := 4) hx hb hK hP 0 rfl rfl (Nat.le_of_ble_eq_true rfl) (Nat.le_of_ble_eq_true rfl) e3 dX12_looks_34 ?_
  refine lv_if_le (tgt := 54) hx hb dX12_looks_35 (by decide) (fun _ => ?_) (fun c => absurd (by decide) c)
  refine lv_iconst (v := 0) hx hb dX12_looks_54 (by decide) ?_
  refine lv_istore (lv' := [(6, .int 0), (5, .int 0), (4, .int 0), (3, .int 4000), (2, .int 4000), (0, .ref a0), (1, .int 4)]) hx hb dX12_looks_55 hl (by decide) rfl (fun ls hl => ?_)
  refine lv_aload_n hx hb dX12_looks_57 rfl (lv_at hl 5 rfl) ?_
  refine z_get (v := .ref a2) hx hb hg hown hK hP i_X12 rfl 2 rfl 31 (by decide) mt1311 e2 dX12_looks_58 ?_
  refine lv_iload_n hx hb dX12_looks_61 rfl (lv_at hl 6 rfl) ?_
  refine z_iald (v := 0) (j := 4) hx hb hK hP 0 rfl rfl (Nat.le_of_ble_eq_true rfl) (Nat.le_of_ble_eq_true rfl) e3 dX12_looks_62 ?_
  refine lv_iconst (v := 1) hx hb dX12_looks_63 (by decide) ?_
  refine lv_isub hx hb dX12_looks_64 ?_
  refine z_cst (v := (-1)) (by decide +kernel) ?_
  refine lv_istore (lv' := [(7, .int (-1)), (6, .int 0), (5, .int 0), (4, .int 0), (3, .int 4000), (2, .int 4000), (0, .ref a0), (1, .int 4)]) hx hb dX12_looks_65 hl (by decide) rfl (fun ls hl => ?_)
  refine lv_iload hx hb dX12_looks_67 (lv_at hl 0 rfl) ?_
  refine lv_if_lt (tgt := 164) hx hb dX12_looks_69 (by decide) (fun _ => ?_) (fun c => absurd (by decide) c)
  refine lv_iload hx hb dX12_looks_164 (lv_at hl 3 rfl) ?_
  have hP9 : va_P K.1 classes [(a0, zO 10 83 g0), (a1, zI K 16 f1), (a2, zI K 8 f2)] H := hP.sub [2, 1, 0] rfl
  have hD9 : va_D A [(a0, zO 10 83 g0), (a1, zI K 16 f1), (a2, zI K 8 f2)] := hD.sub [2, 1, 0] (by decide) rfl
  exact z_zret hx hb hr rfl (fun _ => 0) rfl hP9 hD9 hS (Nat.le_of_ble_eq_true rfl) (Nat.le_of_ble_eq_true rfl) hlocks dX12_looks_166
set_option maxHeartbeats 4000000 in
set_option maxRecDepth 100000 in
theorem cX12_copiesGlobal_6 (l : Launch) (K : zK) (sz : Nat) (a0 : Nat) (a1 : Nat) (g0 : Nat → Value) (f1 : Nat → Int32) (e0 : g0 14 = (.ref a1)) (e1 : f1 5 = 0) : Met l yX12_copiesGlobal (Cond.code yX12_copiesGlobal cX12_copiesGlobal 5 (some .int) :: WG) { frames := 0, cells := 0, slots := 0, locals := 0 } (zPre K [(a0, zO 10 83 g0), (a1, zI K 16 f1)] sz [.ref a0, .int 5, .int 4000]) (va_Qi (fun (r : Int32) (_ : Nat → Nat) => r = 4000) (zB K (va_A [(a0, zO 10 83 g0), (a1, zI K 16 f1)] sz) (fun u : Nat → Nat => [(a0, zO 10 83 g0), (a1, zI K 16 f1)])) (va_A [(a0, zO 10 83 g0), (a1, zI K 16 f1)] sz)) 0 0 (va_A [(a0, zO 10 83 g0), (a1, zI K 16 f1)] sz) := by
  refine z_met (Qc := fun A => (va_Qi (fun (r : Int32) (_ : Nat → Nat) => r = 4000) (zB K A (fun u : Nat → Nat => [(a0, zO 10 83 g0), (a1, zI K 16 f1)])) A)) (by decide +kernel) (Nat.le_of_ble_eq_true rfl) ?_
  intro p e s m args below meth c A ls H hx hb hr hg hown hlocks hml hin hK hP hD hA hS hZ hl
  have hown : s.vm.findClass RX12 = some m.cls := hown
  have hl : lv_has ls 5 [(0, .ref a0), (1, .int 5), (2, .int 4000)] := hl
  refine lv_iconst (v := 0) hx hb dX12_copiesGlobal_0 (by decide) ?_
  refine lv_istore_n (lv' := [(3, .int 0), (0, .ref a0), (1, .int 5), (2, .int 4000)]) hx hb dX12_copiesGlobal_1 rfl hl (by decide) rfl (fun ls hl => ?_)
  refine lv_iload_n hx hb dX12_copiesGlobal_2 rfl (lv_at hl 0 rfl) ?_
  refine lv_aload_n hx hb dX12_copiesGlobal_3 rfl (lv_at hl 1 rfl) ?_
  refine z_get (v := .ref a1) hx hb hg hown hK hP i_X12 rfl 0 rfl 14 (by decide) mt1294 e0 dX12_copiesGlobal_4 ?_
  refine lv_iload_n hx hb dX12_copiesGlobal_7 rfl (lv_at hl 2 rfl) ?_
  refine z_iald (v := 0) (j := 5) hx hb hK hP 1 rfl rfl (Nat.le_of_ble_eq_true rfl) (Nat.le_of_ble_eq_true rfl) e1 dX12_copiesGlobal_8 ?_
  refine lv_icmp_ge (tgt := 68) hx hb dX12_copiesGlobal_9 (by decide) (fun _ => ?_) (fun c => absurd (by decide) c)
  refine lv_iload_n hx hb dX12_copiesGlobal_68 rfl (lv_at hl 3 rfl) ?_
  refine lv_aload_n hx hb dX12_copiesGlobal_69 rfl (lv_at hl 1 rfl) ?_
  refine z_get (v := .ref a1) hx hb hg hown hK hP i_X12 rfl 0 rfl 14 (by decide) mt1294 e0 dX12_copiesGlobal_70 ?_
  refine lv_iload_n hx hb dX12_copiesGlobal_73 rfl (lv_at hl 2 rfl) ?_
  refine z_iald (v := 0) (j := 5) hx hb hK hP 1 rfl rfl (Nat.le_of_ble_eq_true rfl) (Nat.le_of_ble_eq_true rfl) e1 dX12_copiesGlobal_74 ?_
  refine lv_iadd hx hb dX12_copiesGlobal_75 ?_
  refine z_cst (v := 4000) (by decide +kernel) ?_
  have hP9 : va_P K.1 classes [(a0, zO 10 83 g0), (a1, zI K 16 f1)] H := hP.sub [0, 1] rfl
  have hD9 : va_D A [(a0, zO 10 83 g0), (a1, zI K 16 f1)] := hD.sub [0, 1] (by decide) rfl
  exact z_iret hx hb hr (fun _ => 0) rfl hP9 hD9 hS (Nat.le_of_ble_eq_true rfl) (Nat.le_of_ble_eq_true rfl) hlocks dX12_copiesGlobal_76
set_option maxHeartbeats 4000000 in
set_option maxRecDepth 100000 in
theorem cX12_looks_6 (l : Launch) (K : zK) (sz : Nat) (a0 : Nat) (a1 : Nat) (a2 : Nat) (g0 : Nat → Value) (f1 : Nat → Int32) (f2 : Nat → Int32) (e0 : g0 14 = (.ref a1)) (e1 : f1 5 = 0) (e2 : g0 31 = (.ref a2)) (e3 : f2 5 = 0) : Met l yX12_looks (Cond.code yX12_looks cX12_looks 10 (some .boolean) :: WG) { frames := 1, cells := 0, slots := 0, locals := 25 } (zPre K [(a0, zO 10 83 g0), (a1, zI K 16 f1), (a2, zI K 8 f2)] sz [.ref a0, .int 5]) (va_Qi (fun (r : Int32) (_ : Nat → Nat) => r = 0) (zB K (va_A [(a0, zO 10 83 g0), (a1, zI K 16 f1), (a2, zI K 8 f2)] sz) (fun u : Nat → Nat => [(a0, zO 10 83 g0), (a1, zI K 16 f1), (a2, zI K 8 f2)])) (va_A [(a0, zO 10 83 g0), (a1, zI K 16 f1), (a2, zI K 8 f2)] sz)) 0 0 (va_A [(a0, zO 10 83 g0), (a1, zI K 16 f1), (a2, zI K 8 f2)] sz) := by
  refine z_met (Qc := fun A => (va_Qi (fun (r : Int32) (_ : Nat → Nat) => r = 0) (zB K A (fun u : Nat → Nat => [(a0, zO 10 83 g0), (a1, zI K 16 f1), (a2, zI K 8 f2)])) A)) (by decide +kernel) (Nat.le_of_ble_eq_true rfl) ?_
  intro p e s m args below meth c A ls H hx hb hr hg hown hlocks hml hin hK hP hD hA hS hZ hl
  have hown : s.vm.findClass RX12 = some m.cls := hown
  have hl : lv_has ls 10 [(0, .ref a0), (1, .int 5)] := hl
  refine lv_sipush (v := 4000) hx hb dX12_looks_0 (by decide) ?_
  refine lv_istore_n (lv' := [(2, .int 4000), (0, .ref a0), (1, .int 5)]) hx hb dX12_looks_3 rfl hl (by decide) rfl (fun ls hl => ?_)
  refine lv_aload_n hx hb dX12_looks_4 rfl (lv_at hl 1 rfl) ?_
  refine lv_iload_n hx hb dX12_looks_5 rfl (lv_at hl 2 rfl) ?_
  refine lv_iload_n hx hb dX12_looks_6 rfl (lv_at hl 0 rfl) ?_
  refine z_calli [(a0, zO 10 83 g0), (a1, zI K 16 f1)] [(a2, zI K 8 f2)] [0, 1] [2] hP hD hS hA rfl rfl (by decide) (by decide) (by decide +kernel) 0 0 rfl rfl (fun hPc hDc hF => z_runV (As := [.int 5, .int 4000]) (rest := []) ⟨hx, hb, hml, hown, hg⟩ (cX12_copiesGlobal_6 l K H.size a0 a1 g0 f1 e0 e1) kV_RX12_273 hd_X12_copiesGlobal rfl rfl ⟨(Nat.le_of_ble_eq_true rfl), (Nat.le_of_ble_eq_true rfl)⟩ hK hS hZ hPc hDc hF 0 rfl rfl rfl hl.1 rfl (Nat.le_of_ble_eq_true rfl) dX12_looks_7 ⟨(Nat.le_of_ble_eq_true rfl), (Nat.le_of_ble_eq_true rfl)⟩) (fun r3 u1 H locs w2 hP hD hS => ?_)
  subst w2
  have hP : va_P K.1 classes [(a2, zI K 8 f2), (a0, zO 10 83 g0), (a1, zI K 16 f1)] H := hP
  have hD : va_D A [(a2, zI K 8 f2), (a0, zO 10 83 g0), (a1, zI K 16 f1)] := hD
  refine lv_istore_n (lv' := [(3, .int 4000), (2, .int 4000), (0, .ref a0), (1, .int 5)]) hx hb dX12_looks_10 rfl hl (by decide) rfl (fun ls hl => ?_)
  refine lv_aload_n hx hb dX12_looks_11 rfl (lv_at hl 2 rfl) ?_
  refine lv_iload_n hx hb dX12_looks_12 rfl (lv_at hl 1 rfl) ?_
  refine lv_iload_n hx hb dX12_looks_13 rfl (lv_at hl 0 rfl) ?_
  refine z_callv [(a0, zO 10 83 g0)] [(a2, zI K 8 f2), (a1, zI K 16 f1)] [1] [0, 2] hP hD hS hA rfl rfl (by decide) (by decide) (by decide +kernel) 0 0 rfl rfl (fun hPc hDc hF => z_runV (As := [.int 4000, .int 4000]) (rest := []) ⟨hx, hb, hml, hown, hg⟩ (cX12_ends_1 l K H.size a0 g0) kV_RX12_240 hd_X12_ends rfl rfl ⟨(Nat.le_of_ble_eq_true rfl), (Nat.le_of_ble_eq_true rfl)⟩ hK hS hZ hPc hDc hF 0 rfl rfl rfl hl.1 rfl (Nat.le_of_ble_eq_true rfl) dX12_looks_14 ⟨(Nat.le_of_ble_eq_true rfl), (Nat.le_of_ble_eq_true rfl)⟩) (fun u4 H locs w5 hP hD hS => ?_)
  have hP : va_P K.1 classes [(a2, zI K 8 f2), (a1, zI K 16 f1), (a0, zO 10 83 g0)] H := hP
  have hD : va_D A [(a2, zI K 8 f2), (a1, zI K 16 f1), (a0, zO 10 83 g0)] := hD
  refine lv_aload_n hx hb dX12_looks_17 rfl (lv_at hl 2 rfl) ?_
  refine lv_iload_n hx hb dX12_looks_18 rfl (lv_at hl 1 rfl) ?_
  refine lv_iload_n hx hb dX12_looks_19 rfl (lv_at hl 0 rfl) ?_
  refine z_callv [(a0, zO 10 83 g0)] [(a2, zI K 8 f2), (a1, zI K 16 f1)] [2] [0, 1] hP hD hS hA rfl rfl (by decide) (by decide) (by decide +kernel) 0 0 rfl rfl (fun hPc hDc hF => z_runV (As := [.int 4000, .int 4000]) (rest := []) ⟨hx, hb, hml, hown, hg⟩ (cX12_findsNeeds_1 l K H.size a0 g0) kV_RX12_276 hd_X12_findsNeeds rfl rfl ⟨(Nat.le_of_ble_eq_true rfl), (Nat.le_of_ble_eq_true rfl)⟩ hK hS hZ hPc hDc hF 0 rfl rfl rfl hl.1 rfl (Nat.le_of_ble_eq_true rfl) dX12_looks_20 ⟨(Nat.le_of_ble_eq_true rfl), (Nat.le_of_ble_eq_true rfl)⟩) (fun u7 H locs w8 hP hD hS => ?_)
  have hP : va_P K.1 classes [(a2, zI K 8 f2), (a1, zI K 16 f1), (a0, zO 10 83 g0)] H := hP
  have hD : va_D A [(a2, zI K 8 f2), (a1, zI K 16 f1), (a0, zO 10 83 g0)] := hD
  refine lv_iconst (v := 0) hx hb dX12_looks_23 (by decide) ?_
  refine lv_istore (lv' := [(4, .int 0), (3, .int 4000), (2, .int 4000), (0, .ref a0), (1, .int 5)]) hx hb dX12_looks_24 hl (by decide) rfl (fun ls hl => ?_)
  refine lv_iconst (v := 0) hx hb dX12_looks_26 (by decide) ?_
  refine lv_istore (lv' := [(5, .int 0), (4, .int 0), (3, .int 4000), (2, .int 4000), (0, .ref a0), (1, .int 5)]) hx hb dX12_looks_27 hl (by decide) rfl (fun ls hl => ?_)
  refine lv_aload_n hx hb dX12_looks_29 rfl (lv_at hl 4 rfl) ?_
  refine z_get (v := .ref a2) hx hb hg hown hK hP i_X12 rfl 2 rfl 31 (by decide) mt1311 e2 dX12_looks_30 ?_
  refine lv_iload_n hx hb dX12_looks_33 rfl (lv_at hl 5 rfl) ?_
  refine z_iald (v := 0) (j := 5) hx hb hK hP 0 rfl rfl (Nat.le_of_ble_eq_true rfl) (Nat.le_of_ble_eq_true rfl) e3 dX12_looks_34 ?_
  refine lv_if_le (tgt := 54) hx hb dX12_looks_35 (by decide) (fun _ => ?_) (fun c => absurd (by decide) c)
  refine lv_iconst (v := 0) hx hb dX12_looks_54 (by decide) ?_
  refine lv_istore (lv' := [(6, .int 0), (5, .int 0), (4, .int 0), (3, .int 4000), (2, .int 4000), (0, .ref a0), (1, .int 5)]) hx hb dX12_looks_55 hl (by decide) rfl (fun ls hl => ?_)
  refine lv_aload_n hx hb dX12_looks_57 rfl (lv_at hl 5 rfl) ?_
  refine z_get (v := .ref a2) hx hb hg hown hK hP i_X12 rfl 2 rfl 31 (by decide) mt1311 e2 dX12_looks_58 ?_
  refine lv_iload_n hx hb dX12_looks_61 rfl (lv_at hl 6 rfl) ?_
  refine z_iald (v := 0) (j := 5) hx hb hK hP 0 rfl rfl (Nat.le_of_ble_eq_true rfl) (Nat.le_of_ble_eq_true rfl) e3 dX12_looks_62 ?_
  refine lv_iconst (v := 1) hx hb dX12_looks_63 (by decide) ?_
  refine lv_isub hx hb dX12_looks_64 ?_
  refine z_cst (v := (-1)) (by decide +kernel) ?_
  refine lv_istore (lv' := [(7, .int (-1)), (6, .int 0), (5, .int 0), (4, .int 0), (3, .int 4000), (2, .int 4000), (0, .ref a0), (1, .int 5)]) hx hb dX12_looks_65 hl (by decide) rfl (fun ls hl => ?_)
  refine lv_iload hx hb dX12_looks_67 (lv_at hl 0 rfl) ?_
  refine lv_if_lt (tgt := 164) hx hb dX12_looks_69 (by decide) (fun _ => ?_) (fun c => absurd (by decide) c)
  refine lv_iload hx hb dX12_looks_164 (lv_at hl 3 rfl) ?_
  have hP9 : va_P K.1 classes [(a0, zO 10 83 g0), (a1, zI K 16 f1), (a2, zI K 8 f2)] H := hP.sub [2, 1, 0] rfl
  have hD9 : va_D A [(a0, zO 10 83 g0), (a1, zI K 16 f1), (a2, zI K 8 f2)] := hD.sub [2, 1, 0] (by decide) rfl
  exact z_zret hx hb hr rfl (fun _ => 0) rfl hP9 hD9 hS (Nat.le_of_ble_eq_true rfl) (Nat.le_of_ble_eq_true rfl) hlocks dX12_looks_166
set_option maxHeartbeats 4000000 in
set_option maxRecDepth 100000 in
theorem cX12_copiesGlobal_7 (l : Launch) (K : zK) (sz : Nat) (a0 : Nat) (a1 : Nat) (g0 : Nat → Value) (f1 : Nat → Int32) (e0 : g0 14 = (.ref a1)) (e1 : f1 6 = 0) : Met l yX12_copiesGlobal (Cond.code yX12_copiesGlobal cX12_copiesGlobal 5 (some .int) :: WG) { frames := 0, cells := 0, slots := 0, locals := 0 } (zPre K [(a0, zO 10 83 g0), (a1, zI K 16 f1)] sz [.ref a0, .int 6, .int 4000]) (va_Qi (fun (r : Int32) (_ : Nat → Nat) => r = 4000) (zB K (va_A [(a0, zO 10 83 g0), (a1, zI K 16 f1)] sz) (fun u : Nat → Nat => [(a0, zO 10 83 g0), (a1, zI K 16 f1)])) (va_A [(a0, zO 10 83 g0), (a1, zI K 16 f1)] sz)) 0 0 (va_A [(a0, zO 10 83 g0), (a1, zI K 16 f1)] sz) := by
  refine z_met (Qc := fun A => (va_Qi (fun (r : Int32) (_ : Nat → Nat) => r = 4000) (zB K A (fun u : Nat → Nat => [(a0, zO 10 83 g0), (a1, zI K 16 f1)])) A)) (by decide +kernel) (Nat.le_of_ble_eq_true rfl) ?_
  intro p e s m args below meth c A ls H hx hb hr hg hown hlocks hml hin hK hP hD hA hS hZ hl
  have hown : s.vm.findClass RX12 = some m.cls := hown
  have hl : lv_has ls 5 [(0, .ref a0), (1, .int 6), (2, .int 4000)] := hl
  refine lv_iconst (v := 0) hx hb dX12_copiesGlobal_0 (by decide) ?_
  refine lv_istore_n (lv' := [(3, .int 0), (0, .ref a0), (1, .int 6), (2, .int 4000)]) hx hb dX12_copiesGlobal_1 rfl hl (by decide) rfl (fun ls hl => ?_)
  refine lv_iload_n hx hb dX12_copiesGlobal_2 rfl (lv_at hl 0 rfl) ?_
  refine lv_aload_n hx hb dX12_copiesGlobal_3 rfl (lv_at hl 1 rfl) ?_
  refine z_get (v := .ref a1) hx hb hg hown hK hP i_X12 rfl 0 rfl 14 (by decide) mt1294 e0 dX12_copiesGlobal_4 ?_
  refine lv_iload_n hx hb dX12_copiesGlobal_7 rfl (lv_at hl 2 rfl) ?_
  refine z_iald (v := 0) (j := 6) hx hb hK hP 1 rfl rfl (Nat.le_of_ble_eq_true rfl) (Nat.le_of_ble_eq_true rfl) e1 dX12_copiesGlobal_8 ?_
  refine lv_icmp_ge (tgt := 68) hx hb dX12_copiesGlobal_9 (by decide) (fun _ => ?_) (fun c => absurd (by decide) c)
  refine lv_iload_n hx hb dX12_copiesGlobal_68 rfl (lv_at hl 3 rfl) ?_
  refine lv_aload_n hx hb dX12_copiesGlobal_69 rfl (lv_at hl 1 rfl) ?_
  refine z_get (v := .ref a1) hx hb hg hown hK hP i_X12 rfl 0 rfl 14 (by decide) mt1294 e0 dX12_copiesGlobal_70 ?_
  refine lv_iload_n hx hb dX12_copiesGlobal_73 rfl (lv_at hl 2 rfl) ?_
  refine z_iald (v := 0) (j := 6) hx hb hK hP 1 rfl rfl (Nat.le_of_ble_eq_true rfl) (Nat.le_of_ble_eq_true rfl) e1 dX12_copiesGlobal_74 ?_
  refine lv_iadd hx hb dX12_copiesGlobal_75 ?_
  refine z_cst (v := 4000) (by decide +kernel) ?_
  have hP9 : va_P K.1 classes [(a0, zO 10 83 g0), (a1, zI K 16 f1)] H := hP.sub [0, 1] rfl
  have hD9 : va_D A [(a0, zO 10 83 g0), (a1, zI K 16 f1)] := hD.sub [0, 1] (by decide) rfl
  exact z_iret hx hb hr (fun _ => 0) rfl hP9 hD9 hS (Nat.le_of_ble_eq_true rfl) (Nat.le_of_ble_eq_true rfl) hlocks dX12_copiesGlobal_76
set_option maxHeartbeats 4000000 in
set_option maxRecDepth 100000 in
theorem cX12_looks_7 (l : Launch) (K : zK) (sz : Nat) (a0 : Nat) (a1 : Nat) (a2 : Nat) (g0 : Nat → Value) (f1 : Nat → Int32) (f2 : Nat → Int32) (e0 : g0 14 = (.ref a1)) (e1 : f1 6 = 0) (e2 : g0 31 = (.ref a2)) (e3 : f2 6 = 0) : Met l yX12_looks (Cond.code yX12_looks cX12_looks 10 (some .boolean) :: WG) { frames := 1, cells := 0, slots := 0, locals := 25 } (zPre K [(a0, zO 10 83 g0), (a1, zI K 16 f1), (a2, zI K 8 f2)] sz [.ref a0, .int 6]) (va_Qi (fun (r : Int32) (_ : Nat → Nat) => r = 0) (zB K (va_A [(a0, zO 10 83 g0), (a1, zI K 16 f1), (a2, zI K 8 f2)] sz) (fun u : Nat → Nat => [(a0, zO 10 83 g0), (a1, zI K 16 f1), (a2, zI K 8 f2)])) (va_A [(a0, zO 10 83 g0), (a1, zI K 16 f1), (a2, zI K 8 f2)] sz)) 0 0 (va_A [(a0, zO 10 83 g0), (a1, zI K 16 f1), (a2, zI K 8 f2)] sz) := by
  refine z_met (Qc := fun A => (va_Qi (fun (r : Int32) (_ : Nat → Nat) => r = 0) (zB K A (fun u : Nat → Nat => [(a0, zO 10 83 g0), (a1, zI K 16 f1), (a2, zI K 8 f2)])) A)) (by decide +kernel) (Nat.le_of_ble_eq_true rfl) ?_
  intro p e s m args below meth c A ls H hx hb hr hg hown hlocks hml hin hK hP hD hA hS hZ hl
  have hown : s.vm.findClass RX12 = some m.cls := hown
  have hl : lv_has ls 10 [(0, .ref a0), (1, .int 6)] := hl
  refine lv_sipush (v := 4000) hx hb dX12_looks_0 (by decide) ?_
  refine lv_istore_n (lv' := [(2, .int 4000), (0, .ref a0), (1, .int 6)]) hx hb dX12_looks_3 rfl hl (by decide) rfl (fun ls hl => ?_)
  refine lv_aload_n hx hb dX12_looks_4 rfl (lv_at hl 1 rfl) ?_
  refine lv_iload_n hx hb dX12_looks_5 rfl (lv_at hl 2 rfl) ?_
  refine lv_iload_n hx hb dX12_looks_6 rfl (lv_at hl 0 rfl) ?_
  refine z_calli [(a0, zO 10 83 g0), (a1, zI K 16 f1)] [(a2, zI K 8 f2)] [0, 1] [2] hP hD hS hA rfl rfl (by decide) (by decide) (by decide +kernel) 0 0 rfl rfl (fun hPc hDc hF => z_runV (As := [.int 6, .int 4000]) (rest := []) ⟨hx, hb, hml, hown, hg⟩ (cX12_copiesGlobal_7 l K H.size a0 a1 g0 f1 e0 e1) kV_RX12_273 hd_X12_copiesGlobal rfl rfl ⟨(Nat.le_of_ble_eq_true rfl), (Nat.le_of_ble_eq_true rfl)⟩ hK hS hZ hPc hDc hF 0 rfl rfl rfl hl.1 rfl (Nat.le_of_ble_eq_true rfl) dX12_looks_7 ⟨(Nat.le_of_ble_eq_true rfl), (Nat.le_of_ble_eq_true rfl)⟩) (fun r3 u1 H locs w2 hP hD hS => ?_)
  subst w2
  have hP : va_P K.1 classes [(a2, zI K 8 f2), (a0, zO 10 83 g0), (a1, zI K 16 f1)] H := hP
  have hD : va_D A [(a2, zI K 8 f2), (a0, zO 10 83 g0), (a1, zI K 16 f1)] := hD
  refine lv_istore_n (lv' := [(3, .int 4000), (2, .int 4000), (0, .ref a0), (1, .int 6)]) hx hb dX12_looks_10 rfl hl (by decide) rfl (fun ls hl => ?_)
  refine lv_aload_n hx hb dX12_looks_11 rfl (lv_at hl 2 rfl) ?_
  refine lv_iload_n hx hb dX12_looks_12 rfl (lv_at hl 1 rfl) ?_
  refine lv_iload_n hx hb dX12_looks_13 rfl (lv_at hl 0 rfl) ?_
  refine z_callv [(a0, zO 10 83 g0)] [(a2, zI K 8 f2), (a1, zI K 16 f1)] [1] [0, 2] hP hD hS hA rfl rfl (by decide) (by decide) (by decide +kernel) 0 0 rfl rfl (fun hPc hDc hF => z_runV (As := [.int 4000, .int 4000]) (rest := []) ⟨hx, hb, hml, hown, hg⟩ (cX12_ends_1 l K H.size a0 g0) kV_RX12_240 hd_X12_ends rfl rfl ⟨(Nat.le_of_ble_eq_true rfl), (Nat.le_of_ble_eq_true rfl)⟩ hK hS hZ hPc hDc hF 0 rfl rfl rfl hl.1 rfl (Nat.le_of_ble_eq_true rfl) dX12_looks_14 ⟨(Nat.le_of_ble_eq_true rfl), (Nat.le_of_ble_eq_true rfl)⟩) (fun u4 H locs w5 hP hD hS => ?_)
  have hP : va_P K.1 classes [(a2, zI K 8 f2), (a1, zI K 16 f1), (a0, zO 10 83 g0)] H := hP
  have hD : va_D A [(a2, zI K 8 f2), (a1, zI K 16 f1), (a0, zO 10 83 g0)] := hD
  refine lv_aload_n hx hb dX12_looks_17 rfl (lv_at hl 2 rfl) ?_
  refine lv_iload_n hx hb dX12_looks_18 rfl (lv_at hl 1 rfl) ?_
  refine lv_iload_n hx hb dX12_looks_19 rfl (lv_at hl 0 rfl) ?_
  refine z_callv [(a0, zO 10 83 g0)] [(a2, zI K 8 f2), (a1, zI K 16 f1)] [2] [0, 1] hP hD hS hA rfl rfl (by decide) (by decide) (by decide +kernel) 0 0 rfl rfl (fun hPc hDc hF => z_runV (As := [.int 4000, .int 4000]) (rest := []) ⟨hx, hb, hml, hown, hg⟩ (cX12_findsNeeds_1 l K H.size a0 g0) kV_RX12_276 hd_X12_findsNeeds rfl rfl ⟨(Nat.le_of_ble_eq_true rfl), (Nat.le_of_ble_eq_true rfl)⟩ hK hS hZ hPc hDc hF 0 rfl rfl rfl hl.1 rfl (Nat.le_of_ble_eq_true rfl) dX12_looks_20 ⟨(Nat.le_of_ble_eq_true rfl), (Nat.le_of_ble_eq_true rfl)⟩) (fun u7 H locs w8 hP hD hS => ?_)
  have hP : va_P K.1 classes [(a2, zI K 8 f2), (a1, zI K 16 f1), (a0, zO 10 83 g0)] H := hP
  have hD : va_D A [(a2, zI K 8 f2), (a1, zI K 16 f1), (a0, zO 10 83 g0)] := hD
  refine lv_iconst (v := 0) hx hb dX12_looks_23 (by decide) ?_
  refine lv_istore (lv' := [(4, .int 0), (3, .int 4000), (2, .int 4000), (0, .ref a0), (1, .int 6)]) hx hb dX12_looks_24 hl (by decide) rfl (fun ls hl => ?_)
  refine lv_iconst (v := 0) hx hb dX12_looks_26 (by decide) ?_
  refine lv_istore (lv' := [(5, .int 0), (4, .int 0), (3, .int 4000), (2, .int 4000), (0, .ref a0), (1, .int 6)]) hx hb dX12_looks_27 hl (by decide) rfl (fun ls hl => ?_)
  refine lv_aload_n hx hb dX12_looks_29 rfl (lv_at hl 4 rfl) ?_
  refine z_get (v := .ref a2) hx hb hg hown hK hP i_X12 rfl 2 rfl 31 (by decide) mt1311 e2 dX12_looks_30 ?_
  refine lv_iload_n hx hb dX12_looks_33 rfl (lv_at hl 5 rfl) ?_
  refine z_iald (v := 0) (j := 6) hx hb hK hP 0 rfl rfl (Nat.le_of_ble_eq_true rfl) (Nat.le_of_ble_eq_true rfl) e3 dX12_looks_34 ?_
  refine lv_if_le (tgt := 54) hx hb dX12_looks_35 (by decide) (fun _ => ?_) (fun c => absurd (by decide) c)
  refine lv_iconst (v := 0) hx hb dX12_looks_54 (by decide) ?_
  refine lv_istore (lv' := [(6, .int 0), (5, .int 0), (4, .int 0), (3, .int 4000), (2, .int 4000), (0, .ref a0), (1, .int 6)]) hx hb dX12_looks_55 hl (by decide) rfl (fun ls hl => ?_)
  refine lv_aload_n hx hb dX12_looks_57 rfl (lv_at hl 5 rfl) ?_
  refine z_get (v := .ref a2) hx hb hg hown hK hP i_X12 rfl 2 rfl 31 (by decide) mt1311 e2 dX12_looks_58 ?_
  refine lv_iload_n hx hb dX12_looks_61 rfl (lv_at hl 6 rfl) ?_
  refine z_iald (v := 0) (j := 6) hx hb hK hP 0 rfl rfl (Nat.le_of_ble_eq_true rfl) (Nat.le_of_ble_eq_true rfl) e3 dX12_looks_62 ?_
  refine lv_iconst (v := 1) hx hb dX12_looks_63 (by decide) ?_
  refine lv_isub hx hb dX12_looks_64 ?_
  refine z_cst (v := (-1)) (by decide +kernel) ?_
  refine lv_istore (lv' := [(7, .int (-1)), (6, .int 0), (5, .int 0), (4, .int 0), (3, .int 4000), (2, .int 4000), (0, .ref a0), (1, .int 6)]) hx hb dX12_looks_65 hl (by decide) rfl (fun ls hl => ?_)
  refine lv_iload hx hb dX12_looks_67 (lv_at hl 0 rfl) ?_
  refine lv_if_lt (tgt := 164) hx hb dX12_looks_69 (by decide) (fun _ => ?_) (fun c => absurd (by decide) c)
  refine lv_iload hx hb dX12_looks_164 (lv_at hl 3 rfl) ?_
  have hP9 : va_P K.1 classes [(a0, zO 10 83 g0), (a1, zI K 16 f1), (a2, zI K 8 f2)] H := hP.sub [2, 1, 0] rfl
  have hD9 : va_D A [(a0, zO 10 83 g0), (a1, zI K 16 f1), (a2, zI K 8 f2)] := hD.sub [2, 1, 0] (by decide) rfl
  exact z_zret hx hb hr rfl (fun _ => 0) rfl hP9 hD9 hS (Nat.le_of_ble_eq_true rfl) (Nat.le_of_ble_eq_true rfl) hlocks dX12_looks_166
set_option maxHeartbeats 4000000 in
set_option maxRecDepth 100000 in
theorem cX12_copiesGlobal_8 (l : Launch) (K : zK) (sz : Nat) (a0 : Nat) (a1 : Nat) (g0 : Nat → Value) (f1 : Nat → Int32) (e0 : g0 14 = (.ref a1)) (e1 : f1 7 = 0) : Met l yX12_copiesGlobal (Cond.code yX12_copiesGlobal cX12_copiesGlobal 5 (some .int) :: WG) { frames := 0, cells := 0, slots := 0, locals := 0 } (zPre K [(a0, zO 10 83 g0), (a1, zI K 16 f1)] sz [.ref a0, .int 7, .int 4000]) (va_Qi (fun (r : Int32) (_ : Nat → Nat) => r = 4000) (zB K (va_A [(a0, zO 10 83 g0), (a1, zI K 16 f1)] sz) (fun u : Nat → Nat => [(a0, zO 10 83 g0), (a1, zI K 16 f1)])) (va_A [(a0, zO 10 83 g0), (a1, zI K 16 f1)] sz)) 0 0 (va_A [(a0, zO 10 83 g0), (a1, zI K 16 f1)] sz) := by
  refine z_met (Qc := fun A => (va_Qi (fun (r : Int32) (_ : Nat → Nat) => r = 4000) (zB K A (fun u : Nat → Nat => [(a0, zO 10 83 g0), (a1, zI K 16 f1)])) A)) (by decide +kernel) (Nat.le_of_ble_eq_true rfl) ?_
  intro p e s m args below meth c A ls H hx hb hr hg hown hlocks hml hin hK hP hD hA hS hZ hl
  have hown : s.vm.findClass RX12 = some m.cls := hown
  have hl : lv_has ls 5 [(0, .ref a0), (1, .int 7), (2, .int 4000)] := hl
  refine lv_iconst (v := 0) hx hb dX12_copiesGlobal_0 (by decide) ?_
  refine lv_istore_n (lv' := [(3, .int 0), (0, .ref a0), (1, .int 7), (2, .int 4000)]) hx hb dX12_copiesGlobal_1 rfl hl (by decide) rfl (fun ls hl => ?_)
  refine lv_iload_n hx hb dX12_copiesGlobal_2 rfl (lv_at hl 0 rfl) ?_
  refine lv_aload_n hx hb dX12_copiesGlobal_3 rfl (lv_at hl 1 rfl) ?_
  refine z_get (v := .ref a1) hx hb hg hown hK hP i_X12 rfl 0 rfl 14 (by decide) mt1294 e0 dX12_copiesGlobal_4 ?_
  refine lv_iload_n hx hb dX12_copiesGlobal_7 rfl (lv_at hl 2 rfl) ?_
  refine z_iald (v := 0) (j := 7) hx hb hK hP 1 rfl rfl (Nat.le_of_ble_eq_true rfl) (Nat.le_of_ble_eq_true rfl) e1 dX12_copiesGlobal_8 ?_
  refine lv_icmp_ge (tgt := 68) hx hb dX12_copiesGlobal_9 (by decide) (fun _ => ?_) (fun c => absurd (by decide) c)
  refine lv_iload_n hx hb dX12_copiesGlobal_68 rfl (lv_at hl 3 rfl) ?_
  refine lv_aload_n hx hb dX12_copiesGlobal_69 rfl (lv_at hl 1 rfl) ?_
  refine z_get (v := .ref a1) hx hb hg hown hK hP i_X12 rfl 0 rfl 14 (by decide) mt1294 e0 dX12_copiesGlobal_70 ?_
  refine lv_iload_n hx hb dX12_copiesGlobal_73 rfl (lv_at hl 2 rfl) ?_
  refine z_iald (v := 0) (j := 7) hx hb hK hP 1 rfl rfl (Nat.le_of_ble_eq_true rfl) (Nat.le_of_ble_eq_true rfl) e1 dX12_copiesGlobal_74 ?_
  refine lv_iadd hx hb dX12_copiesGlobal_75 ?_
  refine z_cst (v := 4000) (by decide +kernel) ?_
  have hP9 : va_P K.1 classes [(a0, zO 10 83 g0), (a1, zI K 16 f1)] H := hP.sub [0, 1] rfl
  have hD9 : va_D A [(a0, zO 10 83 g0), (a1, zI K 16 f1)] := hD.sub [0, 1] (by decide) rfl
  exact z_iret hx hb hr (fun _ => 0) rfl hP9 hD9 hS (Nat.le_of_ble_eq_true rfl) (Nat.le_of_ble_eq_true rfl) hlocks dX12_copiesGlobal_76
set_option maxHeartbeats 4000000 in
set_option maxRecDepth 100000 in
theorem cX12_looks_8 (l : Launch) (K : zK) (sz : Nat) (a0 : Nat) (a1 : Nat) (a2 : Nat) (g0 : Nat → Value) (f1 : Nat → Int32) (f2 : Nat → Int32) (e0 : g0 14 = (.ref a1)) (e1 : f1 7 = 0) (e2 : g0 31 = (.ref a2)) (e3 : f2 7 = 0) : Met l yX12_looks (Cond.code yX12_looks cX12_looks 10 (some .boolean) :: WG) { frames := 1, cells := 0, slots := 0, locals := 25 } (zPre K [(a0, zO 10 83 g0), (a1, zI K 16 f1), (a2, zI K 8 f2)] sz [.ref a0, .int 7]) (va_Qi (fun (r : Int32) (_ : Nat → Nat) => r = 0) (zB K (va_A [(a0, zO 10 83 g0), (a1, zI K 16 f1), (a2, zI K 8 f2)] sz) (fun u : Nat → Nat => [(a0, zO 10 83 g0), (a1, zI K 16 f1), (a2, zI K 8 f2)])) (va_A [(a0, zO 10 83 g0), (a1, zI K 16 f1), (a2, zI K 8 f2)] sz)) 0 0 (va_A [(a0, zO 10 83 g0), (a1, zI K 16 f1), (a2, zI K 8 f2)] sz) := by
  refine z_met (Qc := fun A => (va_Qi (fun (r : Int32) (_ : Nat → Nat) => r = 0) (zB K A (fun u : Nat → Nat => [(a0, zO 10 83 g0), (a1, zI K 16 f1), (a2, zI K 8 f2)])) A)) (by decide +kernel) (Nat.le_of_ble_eq_true rfl) ?_
  intro p e s m args below meth c A ls H hx hb hr hg hown hlocks hml hin hK hP hD hA hS hZ hl
  have hown : s.vm.findClass RX12 = some m.cls := hown
  have hl : lv_has ls 10 [(0, .ref a0), (1, .int 7)] := hl
  refine lv_sipush (v := 4000) hx hb dX12_looks_0 (by decide) ?_
  refine lv_istore_n (lv' := [(2, .int 4000), (0, .ref a0), (1, .int 7)]) hx hb dX12_looks_3 rfl hl (by decide) rfl (fun ls hl => ?_)
  refine lv_aload_n hx hb dX12_looks_4 rfl (lv_at hl 1 rfl) ?_
  refine lv_iload_n hx hb dX12_looks_5 rfl (lv_at hl 2 rfl) ?_
  refine lv_iload_n hx hb dX12_looks_6 rfl (lv_at hl 0 rfl) ?_
  refine z_calli [(a0, zO 10 83 g0), (a1, zI K 16 f1)] [(a2, zI K 8 f2)] [0, 1] [2] hP hD hS hA rfl rfl (by decide) (by decide) (by decide +kernel) 0 0 rfl rfl (fun hPc hDc hF => z_runV (As := [.int 7, .int 4000]) (rest := []) ⟨hx, hb, hml, hown, hg⟩ (cX12_copiesGlobal_8 l K H.size a0 a1 g0 f1 e0 e1) kV_RX12_273 hd_X12_copiesGlobal rfl rfl ⟨(Nat.le_of_ble_eq_true rfl), (Nat.le_of_ble_eq_true rfl)⟩ hK hS hZ hPc hDc hF 0 rfl rfl rfl hl.1 rfl (Nat.le_of_ble_eq_true rfl) dX12_looks_7 ⟨(Nat.le_of_ble_eq_true rfl), (Nat.le_of_ble_eq_true rfl)⟩) (fun r3 u1 H locs w2 hP hD hS => ?_)
  subst w2
  have hP : va_P K.1 classes [(a2, zI K 8 f2), (a0, zO 10 83 g0), (a1, zI K 16 f1)] H := hP
  have hD : va_D A [(a2, zI K 8 f2), (a0, zO 10 83 g0), (a1, zI K 16 f1)] := hD
  refine lv_istore_n (lv' := [(3, .int 4000), (2, .int 4000), (0, .ref a0), (1, .int 7)]) hx hb dX12_looks_10 rfl hl (by decide) rfl (fun ls hl => ?_)
  refine lv_aload_n hx hb dX12_looks_11 rfl (lv_at hl 2 rfl) ?_
  refine lv_iload_n hx hb dX12_looks_12 rfl (lv_at hl 1 rfl) ?_
  refine lv_iload_n hx hb dX12_looks_13 rfl (lv_at hl 0 rfl) ?_
  refine z_callv [(a0, zO 10 83 g0)] [(a2, zI K 8 f2), (a1, zI K 16 f1)] [1] [0, 2] hP hD hS hA rfl rfl (by decide) (by decide) (by decide +kernel) 0 0 rfl rfl (fun hPc hDc hF => z_runV (As := [.int 4000, .int 4000]) (rest := []) ⟨hx, hb, hml, hown, hg⟩ (cX12_ends_1 l K H.size a0 g0) kV_RX12_240 hd_X12_ends rfl rfl ⟨(Nat.le_of_ble_eq_true rfl), (Nat.le_of_ble_eq_true rfl)⟩ hK hS hZ hPc hDc hF 0 rfl rfl rfl hl.1 rfl (Nat.le_of_ble_eq_true rfl) dX12_looks_14 ⟨(Nat.le_of_ble_eq_true rfl), (Nat.le_of_ble_eq_true rfl)⟩) (fun u4 H locs w5 hP hD hS => ?_)
  have hP : va_P K.1 classes [(a2, zI K 8 f2), (a1, zI K 16 f1), (a0, zO 10 83 g0)] H := hP
  have hD : va_D A [(a2, zI K 8 f2), (a1, zI K 16 f1), (a0, zO 10 83 g0)] := hD
  refine lv_aload_n hx hb dX12_looks_17 rfl (lv_at hl 2 rfl) ?_
  refine lv_iload_n hx hb dX12_looks_18 rfl (lv_at hl 1 rfl) ?_
  refine lv_iload_n hx hb dX12_looks_19 rfl (lv_at hl 0 rfl) ?_
  refine z_callv [(a0, zO 10 83 g0)] [(a2, zI K 8 f2), (a1, zI K 16 f1)] [2] [0, 1] hP hD hS hA rfl rfl (by decide) (by decide) (by decide +kernel) 0 0 rfl rfl (fun hPc hDc hF => z_runV (As := [.int 4000, .int 4000]) (rest := []) ⟨hx, hb, hml, hown, hg⟩ (cX12_findsNeeds_1 l K H.size a0 g0) kV_RX12_276 hd_X12_findsNeeds rfl rfl ⟨(Nat.le_of_ble_eq_true rfl), (Nat.le_of_ble_eq_true rfl)⟩ hK hS hZ hPc hDc hF 0 rfl rfl rfl hl.1 rfl (Nat.le_of_ble_eq_true rfl) dX12_looks_20 ⟨(Nat.le_of_ble_eq_true rfl), (Nat.le_of_ble_eq_true rfl)⟩) (fun u7 H locs w8 hP hD hS => ?_)
  have hP : va_P K.1 classes [(a2, zI K 8 f2), (a1, zI K 16 f1), (a0, zO 10 83 g0)] H := hP
  have hD : va_D A [(a2, zI K 8 f2), (a1, zI K 16 f1), (a0, zO 10 83 g0)] := hD
  refine lv_iconst (v := 0) hx hb dX12_looks_23 (by decide) ?_
  refine lv_istore (lv' := [(4, .int 0), (3, .int 4000), (2, .int 4000), (0, .ref a0), (1, .int 7)]) hx hb dX12_looks_24 hl (by decide) rfl (fun ls hl => ?_)
  refine lv_iconst (v := 0) hx hb dX12_looks_26 (by decide) ?_
  refine lv_istore (lv' := [(5, .int 0), (4, .int 0), (3, .int 4000), (2, .int 4000), (0, .ref a0), (1, .int 7)]) hx hb dX12_looks_27 hl (by decide) rfl (fun ls hl => ?_)
  refine lv_aload_n hx hb dX12_looks_29 rfl (lv_at hl 4 rfl) ?_
  refine z_get (v := .ref a2) hx hb hg hown hK hP i_X12 rfl 2 rfl 31 (by decide) mt1311 e2 dX12_looks_30 ?_
  refine lv_iload_n hx hb dX12_looks_33 rfl (lv_at hl 5 rfl) ?_
  refine z_iald (v := 0) (j := 7) hx hb hK hP 0 rfl rfl (Nat.le_of_ble_eq_true rfl) (Nat.le_of_ble_eq_true rfl) e3 dX12_looks_34 ?_
  refine lv_if_le (tgt := 54) hx hb dX12_looks_35 (by decide) (fun _ => ?_) (fun c => absurd (by decide) c)
  refine lv_iconst (v := 0) hx hb dX12_looks_54 (by decide) ?_
  refine lv_istore (lv' := [(6, .int 0), (5, .int 0), (4, .int 0), (3, .int 4000), (2, .int 4000), (0, .ref a0), (1, .int 7)]) hx hb dX12_looks_55 hl (by decide) rfl (fun ls hl => ?_)
  refine lv_aload_n hx hb dX12_looks_57 rfl (lv_at hl 5 rfl) ?_
  refine z_get (v := .ref a2) hx hb hg hown hK hP i_X12 rfl 2 rfl 31 (by decide) mt1311 e2 dX12_looks_58 ?_
  refine lv_iload_n hx hb dX12_looks_61 rfl (lv_at hl 6 rfl) ?_
  refine z_iald (v := 0) (j := 7) hx hb hK hP 0 rfl rfl (Nat.le_of_ble_eq_true rfl) (Nat.le_of_ble_eq_true rfl) e3 dX12_looks_62 ?_
  refine lv_iconst (v := 1) hx hb dX12_looks_63 (by decide) ?_
  refine lv_isub hx hb dX12_looks_64 ?_
  refine z_cst (v := (-1)) (by decide +kernel) ?_
  refine lv_istore (lv' := [(7, .int (-1)), (6, .int 0), (5, .int 0), (4, .int 0), (3, .int 4000), (2, .int 4000), (0, .ref a0), (1, .int 7)]) hx hb dX12_looks_65 hl (by decide) rfl (fun ls hl => ?_)
  refine lv_iload hx hb dX12_looks_67 (lv_at hl 0 rfl) ?_
  refine lv_if_lt (tgt := 164) hx hb dX12_looks_69 (by decide) (fun _ => ?_) (fun c => absurd (by decide) c)
  refine lv_iload hx hb dX12_looks_164 (lv_at hl 3 rfl) ?_
  have hP9 : va_P K.1 classes [(a0, zO 10 83 g0), (a1, zI K 16 f1), (a2, zI K 8 f2)] H := hP.sub [2, 1, 0] rfl
  have hD9 : va_D A [(a0, zO 10 83 g0), (a1, zI K 16 f1), (a2, zI K 8 f2)] := hD.sub [2, 1, 0] (by decide) rfl
  exact z_zret hx hb hr rfl (fun _ => 0) rfl hP9 hD9 hS (Nat.le_of_ble_eq_true rfl) (Nat.le_of_ble_eq_true rfl) hlocks dX12_looks_166
set_option maxHeartbeats 4000000 in
set_option maxRecDepth 100000 in
theorem cX12_demands_1 (l : Launch) (K : zK) (sz : Nat) (a0 : Nat) (a1 : Nat) (a2 : Nat) (a3 : Nat) (a4 : Nat) (g0 : Nat → Value) (f1 : Nat → Int32) (f2 : Nat → Int32) (f3 : Nat → Int32) (f4 : Nat → Int32) (e0 : g0 31 = (.ref a1)) (e1 : g0 14 = (.ref a2)) (e2 : f2 0 = 0) (e3 : f2 1 = 0) (e4 : f2 2 = 0) (e5 : f2 3 = 0) (e6 : f2 4 = 0) (e7 : f2 5 = 0) (e8 : f2 6 = 0) (e9 : f2 7 = 0) (e10 : g0 30 = (.ref a3)) (e11 : g0 82 = (.ref a4)) (e12 : ∀ j : Nat, f4 j = 0) : Met l yX12_demands (Cond.code yX12_demands cX12_demands 3 none :: WG) { frames := 2, cells := 0, slots := 0, locals := 54 } (zPre K [(a0, zO 10 83 g0), (a1, zI K 8 f1), (a2, zI K 16 f2), (a3, zZ K 640 f3), (a4, zZ K 640 f4)] sz [.ref a0]) (va_Qv (fun _ : Nat → Nat => True) (zB K (va_A [(a0, zO 10 83 g0), (a1, zI K 8 f1), (a2, zI K 16 f2), (a3, zZ K 640 f3), (a4, zZ K 640 f4)] sz) (fun u : Nat → Nat => [(a0, zO 10 83 g0), (a1, zI K 8 (va_up (va_up (va_up (va_up (va_up (va_up (va_up (va_up f1 0 0) 1 0) 2 0) 3 0) 4 0) 5 0) 6 0) 7 0)), (a2, zI K 16 f2)])) (va_A [(a0, zO 10 83 g0), (a1, zI K 8 f1), (a2, zI K 16 f2), (a3, zZ K 640 f3), (a4, zZ K 640 f4)] sz)) 0 0 (va_A [(a0, zO 10 83 g0), (a1, zI K 8 f1), (a2, zI K 16 f2), (a3, zZ K 640 f3), (a4, zZ K 640 f4)] sz) := by
  refine z_met (Qc := fun A => (va_Qv (fun _ : Nat → Nat => True) (zB K A (fun u : Nat → Nat => [(a0, zO 10 83 g0), (a1, zI K 8 (va_up (va_up (va_up (va_up (va_up (va_up (va_up (va_up f1 0 0) 1 0) 2 0) 3 0) 4 0) 5 0) 6 0) 7 0)), (a2, zI K 16 f2)])) A)) (by decide +kernel) (Nat.le_of_ble_eq_true rfl) ?_
  intro p e s m args below meth c A ls H hx hb hr hg hown hlocks hml hin hK hP hD hA hS hZ hl
  have hown : s.vm.findClass RX12 = some m.cls := hown
  have hl : lv_has ls 3 [(0, .ref a0)] := hl
  refine lv_iconst (v := 0) hx hb dX12_demands_0 (by decide) ?_
  refine lv_istore_n (lv' := [(1, .int 0), (0, .ref a0)]) hx hb dX12_demands_1 rfl hl (by decide) rfl (fun ls hl => ?_)
  refine lv_iload_n hx hb dX12_demands_2 rfl (lv_at hl 0 rfl) ?_
  refine lv_bipush (v := 8) hx hb dX12_demands_3 (by decide) ?_
  refine lv_icmp_ge (tgt := 69) hx hb dX12_demands_5 (by decide) (fun c => absurd c (by decide)) (fun _ => ?_)
  refine lv_aload_n hx hb dX12_demands_8 rfl (lv_at hl 1 rfl) ?_
  refine z_get (v := .ref a1) hx hb hg hown hK hP i_X12 rfl 0 rfl 31 (by decide) mt1311 e0 dX12_demands_9 ?_
  refine lv_iload_n hx hb dX12_demands_12 rfl (lv_at hl 0 rfl) ?_
  refine lv_iconst (v := 0) hx hb dX12_demands_13 (by decide) ?_
  refine z_iast (j := 0) hx hb hK hP hD hS 1 rfl rfl (Nat.le_of_ble_eq_true rfl) (Nat.le_of_ble_eq_true rfl) dX12_demands_14 (fun ff1 H locs y2 hP hD hS => ?_)
  have hP : va_P K.1 classes [(a0, zO 10 83 g0), (a1, zI K 8 ff1), (a2, zI K 16 f2), (a3, zZ K 640 f3), (a4, zZ K 640 f4)] H := hP
  have hD : va_D A [(a0, zO 10 83 g0), (a1, zI K 8 ff1), (a2, zI K 16 f2), (a3, zZ K 640 f3), (a4, zZ K 640 f4)] := hD
  refine lv_aload_n hx hb dX12_demands_15 rfl (lv_at hl 1 rfl) ?_
  refine z_get (v := .ref a1) hx hb hg hown hK hP i_X12 rfl 0 rfl 31 (by decide) mt1311 e0 dX12_demands_16 ?_
  refine lv_iload_n hx hb dX12_demands_19 rfl (lv_at hl 0 rfl) ?_
  refine z_iald (v := 0) (j := 0) hx hb hK hP 1 rfl rfl (Nat.le_of_ble_eq_true rfl) (Nat.le_of_ble_eq_true rfl) (zu_of y2 zu_eq) dX12_demands_20 ?_
  refine lv_aload_n hx hb dX12_demands_21 rfl (lv_at hl 1 rfl) ?_
  refine z_get (v := .ref a2) hx hb hg hown hK hP i_X12 rfl 0 rfl 14 (by decide) mt1294 e1 dX12_demands_22 ?_
  refine lv_iload_n hx hb dX12_demands_25 rfl (lv_at hl 0 rfl) ?_
  refine z_iald (v := 0) (j := 0) hx hb hK hP 2 rfl rfl (Nat.le_of_ble_eq_true rfl) (Nat.le_of_ble_eq_true rfl) e2 dX12_demands_26 ?_
  refine lv_icmp_ge (tgt := 63) hx hb dX12_demands_27 (by decide) (fun _ => ?_) (fun c => absurd (by decide) c)
  refine lv_iinc (v := 1) (lv' := [(1, .int 1), (0, .ref a0)]) hx hb dX12_demands_63 hl (k := 0) rfl (by decide +kernel) (by decide) rfl (fun ls hl => ?_)
  refine lv_goto (tgt := 2) hx hb dX12_demands_66 (by decide) ?_
  refine lv_iload_n hx hb dX12_demands_2 rfl (lv_at hl 0 rfl) ?_
  refine lv_bipush (v := 8) hx hb dX12_demands_3 (by decide) ?_
  refine lv_icmp_ge (tgt := 69) hx hb dX12_demands_5 (by decide) (fun c => absurd c (by decide)) (fun _ => ?_)
  refine lv_aload_n hx hb dX12_demands_8 rfl (lv_at hl 1 rfl) ?_
  refine z_get (v := .ref a1) hx hb hg hown hK hP i_X12 rfl 0 rfl 31 (by decide) mt1311 e0 dX12_demands_9 ?_
  refine lv_iload_n hx hb dX12_demands_12 rfl (lv_at hl 0 rfl) ?_
  refine lv_iconst (v := 0) hx hb dX12_demands_13 (by decide) ?_
  refine z_iast (j := 1) hx hb hK hP hD hS 1 rfl rfl (Nat.le_of_ble_eq_true rfl) (Nat.le_of_ble_eq_true rfl) dX12_demands_14 (fun ff3 H locs y4 hP hD hS => ?_)
  have hP : va_P K.1 classes [(a0, zO 10 83 g0), (a1, zI K 8 ff3), (a2, zI K 16 f2), (a3, zZ K 640 f3), (a4, zZ K 640 f4)] H := hP
  have hD : va_D A [(a0, zO 10 83 g0), (a1, zI K 8 ff3), (a2, zI K 16 f2), (a3, zZ K 640 f3), (a4, zZ K 640 f4)] := hD
  refine lv_aload_n hx hb dX12_demands_15 rfl (lv_at hl 1 rfl) ?_
  refine z_get (v := .ref a1) hx hb hg hown hK hP i_X12 rfl 0 rfl 31 (by decide) mt1311 e0 dX12_demands_16 ?_
  refine lv_iload_n hx hb dX12_demands_19 rfl (lv_at hl 0 rfl) ?_
  refine z_iald (v := 0) (j := 1) hx hb hK hP 1 rfl rfl (Nat.le_of_ble_eq_true rfl) (Nat.le_of_ble_eq_true rfl) (zu_of y4 zu_eq) dX12_demands_20 ?_
  refine lv_aload_n hx hb dX12_demands_21 rfl (lv_at hl 1 rfl) ?_
  refine z_get (v := .ref a2) hx hb hg hown hK hP i_X12 rfl 0 rfl 14 (by decide) mt1294 e1 dX12_demands_22 ?_
  refine lv_iload_n hx hb dX12_demands_25 rfl (lv_at hl 0 rfl) ?_
  refine z_iald (v := 0) (j := 1) hx hb hK hP 2 rfl rfl (Nat.le_of_ble_eq_true rfl) (Nat.le_of_ble_eq_true rfl) e3 dX12_demands_26 ?_
  refine lv_icmp_ge (tgt := 63) hx hb dX12_demands_27 (by decide) (fun _ => ?_) (fun c => absurd (by decide) c)
  refine lv_iinc (v := 2) (lv' := [(1, .int 2), (0, .ref a0)]) hx hb dX12_demands_63 hl (k := 0) rfl (by decide +kernel) (by decide) rfl (fun ls hl => ?_)
  refine lv_goto (tgt := 2) hx hb dX12_demands_66 (by decide) ?_
  refine lv_iload_n hx hb dX12_demands_2 rfl (lv_at hl 0 rfl) ?_
  refine lv_bipush (v := 8) hx hb dX12_demands_3 (by decide) ?_
  refine lv_icmp_ge (tgt := 69) hx hb dX12_demands_5 (by decide) (fun c => absurd c (by decide)) (fun _ => ?_)
  refine lv_aload_n hx hb dX12_demands_8 rfl (lv_at hl 1 rfl) ?_
  refine z_get (v := .ref a1) hx hb hg hown hK hP i_X12 rfl 0 rfl 31 (by decide) mt1311 e0 dX12_demands_9 ?_
  refine lv_iload_n hx hb dX12_demands_12 rfl (lv_at hl 0 rfl) ?_
  refine lv_iconst (v := 0) hx hb dX12_demands_13 (by decide) ?_
  refine z_iast (j := 2) hx hb hK hP hD hS 1 rfl rfl (Nat.le_of_ble_eq_true rfl) (Nat.le_of_ble_eq_true rfl) dX12_demands_14 (fun ff5 H locs y6 hP hD hS => ?_)
  have hP : va_P K.1 classes [(a0, zO 10 83 g0), (a1, zI K 8 ff5), (a2, zI K 16 f2), (a3, zZ K 640 f3), (a4, zZ K 640 f4)] H := hP
  have hD : va_D A [(a0, zO 10 83 g0), (a1, zI K 8 ff5), (a2, zI K 16 f2), (a3, zZ K 640 f3), (a4, zZ K 640 f4)] := hD
  refine lv_aload_n hx hb dX12_demands_15 rfl (lv_at hl 1 rfl) ?_
  refine z_get (v := .ref a1) hx hb hg hown hK hP i_X12 rfl 0 rfl 31 (by decide) mt1311 e0 dX12_demands_16 ?_
  refine lv_iload_n hx hb dX12_demands_19 rfl (lv_at hl 0 rfl) ?_
  refine z_iald (v := 0) (j := 2) hx hb hK hP 1 rfl rfl (Nat.le_of_ble_eq_true rfl) (Nat.le_of_ble_eq_true rfl) (zu_of y6 zu_eq) dX12_demands_20 ?_
  refine lv_aload_n hx hb dX12_demands_21 rfl (lv_at hl 1 rfl) ?_
  refine z_get (v := .ref a2) hx hb hg hown hK hP i_X12 rfl 0 rfl 14 (by decide) mt1294 e1 dX12_demands_22 ?_
  refine lv_iload_n hx hb dX12_demands_25 rfl (lv_at hl 0 rfl) ?_
  refine z_iald (v := 0) (j := 2) hx hb hK hP 2 rfl rfl (Nat.le_of_ble_eq_true rfl) (Nat.le_of_ble_eq_true rfl) e4 dX12_demands_26 ?_
  refine lv_icmp_ge (tgt := 63) hx hb dX12_demands_27 (by decide) (fun _ => ?_) (fun c => absurd (by decide) c)
  refine lv_iinc (v := 3) (lv' := [(1, .int 3), (0, .ref a0)]) hx hb dX12_demands_63 hl (k := 0) rfl (by decide +kernel) (by decide) rfl (fun ls hl => ?_)
  refine lv_goto (tgt := 2) hx hb dX12_demands_66 (by decide) ?_
  refine lv_iload_n hx hb dX12_demands_2 rfl (lv_at hl 0 rfl) ?_
  refine lv_bipush (v := 8) hx hb dX12_demands_3 (by decide) ?_
  refine lv_icmp_ge (tgt := 69) hx hb dX12_demands_5 (by decide) (fun c => absurd c (by decide)) (fun _ => ?_)
  refine lv_aload_n hx hb dX12_demands_8 rfl (lv_at hl 1 rfl) ?_
  refine z_get (v := .ref a1) hx hb hg hown hK hP i_X12 rfl 0 rfl 31 (by decide) mt1311 e0 dX12_demands_9 ?_
  refine lv_iload_n hx hb dX12_demands_12 rfl (lv_at hl 0 rfl) ?_
  refine lv_iconst (v := 0) hx hb dX12_demands_13 (by decide) ?_
  refine z_iast (j := 3) hx hb hK hP hD hS 1 rfl rfl (Nat.le_of_ble_eq_true rfl) (Nat.le_of_ble_eq_true rfl) dX12_demands_14 (fun ff7 H locs y8 hP hD hS => ?_)
  have hP : va_P K.1 classes [(a0, zO 10 83 g0), (a1, zI K 8 ff7), (a2, zI K 16 f2), (a3, zZ K 640 f3), (a4, zZ K 640 f4)] H := hP
  have hD : va_D A [(a0, zO 10 83 g0), (a1, zI K 8 ff7), (a2, zI K 16 f2), (a3, zZ K 640 f3), (a4, zZ K 640 f4)] := hD
  refine lv_aload_n hx hb dX12_demands_15 rfl (lv_at hl 1 rfl) ?_
  refine z_get (v := .ref a1) hx hb hg hown hK hP i_X12 rfl 0 rfl 31 (by decide) mt1311 e0 dX12_demands_16 ?_
  refine lv_iload_n hx hb dX12_demands_19 rfl (lv_at hl 0 rfl) ?_
  refine z_iald (v := 0) (j := 3) hx hb hK hP 1 rfl rfl (Nat.le_of_ble_eq_true rfl) (Nat.le_of_ble_eq_true rfl) (zu_of y8 zu_eq) dX12_demands_20 ?_
  refine lv_aload_n hx hb dX12_demands_21 rfl (lv_at hl 1 rfl) ?_
  refine z_get (v := .ref a2) hx hb hg hown hK hP i_X12 rfl 0 rfl 14 (by decide) mt1294 e1 dX12_demands_22 ?_
  refine lv_iload_n hx hb dX12_demands_25 rfl (lv_at hl 0 rfl) ?_
  refine z_iald (v := 0) (j := 3) hx hb hK hP 2 rfl rfl (Nat.le_of_ble_eq_true rfl) (Nat.le_of_ble_eq_true rfl) e5 dX12_demands_26 ?_
  refine lv_icmp_ge (tgt := 63) hx hb dX12_demands_27 (by decide) (fun _ => ?_) (fun c => absurd (by decide) c)
  refine lv_iinc (v := 4) (lv' := [(1, .int 4), (0, .ref a0)]) hx hb dX12_demands_63 hl (k := 0) rfl (by decide +kernel) (by decide) rfl (fun ls hl => ?_)
  refine lv_goto (tgt := 2) hx hb dX12_demands_66 (by decide) ?_
  refine lv_iload_n hx hb dX12_demands_2 rfl (lv_at hl 0 rfl) ?_
  refine lv_bipush (v := 8) hx hb dX12_demands_3 (by decide) ?_
  refine lv_icmp_ge (tgt := 69) hx hb dX12_demands_5 (by decide) (fun c => absurd c (by decide)) (fun _ => ?_)
  refine lv_aload_n hx hb dX12_demands_8 rfl (lv_at hl 1 rfl) ?_
  refine z_get (v := .ref a1) hx hb hg hown hK hP i_X12 rfl 0 rfl 31 (by decide) mt1311 e0 dX12_demands_9 ?_
  refine lv_iload_n hx hb dX12_demands_12 rfl (lv_at hl 0 rfl) ?_
  refine lv_iconst (v := 0) hx hb dX12_demands_13 (by decide) ?_
  refine z_iast (j := 4) hx hb hK hP hD hS 1 rfl rfl (Nat.le_of_ble_eq_true rfl) (Nat.le_of_ble_eq_true rfl) dX12_demands_14 (fun ff9 H locs y10 hP hD hS => ?_)
  have hP : va_P K.1 classes [(a0, zO 10 83 g0), (a1, zI K 8 ff9), (a2, zI K 16 f2), (a3, zZ K 640 f3), (a4, zZ K 640 f4)] H := hP
  have hD : va_D A [(a0, zO 10 83 g0), (a1, zI K 8 ff9), (a2, zI K 16 f2), (a3, zZ K 640 f3), (a4, zZ K 640 f4)] := hD
  refine lv_aload_n hx hb dX12_demands_15 rfl (lv_at hl 1 rfl) ?_
  refine z_get (v := .ref a1) hx hb hg hown hK hP i_X12 rfl 0 rfl 31 (by decide) mt1311 e0 dX12_demands_16 ?_
  refine lv_iload_n hx hb dX12_demands_19 rfl (lv_at hl 0 rfl) ?_
  refine z_iald (v := 0) (j := 4) hx hb hK hP 1 rfl rfl (Nat.le_of_ble_eq_true rfl) (Nat.le_of_ble_eq_true rfl) (zu_of y10 zu_eq) dX12_demands_20 ?_
  refine lv_aload_n hx hb dX12_demands_21 rfl (lv_at hl 1 rfl) ?_
  refine z_get (v := .ref a2) hx hb hg hown hK hP i_X12 rfl 0 rfl 14 (by decide) mt1294 e1 dX12_demands_22 ?_
  refine lv_iload_n hx hb dX12_demands_25 rfl (lv_at hl 0 rfl) ?_
  refine z_iald (v := 0) (j := 4) hx hb hK hP 2 rfl rfl (Nat.le_of_ble_eq_true rfl) (Nat.le_of_ble_eq_true rfl) e6 dX12_demands_26 ?_
  refine lv_icmp_ge (tgt := 63) hx hb dX12_demands_27 (by decide) (fun _ => ?_) (fun c => absurd (by decide) c)
  refine lv_iinc (v := 5) (lv' := [(1, .int 5), (0, .ref a0)]) hx hb dX12_demands_63 hl (k := 0) rfl (by decide +kernel) (by decide) rfl (fun ls hl => ?_)
  refine lv_goto (tgt := 2) hx hb dX12_demands_66 (by decide) ?_
  refine lv_iload_n hx hb dX12_demands_2 rfl (lv_at hl 0 rfl) ?_
  refine lv_bipush (v := 8) hx hb dX12_demands_3 (by decide) ?_
  refine lv_icmp_ge (tgt := 69) hx hb dX12_demands_5 (by decide) (fun c => absurd c (by decide)) (fun _ => ?_)
  refine lv_aload_n hx hb dX12_demands_8 rfl (lv_at hl 1 rfl) ?_
  refine z_get (v := .ref a1) hx hb hg hown hK hP i_X12 rfl 0 rfl 31 (by decide) mt1311 e0 dX12_demands_9 ?_
  refine lv_iload_n hx hb dX12_demands_12 rfl (lv_at hl 0 rfl) ?_
  refine lv_iconst (v := 0) hx hb dX12_demands_13 (by decide) ?_
  refine z_iast (j := 5) hx hb hK hP hD hS 1 rfl rfl (Nat.le_of_ble_eq_true rfl) (Nat.le_of_ble_eq_true rfl) dX12_demands_14 (fun ff11 H locs y12 hP hD hS => ?_)
  have hP : va_P K.1 classes [(a0, zO 10 83 g0), (a1, zI K 8 ff11), (a2, zI K 16 f2), (a3, zZ K 640 f3), (a4, zZ K 640 f4)] H := hP
  have hD : va_D A [(a0, zO 10 83 g0), (a1, zI K 8 ff11), (a2, zI K 16 f2), (a3, zZ K 640 f3), (a4, zZ K 640 f4)] := hD
  refine lv_aload_n hx hb dX12_demands_15 rfl (lv_at hl 1 rfl) ?_
  refine z_get (v := .ref a1) hx hb hg hown hK hP i_X12 rfl 0 rfl 31 (by decide) mt1311 e0 dX12_demands_16 ?_
  refine lv_iload_n hx hb dX12_demands_19 rfl (lv_at hl 0 rfl) ?_
  refine z_iald (v := 0) (j := 5) hx hb hK hP 1 rfl rfl (Nat.le_of_ble_eq_true rfl) (Nat.le_of_ble_eq_true rfl) (zu_of y12 zu_eq) dX12_demands_20 ?_
  refine lv_aload_n hx hb dX12_demands_21 rfl (lv_at hl 1 rfl) ?_
  refine z_get (v := .ref a2) hx hb hg hown hK hP i_X12 rfl 0 rfl 14 (by decide) mt1294 e1 dX12_demands_22 ?_
  refine lv_iload_n hx hb dX12_demands_25 rfl (lv_at hl 0 rfl) ?_
  refine z_iald (v := 0) (j := 5) hx hb hK hP 2 rfl rfl (Nat.le_of_ble_eq_true rfl) (Nat.le_of_ble_eq_true rfl) e7 dX12_demands_26 ?_
  refine lv_icmp_ge (tgt := 63) hx hb dX12_demands_27 (by decide) (fun _ => ?_) (fun c => absurd (by decide) c)
  refine lv_iinc (v := 6) (lv' := [(1, .int 6), (0, .ref a0)]) hx hb dX12_demands_63 hl (k := 0) rfl (by decide +kernel) (by decide) rfl (fun ls hl => ?_)
  refine lv_goto (tgt := 2) hx hb dX12_demands_66 (by decide) ?_
  refine lv_iload_n hx hb dX12_demands_2 rfl (lv_at hl 0 rfl) ?_
  refine lv_bipush (v := 8) hx hb dX12_demands_3 (by decide) ?_
  refine lv_icmp_ge (tgt := 69) hx hb dX12_demands_5 (by decide) (fun c => absurd c (by decide)) (fun _ => ?_)
  refine lv_aload_n hx hb dX12_demands_8 rfl (lv_at hl 1 rfl) ?_
  refine z_get (v := .ref a1) hx hb hg hown hK hP i_X12 rfl 0 rfl 31 (by decide) mt1311 e0 dX12_demands_9 ?_
  refine lv_iload_n hx hb dX12_demands_12 rfl (lv_at hl 0 rfl) ?_
  refine lv_iconst (v := 0) hx hb dX12_demands_13 (by decide) ?_
  refine z_iast (j := 6) hx hb hK hP hD hS 1 rfl rfl (Nat.le_of_ble_eq_true rfl) (Nat.le_of_ble_eq_true rfl) dX12_demands_14 (fun ff13 H locs y14 hP hD hS => ?_)
  have hP : va_P K.1 classes [(a0, zO 10 83 g0), (a1, zI K 8 ff13), (a2, zI K 16 f2), (a3, zZ K 640 f3), (a4, zZ K 640 f4)] H := hP
  have hD : va_D A [(a0, zO 10 83 g0), (a1, zI K 8 ff13), (a2, zI K 16 f2), (a3, zZ K 640 f3), (a4, zZ K 640 f4)] := hD
  refine lv_aload_n hx hb dX12_demands_15 rfl (lv_at hl 1 rfl) ?_
  refine z_get (v := .ref a1) hx hb hg hown hK hP i_X12 rfl 0 rfl 31 (by decide) mt1311 e0 dX12_demands_16 ?_
  refine lv_iload_n hx hb dX12_demands_19 rfl (lv_at hl 0 rfl) ?_
  refine z_iald (v := 0) (j := 6) hx hb hK hP 1 rfl rfl (Nat.le_of_ble_eq_true rfl) (Nat.le_of_ble_eq_true rfl) (zu_of y14 zu_eq) dX12_demands_20 ?_
  refine lv_aload_n hx hb dX12_demands_21 rfl (lv_at hl 1 rfl) ?_
  refine z_get (v := .ref a2) hx hb hg hown hK hP i_X12 rfl 0 rfl 14 (by decide) mt1294 e1 dX12_demands_22 ?_
  refine lv_iload_n hx hb dX12_demands_25 rfl (lv_at hl 0 rfl) ?_
  refine z_iald (v := 0) (j := 6) hx hb hK hP 2 rfl rfl (Nat.le_of_ble_eq_true rfl) (Nat.le_of_ble_eq_true rfl) e8 dX12_demands_26 ?_
  refine lv_icmp_ge (tgt := 63) hx hb dX12_demands_27 (by decide) (fun _ => ?_) (fun c => absurd (by decide) c)
  refine lv_iinc (v := 7) (lv' := [(1, .int 7), (0, .ref a0)]) hx hb dX12_demands_63 hl (k := 0) rfl (by decide +kernel) (by decide) rfl (fun ls hl => ?_)
  refine lv_goto (tgt := 2) hx hb dX12_demands_66 (by decide) ?_
  refine lv_iload_n hx hb dX12_demands_2 rfl (lv_at hl 0 rfl) ?_
  refine lv_bipush (v := 8) hx hb dX12_demands_3 (by decide) ?_
  refine lv_icmp_ge (tgt := 69) hx hb dX12_demands_5 (by decide) (fun c => absurd c (by decide)) (fun _ => ?_)
  refine lv_aload_n hx hb dX12_demands_8 rfl (lv_at hl 1 rfl) ?_
  refine z_get (v := .ref a1) hx hb hg hown hK hP i_X12 rfl 0 rfl 31 (by decide) mt1311 e0 dX12_demands_9 ?_
  refine lv_iload_n hx hb dX12_demands_12 rfl (lv_at hl 0 rfl) ?_
  refine lv_iconst (v := 0) hx hb dX12_demands_13 (by decide) ?_
  refine z_iast (j := 7) hx hb hK hP hD hS 1 rfl rfl (Nat.le_of_ble_eq_true rfl) (Nat.le_of_ble_eq_true rfl) dX12_demands_14 (fun ff15 H locs y16 hP hD hS => ?_)
  have hP : va_P K.1 classes [(a0, zO 10 83 g0), (a1, zI K 8 ff15), (a2, zI K 16 f2), (a3, zZ K 640 f3), (a4, zZ K 640 f4)] H := hP
  have hD : va_D A [(a0, zO 10 83 g0), (a1, zI K 8 ff15), (a2, zI K 16 f2), (a3, zZ K 640 f3), (a4, zZ K 640 f4)] := hD
  refine lv_aload_n hx hb dX12_demands_15 rfl (lv_at hl 1 rfl) ?_
  refine z_get (v := .ref a1) hx hb hg hown hK hP i_X12 rfl 0 rfl 31 (by decide) mt1311 e0 dX12_demands_16 ?_
  refine lv_iload_n hx hb dX12_demands_19 rfl (lv_at hl 0 rfl) ?_
  refine z_iald (v := 0) (j := 7) hx hb hK hP 1 rfl rfl (Nat.le_of_ble_eq_true rfl) (Nat.le_of_ble_eq_true rfl) (zu_of y16 zu_eq) dX12_demands_20 ?_
  refine lv_aload_n hx hb dX12_demands_21 rfl (lv_at hl 1 rfl) ?_
  refine z_get (v := .ref a2) hx hb hg hown hK hP i_X12 rfl 0 rfl 14 (by decide) mt1294 e1 dX12_demands_22 ?_
  refine lv_iload_n hx hb dX12_demands_25 rfl (lv_at hl 0 rfl) ?_
  refine z_iald (v := 0) (j := 7) hx hb hK hP 2 rfl rfl (Nat.le_of_ble_eq_true rfl) (Nat.le_of_ble_eq_true rfl) e9 dX12_demands_26 ?_
  refine lv_icmp_ge (tgt := 63) hx hb dX12_demands_27 (by decide) (fun _ => ?_) (fun c => absurd (by decide) c)
  refine lv_iinc (v := 8) (lv' := [(1, .int 8), (0, .ref a0)]) hx hb dX12_demands_63 hl (k := 0) rfl (by decide +kernel) (by decide) rfl (fun ls hl => ?_)
  refine lv_goto (tgt := 2) hx hb dX12_demands_66 (by decide) ?_
  refine lv_iload_n hx hb dX12_demands_2 rfl (lv_at hl 0 rfl) ?_
  refine lv_bipush (v := 8) hx hb dX12_demands_3 (by decide) ?_
  refine lv_icmp_ge (tgt := 69) hx hb dX12_demands_5 (by decide) (fun _ => ?_) (fun c => absurd (by decide) c)
  refine lv_iconst (v := 0) hx hb dX12_demands_69 (by decide) ?_
  refine lv_istore_n (lv' := [(1, .int 0), (0, .ref a0)]) hx hb dX12_demands_70 rfl hl (by decide) rfl (fun ls hl => ?_)
  refine z_loop (I := (fun i ls H locs => ∃ (zz17 : Nat → Int32) (zz18 : Nat → Int32), (∀ j : Nat, vp_nar .boolean (zz18 j) = zz18 j) ∧ va_P K.1 classes [(a0, zO 10 83 g0), (a1, zI K 8 ff15), (a2, zI K 16 f2), (a3, zZ K 640 zz17), (a4, zZ K 640 zz18)] H ∧ va_D A [(a0, zO 10 83 g0), (a1, zI K 8 ff15), (a2, zI K 16 f2), (a3, zZ K 640 zz17), (a4, zZ K 640 zz18)] ∧ va_S A s.heap H locs ∧ lv_has ls 3 [(1, .int (nI i)), (0, .ref a0)])) 640 ⟨_, _, ((fun j => by rw [e12 j]; rfl)), hP, hD, hS, hl⟩ (fun i hi ls H locs hI kk => ?_) (fun ls H locs hI => ?_)
  · obtain ⟨zz17, zz18, hnzz18, hP, hD, hS, hl⟩ := hI
    refine lv_iload_n hx hb dX12_demands_71 rfl (lv_at hl 0 rfl) ?_
    refine lv_sipush (v := 640) hx hb dX12_demands_72 (by decide) ?_
    refine lv_icmp_ge (tgt := 98) hx hb dX12_demands_75 (by decide) (fun c => absurd c ((by decide +kernel : ∀ j, j < 640 → ¬ ((640 : Int32) ≤ (nI j))) i hi)) (fun _ => ?_)
    refine lv_aload_n hx hb dX12_demands_78 rfl (lv_at hl 1 rfl) ?_
    refine z_get (v := .ref a3) hx hb hg hown hK hP i_X12 rfl 0 rfl 30 (by decide) mt1310 e10 dX12_demands_79 ?_
    refine lv_iload_n hx hb dX12_demands_82 rfl (lv_at hl 0 rfl) ?_
    refine lv_iconst (v := 1) hx hb dX12_demands_83 (by decide) ?_
    refine z_zast (j := i) hx hb hK hP hD hS 3 rfl rfl (Nat.lt_of_lt_of_le hi (Nat.le_of_ble_eq_true rfl)) (Nat.le_of_ble_eq_true rfl) (by decide) dX12_demands_84 (fun ff19 H locs y20 hP hD hS => ?_)
    have hP : va_P K.1 classes [(a0, zO 10 83 g0), (a1, zI K 8 ff15), (a2, zI K 16 f2), (a3, zZ K 640 ff19), (a4, zZ K 640 zz18)] H := hP
    have hD : va_D A [(a0, zO 10 83 g0), (a1, zI K 8 ff15), (a2, zI K 16 f2), (a3, zZ K 640 ff19), (a4, zZ K 640 zz18)] := hD
    refine lv_aload_n hx hb dX12_demands_85 rfl (lv_at hl 1 rfl) ?_
    refine z_get (v := .ref a4) hx hb hg hown hK hP i_X12 rfl 0 rfl 82 (by decide) mt1362 e11 dX12_demands_86 ?_
    refine lv_iload_n hx hb dX12_demands_89 rfl (lv_at hl 0 rfl) ?_
    refine lv_iconst (v := 1) hx hb dX12_demands_90 (by decide) ?_
    refine z_zast (j := i) hx hb hK hP hD hS 4 rfl rfl (Nat.lt_of_lt_of_le hi (Nat.le_of_ble_eq_true rfl)) (Nat.le_of_ble_eq_true rfl) (by decide) dX12_demands_91 (fun ff21 H locs y22 hP hD hS => ?_)
    have hP : va_P K.1 classes [(a0, zO 10 83 g0), (a1, zI K 8 ff15), (a2, zI K 16 f2), (a3, zZ K 640 ff19), (a4, zZ K 640 ff21)] H := hP
    have hD : va_D A [(a0, zO 10 83 g0), (a1, zI K 8 ff15), (a2, zI K 16 f2), (a3, zZ K 640 ff19), (a4, zZ K 640 ff21)] := hD
    refine lv_iinc (v := (nI (i + 1))) (lv' := [(1, .int (nI (i + 1))), (0, .ref a0)]) hx hb dX12_demands_92 hl (k := 0) rfl (nI_1 _) (by decide) rfl (fun ls hl => ?_)
    refine lv_goto (tgt := 71) hx hb dX12_demands_95 (by decide) ?_
    exact kk _ _ _ ⟨_, _, (by rw [y22]; exact z_narup hnzz18 rfl), hP, hD, hS, lv_sub hl [0, 1] rfl⟩
  obtain ⟨zz17, zz18, hnzz18, hP, hD, hS, hl⟩ := hI
  have hl : lv_has ls 3 [(1, .int 640), (0, .ref a0)] := hl
  refine lv_iload_n hx hb dX12_demands_71 rfl (lv_at hl 0 rfl) ?_
  refine lv_sipush (v := 640) hx hb dX12_demands_72 (by decide) ?_
  refine lv_icmp_ge (tgt := 98) hx hb dX12_demands_75 (by decide) (fun _ => ?_) (fun c => absurd (by decide) c)
  refine lv_iconst (v := 1) hx hb dX12_demands_98 (by decide) ?_
  refine lv_istore_n (lv' := [(1, .int 1), (0, .ref a0)]) hx hb dX12_demands_99 rfl hl (by decide) rfl (fun ls hl => ?_)
  refine lv_iload_n hx hb dX12_demands_100 rfl (lv_at hl 0 rfl) ?_
  refine lv_if_eq (tgt := 158) hx hb dX12_demands_101 (by decide) (fun c => absurd c (by decide)) (fun _ => ?_)
  refine lv_iconst (v := 0) hx hb dX12_demands_104 (by decide) ?_
  refine lv_istore_n (lv' := [(1, .int 0), (0, .ref a0)]) hx hb dX12_demands_105 rfl hl (by decide) rfl (fun ls hl => ?_)
  refine lv_iconst (v := 0) hx hb dX12_demands_106 (by decide) ?_
  refine lv_istore_n (lv' := [(2, .int 0), (1, .int 0), (0, .ref a0)]) hx hb dX12_demands_107 rfl hl (by decide) rfl (fun ls hl => ?_)
  refine lv_iload_n hx hb dX12_demands_108 rfl (lv_at hl 0 rfl) ?_
  refine lv_bipush (v := 8) hx hb dX12_demands_109 (by decide) ?_
  refine lv_icmp_ge (tgt := 128) hx hb dX12_demands_111 (by decide) (fun c => absurd c (by decide)) (fun _ => ?_)
  refine lv_iload_n hx hb dX12_demands_114 rfl (lv_at hl 1 rfl) ?_
  refine lv_aload_n hx hb dX12_demands_115 rfl (lv_at hl 2 rfl) ?_
  refine lv_iload_n hx hb dX12_demands_116 rfl (lv_at hl 0 rfl) ?_
  refine z_calli [(a0, zO 10 83 g0), (a2, zI K 16 f2), (a1, zI K 8 ff15)] [(a3, zZ K 640 zz17), (a4, zZ K 640 zz18)] [0, 2, 1] [3, 4] hP hD hS hA rfl rfl (by decide) (by decide) (by decide +kernel) 0 0 rfl rfl (fun hPc hDc hF => z_runV (As := [.int 0]) (rest := [.int 0]) ⟨hx, hb, hml, hown, hg⟩ (cX12_looks_1 l K H.size a0 a2 a1 g0 f2 ff15 e1 e2 e0 (zu_of y16 (zu_ne (by decide) (zu_of y14 (zu_ne (by decide) (zu_of y12 (zu_ne (by decide) (zu_of y10 (zu_ne (by decide) (zu_of y8 (zu_ne (by decide) (zu_of y6 (zu_ne (by decide) (zu_of y4 (zu_ne (by decide) (zu_of y2 zu_eq)))))))))))))))) kV_RX12_279 hd_X12_looks rfl rfl ⟨(Nat.le_of_ble_eq_true rfl), (Nat.le_of_ble_eq_true rfl)⟩ hK hS hZ hPc hDc hF 0 rfl rfl rfl hl.1 rfl (Nat.le_of_ble_eq_true rfl) dX12_demands_117 ⟨(Nat.le_of_ble_eq_true rfl), (Nat.le_of_ble_eq_true rfl)⟩) (fun r25 u23 H locs w24 hP hD hS => ?_)
  subst w24
  have hP : va_P K.1 classes [(a3, zZ K 640 zz17), (a4, zZ K 640 zz18), (a0, zO 10 83 g0), (a2, zI K 16 f2), (a1, zI K 8 ff15)] H := hP
  have hD : va_D A [(a3, zZ K 640 zz17), (a4, zZ K 640 zz18), (a0, zO 10 83 g0), (a2, zI K 16 f2), (a1, zI K 8 ff15)] := hD
  refine lv_ior hx hb dX12_demands_120 ?_
  refine z_cst (v := 0) (by decide +kernel) ?_
  refine lv_istore_n (lv' := [(1, .int 0), (2, .int 0), (0, .ref a0)]) hx hb dX12_demands_121 rfl hl (by decide) rfl (fun ls hl => ?_)
  refine lv_iinc (v := 1) (lv' := [(2, .int 1), (1, .int 0), (0, .ref a0)]) hx hb dX12_demands_122 hl (k := 1) rfl (by decide +kernel) (by decide) rfl (fun ls hl => ?_)
  refine lv_goto (tgt := 108) hx hb dX12_demands_125 (by decide) ?_
  refine lv_iload_n hx hb dX12_demands_108 rfl (lv_at hl 0 rfl) ?_
  refine lv_bipush (v := 8) hx hb dX12_demands_109 (by decide) ?_
  refine lv_icmp_ge (tgt := 128) hx hb dX12_demands_111 (by decide) (fun c => absurd c (by decide)) (fun _ => ?_)
  refine lv_iload_n hx hb dX12_demands_114 rfl (lv_at hl 1 rfl) ?_
  refine lv_aload_n hx hb dX12_demands_115 rfl (lv_at hl 2 rfl) ?_
  refine lv_iload_n hx hb dX12_demands_116 rfl (lv_at hl 0 rfl) ?_
  refine z_calli [(a0, zO 10 83 g0), (a2, zI K 16 f2), (a1, zI K 8 ff15)] [(a3, zZ K 640 zz17), (a4, zZ K 640 zz18)] [2, 3, 4] [0, 1] hP hD hS hA rfl rfl (by decide) (by decide) (by decide +kernel) 0 0 rfl rfl (fun hPc hDc hF => z_runV (As := [.int 1]) (rest := [.int 0]) ⟨hx, hb, hml, hown, hg⟩ (cX12_looks_2 l K H.size a0 a2 a1 g0 f2 ff15 e1 e3 e0 (zu_of y16 (zu_ne (by decide) (zu_of y14 (zu_ne (by decide) (zu_of y12 (zu_ne (by decide) (zu_of y10 (zu_ne (by decide) (zu_of y8 (zu_ne (by decide) (zu_of y6 (zu_ne (by decide) (zu_of y4 zu_eq)))))))))))))) kV_RX12_279 hd_X12_looks rfl rfl ⟨(Nat.le_of_ble_eq_true rfl), (Nat.le_of_ble_eq_true rfl)⟩ hK hS hZ hPc hDc hF 0 rfl rfl rfl hl.1 rfl (Nat.le_of_ble_eq_true rfl) dX12_demands_117 ⟨(Nat.le_of_ble_eq_true rfl), (Nat.le_of_ble_eq_true rfl)⟩) (fun r28 u26 H locs w27 hP hD hS => ?_)
  subst w27
  have hP : va_P K.1 classes [(a3, zZ K 640 zz17), (a4, zZ K 640 zz18), (a0, zO 10 83 g0), (a2, zI K 16 f2), (a1, zI K 8 ff15)] H := hP
  have hD : va_D A [(a3, zZ K 640 zz17), (a4, zZ K 640 zz18), (a0, zO 10 83 g0), (a2, zI K 16 f2), (a1, zI K 8 ff15)] := hD
  refine lv_ior hx hb dX12_demands_120 ?_
  refine z_cst (v := 0) (by decide +kernel) ?_
  refine lv_istore_n (lv' := [(1, .int 0), (2, .int 1), (0, .ref a0)]) hx hb dX12_demands_121 rfl hl (by decide) rfl (fun ls hl => ?_)
  refine lv_iinc (v := 2) (lv' := [(2, .int 2), (1, .int 0), (0, .ref a0)]) hx hb dX12_demands_122 hl (k := 1) rfl (by decide +kernel) (by decide) rfl (fun ls hl => ?_)
  refine lv_goto (tgt := 108) hx hb dX12_demands_125 (by decide) ?_
  refine lv_iload_n hx hb dX12_demands_108 rfl (lv_at hl 0 rfl) ?_
  refine lv_bipush (v := 8) hx hb dX12_demands_109 (by decide) ?_
  refine lv_icmp_ge (tgt := 128) hx hb dX12_demands_111 (by decide) (fun c => absurd c (by decide)) (fun _ => ?_)
  refine lv_iload_n hx hb dX12_demands_114 rfl (lv_at hl 1 rfl) ?_
  refine lv_aload_n hx hb dX12_demands_115 rfl (lv_at hl 2 rfl) ?_
  refine lv_iload_n hx hb dX12_demands_116 rfl (lv_at hl 0 rfl) ?_
  refine z_calli [(a0, zO 10 83 g0), (a2, zI K 16 f2), (a1, zI K 8 ff15)] [(a3, zZ K 640 zz17), (a4, zZ K 640 zz18)] [2, 3, 4] [0, 1] hP hD hS hA rfl rfl (by decide) (by decide) (by decide +kernel) 0 0 rfl rfl (fun hPc hDc hF => z_runV (As := [.int 2]) (rest := [.int 0]) ⟨hx, hb, hml, hown, hg⟩ (cX12_looks_3 l K H.size a0 a2 a1 g0 f2 ff15 e1 e4 e0 (zu_of y16 (zu_ne (by decide) (zu_of y14 (zu_ne (by decide) (zu_of y12 (zu_ne (by decide) (zu_of y10 (zu_ne (by decide) (zu_of y8 (zu_ne (by decide) (zu_of y6 zu_eq)))))))))))) kV_RX12_279 hd_X12_looks rfl rfl ⟨(Nat.le_of_ble_eq_true rfl), (Nat.le_of_ble_eq_true rfl)⟩ hK hS hZ hPc hDc hF 0 rfl rfl rfl hl.1 rfl (Nat.le_of_ble_eq_true rfl) dX12_demands_117 ⟨(Nat.le_of_ble_eq_true rfl), (Nat.le_of_ble_eq_true rfl)⟩) (fun r31 u29 H locs w30 hP hD hS => ?_)
  subst w30
  have hP : va_P K.1 classes [(a3, zZ K 640 zz17), (a4, zZ K 640 zz18), (a0, zO 10 83 g0), (a2, zI K 16 f2), (a1, zI K 8 ff15)] H := hP
  have hD : va_D A [(a3, zZ K 640 zz17), (a4, zZ K 640 zz18), (a0, zO 10 83 g0), (a2, zI K 16 f2), (a1, zI K 8 ff15)] := hD
  refine lv_ior hx hb dX12_demands_120 ?_
  refine z_cst (v := 0) (by decide +kernel) ?_
  refine lv_istore_n (lv' := [(1, .int 0), (2, .int 2), (0, .ref a0)]) hx hb dX12_demands_121 rfl hl (by decide) rfl (fun ls hl => ?_)
  refine lv_iinc (v := 3) (lv' := [(2, .int 3), (1, .int 0), (0, .ref a0)]) hx hb dX12_demands_122 hl (k := 1) rfl (by decide +kernel) (by decide) rfl (fun ls hl => ?_)
  refine lv_goto (tgt := 108) hx hb dX12_demands_125 (by decide) ?_
  refine lv_iload_n hx hb dX12_demands_108 rfl (lv_at hl 0 rfl) ?_
  refine lv_bipush (v := 8) hx hb dX12_demands_109 (by decide) ?_
  refine lv_icmp_ge (tgt := 128) hx hb dX12_demands_111 (by decide) (fun c => absurd c (by decide)) (fun _ => ?_)
  refine lv_iload_n hx hb dX12_demands_114 rfl (lv_at hl 1 rfl) ?_
  refine lv_aload_n hx hb dX12_demands_115 rfl (lv_at hl 2 rfl) ?_
  refine lv_iload_n hx hb dX12_demands_116 rfl (lv_at hl 0 rfl) ?_
  refine z_calli [(a0, zO 10 83 g0), (a2, zI K 16 f2), (a1, zI K 8 ff15)] [(a3, zZ K 640 zz17), (a4, zZ K 640 zz18)] [2, 3, 4] [0, 1] hP hD hS hA rfl rfl (by decide) (by decide) (by decide +kernel) 0 0 rfl rfl (fun hPc hDc hF => z_runV (As := [.int 3]) (rest := [.int 0]) ⟨hx, hb, hml, hown, hg⟩ (cX12_looks_4 l K H.size a0 a2 a1 g0 f2 ff15 e1 e5 e0 (zu_of y16 (zu_ne (by decide) (zu_of y14 (zu_ne (by decide) (zu_of y12 (zu_ne (by decide) (zu_of y10 (zu_ne (by decide) (zu_of y8 zu_eq)))))))))) kV_RX12_279 hd_X12_looks rfl rfl ⟨(Nat.le_of_ble_eq_true rfl), (Nat.le_of_ble_eq_true rfl)⟩ hK hS hZ hPc hDc hF 0 rfl rfl rfl hl.1 rfl (Nat.le_of_ble_eq_true rfl) dX12_demands_117 ⟨(Nat.le_of_ble_eq_true rfl), (Nat.le_of_ble_eq_true rfl)⟩) (fun r34 u32 H locs w33 hP hD hS => ?_)
  subst w33
  have hP : va_P K.1 classes [(a3, zZ K 640 zz17), (a4, zZ K 640 zz18), (a0, zO 10 83 g0), (a2, zI K 16 f2), (a1, zI K 8 ff15)] H := hP
  have hD : va_D A [(a3, zZ K 640 zz17), (a4, zZ K 640 zz18), (a0, zO 10 83 g0), (a2, zI K 16 f2), (a1, zI K 8 ff15)] := hD
  refine lv_ior hx hb dX12_demands_120 ?_
  refine z_cst (v := 0) (by decide +kernel) ?_
  refine lv_istore_n (lv' := [(1, .int 0), (2, .int 3), (0, .ref a0)]) hx hb dX12_demands_121 rfl hl (by decide) rfl (fun ls hl => ?_)
  refine lv_iinc (v := 4) (lv' := [(2, .int 4), (1, .int 0), (0, .ref a0)]) hx hb dX12_demands_122 hl (k := 1) rfl (by decide +kernel) (by decide) rfl (fun ls hl => ?_)
  refine lv_goto (tgt := 108) hx hb dX12_demands_125 (by decide) ?_
  refine lv_iload_n hx hb dX12_demands_108 rfl (lv_at hl 0 rfl) ?_
  refine lv_bipush (v := 8) hx hb dX12_demands_109 (by decide) ?_
  refine lv_icmp_ge (tgt := 128) hx hb dX12_demands_111 (by decide) (fun c => absurd c (by decide)) (fun _ => ?_)
  refine lv_iload_n hx hb dX12_demands_114 rfl (lv_at hl 1 rfl) ?_
  refine lv_aload_n hx hb dX12_demands_115 rfl (lv_at hl 2 rfl) ?_
  refine lv_iload_n hx hb dX12_demands_116 rfl (lv_at hl 0 rfl) ?_
  refine z_calli [(a0, zO 10 83 g0), (a2, zI K 16 f2), (a1, zI K 8 ff15)] [(a3, zZ K 640 zz17), (a4, zZ K 640 zz18)] [2, 3, 4] [0, 1] hP hD hS hA rfl rfl (by decide) (by decide) (by decide +kernel) 0 0 rfl rfl (fun hPc hDc hF => z_runV (As := [.int 4]) (rest := [.int 0]) ⟨hx, hb, hml, hown, hg⟩ (cX12_looks_5 l K H.size a0 a2 a1 g0 f2 ff15 e1 e6 e0 (zu_of y16 (zu_ne (by decide) (zu_of y14 (zu_ne (by decide) (zu_of y12 (zu_ne (by decide) (zu_of y10 zu_eq)))))))) kV_RX12_279 hd_X12_looks rfl rfl ⟨(Nat.le_of_ble_eq_true rfl), (Nat.le_of_ble_eq_true rfl)⟩ hK hS hZ hPc hDc hF 0 rfl rfl rfl hl.1 rfl (Nat.le_of_ble_eq_true rfl) dX12_demands_117 ⟨(Nat.le_of_ble_eq_true rfl), (Nat.le_of_ble_eq_true rfl)⟩) (fun r37 u35 H locs w36 hP hD hS => ?_)
  subst w36
  have hP : va_P K.1 classes [(a3, zZ K 640 zz17), (a4, zZ K 640 zz18), (a0, zO 10 83 g0), (a2, zI K 16 f2), (a1, zI K 8 ff15)] H := hP
  have hD : va_D A [(a3, zZ K 640 zz17), (a4, zZ K 640 zz18), (a0, zO 10 83 g0), (a2, zI K 16 f2), (a1, zI K 8 ff15)] := hD
  refine lv_ior hx hb dX12_demands_120 ?_
  refine z_cst (v := 0) (by decide +kernel) ?_
  refine lv_istore_n (lv' := [(1, .int 0), (2, .int 4), (0, .ref a0)]) hx hb dX12_demands_121 rfl hl (by decide) rfl (fun ls hl => ?_)
  refine lv_iinc (v := 5) (lv' := [(2, .int 5), (1, .int 0), (0, .ref a0)]) hx hb dX12_demands_122 hl (k := 1) rfl (by decide +kernel) (by decide) rfl (fun ls hl => ?_)
  refine lv_goto (tgt := 108) hx hb dX12_demands_125 (by decide) ?_
  refine lv_iload_n hx hb dX12_demands_108 rfl (lv_at hl 0 rfl) ?_
  refine lv_bipush (v := 8) hx hb dX12_demands_109 (by decide) ?_
  refine lv_icmp_ge (tgt := 128) hx hb dX12_demands_111 (by decide) (fun c => absurd c (by decide)) (fun _ => ?_)
  refine lv_iload_n hx hb dX12_demands_114 rfl (lv_at hl 1 rfl) ?_
  refine lv_aload_n hx hb dX12_demands_115 rfl (lv_at hl 2 rfl) ?_
  refine lv_iload_n hx hb dX12_demands_116 rfl (lv_at hl 0 rfl) ?_
  refine z_calli [(a0, zO 10 83 g0), (a2, zI K 16 f2), (a1, zI K 8 ff15)] [(a3, zZ K 640 zz17), (a4, zZ K 640 zz18)] [2, 3, 4] [0, 1] hP hD hS hA rfl rfl (by decide) (by decide) (by decide +kernel) 0 0 rfl rfl (fun hPc hDc hF => z_runV (As := [.int 5]) (rest := [.int 0]) ⟨hx, hb, hml, hown, hg⟩ (cX12_looks_6 l K H.size a0 a2 a1 g0 f2 ff15 e1 e7 e0 (zu_of y16 (zu_ne (by decide) (zu_of y14 (zu_ne (by decide) (zu_of y12 zu_eq)))))) kV_RX12_279 hd_X12_looks rfl rfl ⟨(Nat.le_of_ble_eq_true rfl), (Nat.le_of_ble_eq_true rfl)⟩ hK hS hZ hPc hDc hF 0 rfl rfl rfl hl.1 rfl (Nat.le_of_ble_eq_true rfl) dX12_demands_117 ⟨(Nat.le_of_ble_eq_true rfl), (Nat.le_of_ble_eq_true rfl)⟩) (fun r40 u38 H locs w39 hP hD hS => ?_)
  subst w39
  have hP : va_P K.1 classes [(a3, zZ K 640 zz17), (a4, zZ K 640 zz18), (a0, zO 10 83 g0), (a2, zI K 16 f2), (a1, zI K 8 ff15)] H := hP
  have hD : va_D A [(a3, zZ K 640 zz17), (a4, zZ K 640 zz18), (a0, zO 10 83 g0), (a2, zI K 16 f2), (a1, zI K 8 ff15)] := hD
  refine lv_ior hx hb dX12_demands_120 ?_
  refine z_cst (v := 0) (by decide +kernel) ?_
  refine lv_istore_n (lv' := [(1, .int 0), (2, .int 5), (0, .ref a0)]) hx hb dX12_demands_121 rfl hl (by decide) rfl (fun ls hl => ?_)
  refine lv_iinc (v := 6) (lv' := [(2, .int 6), (1, .int 0), (0, .ref a0)]) hx hb dX12_demands_122 hl (k := 1) rfl (by decide +kernel) (by decide) rfl (fun ls hl => ?_)
  refine lv_goto (tgt := 108) hx hb dX12_demands_125 (by decide) ?_
  refine lv_iload_n hx hb dX12_demands_108 rfl (lv_at hl 0 rfl) ?_
  refine lv_bipush (v := 8) hx hb dX12_demands_109 (by decide) ?_
  refine lv_icmp_ge (tgt := 128) hx hb dX12_demands_111 (by decide) (fun c => absurd c (by decide)) (fun _ => ?_)
  refine lv_iload_n hx hb dX12_demands_114 rfl (lv_at hl 1 rfl) ?_
  refine lv_aload_n hx hb dX12_demands_115 rfl (lv_at hl 2 rfl) ?_
  refine lv_iload_n hx hb dX12_demands_116 rfl (lv_at hl 0 rfl) ?_
  refine z_calli [(a0, zO 10 83 g0), (a2, zI K 16 f2), (a1, zI K 8 ff15)] [(a3, zZ K 640 zz17), (a4, zZ K 640 zz18)] [2, 3, 4] [0, 1] hP hD hS hA rfl rfl (by decide) (by decide) (by decide +kernel) 0 0 rfl rfl (fun hPc hDc hF => z_runV (As := [.int 6]) (rest := [.int 0]) ⟨hx, hb, hml, hown, hg⟩ (cX12_looks_7 l K H.size a0 a2 a1 g0 f2 ff15 e1 e8 e0 (zu_of y16 (zu_ne (by decide) (zu_of y14 zu_eq)))) kV_RX12_279 hd_X12_looks rfl rfl ⟨(Nat.le_of_ble_eq_true rfl), (Nat.le_of_ble_eq_true rfl)⟩ hK hS hZ hPc hDc hF 0 rfl rfl rfl hl.1 rfl (Nat.le_of_ble_eq_true rfl) dX12_demands_117 ⟨(Nat.le_of_ble_eq_true rfl), (Nat.le_of_ble_eq_true rfl)⟩) (fun r43 u41 H locs w42 hP hD hS => ?_)
  subst w42
  have hP : va_P K.1 classes [(a3, zZ K 640 zz17), (a4, zZ K 640 zz18), (a0, zO 10 83 g0), (a2, zI K 16 f2), (a1, zI K 8 ff15)] H := hP
  have hD : va_D A [(a3, zZ K 640 zz17), (a4, zZ K 640 zz18), (a0, zO 10 83 g0), (a2, zI K 16 f2), (a1, zI K 8 ff15)] := hD
  refine lv_ior hx hb dX12_demands_120 ?_
  refine z_cst (v := 0) (by decide +kernel) ?_
  refine lv_istore_n (lv' := [(1, .int 0), (2, .int 6), (0, .ref a0)]) hx hb dX12_demands_121 rfl hl (by decide) rfl (fun ls hl => ?_)
  refine lv_iinc (v := 7) (lv' := [(2, .int 7), (1, .int 0), (0, .ref a0)]) hx hb dX12_demands_122 hl (k := 1) rfl (by decide +kernel) (by decide) rfl (fun ls hl => ?_)
  refine lv_goto (tgt := 108) hx hb dX12_demands_125 (by decide) ?_
  refine lv_iload_n hx hb dX12_demands_108 rfl (lv_at hl 0 rfl) ?_
  refine lv_bipush (v := 8) hx hb dX12_demands_109 (by decide) ?_
  refine lv_icmp_ge (tgt := 128) hx hb dX12_demands_111 (by decide) (fun c => absurd c (by decide)) (fun _ => ?_)
  refine lv_iload_n hx hb dX12_demands_114 rfl (lv_at hl 1 rfl) ?_
  refine lv_aload_n hx hb dX12_demands_115 rfl (lv_at hl 2 rfl) ?_
  refine lv_iload_n hx hb dX12_demands_116 rfl (lv_at hl 0 rfl) ?_
  refine z_calli [(a0, zO 10 83 g0), (a2, zI K 16 f2), (a1, zI K 8 ff15)] [(a3, zZ K 640 zz17), (a4, zZ K 640 zz18)] [2, 3, 4] [0, 1] hP hD hS hA rfl rfl (by decide) (by decide) (by decide +kernel) 0 0 rfl rfl (fun hPc hDc hF => z_runV (As := [.int 7]) (rest := [.int 0]) ⟨hx, hb, hml, hown, hg⟩ (cX12_looks_8 l K H.size a0 a2 a1 g0 f2 ff15 e1 e9 e0 (zu_of y16 zu_eq)) kV_RX12_279 hd_X12_looks rfl rfl ⟨(Nat.le_of_ble_eq_true rfl), (Nat.le_of_ble_eq_true rfl)⟩ hK hS hZ hPc hDc hF 0 rfl rfl rfl hl.1 rfl (Nat.le_of_ble_eq_true rfl) dX12_demands_117 ⟨(Nat.le_of_ble_eq_true rfl), (Nat.le_of_ble_eq_true rfl)⟩) (fun r46 u44 H locs w45 hP hD hS => ?_)
  subst w45
  have hP : va_P K.1 classes [(a3, zZ K 640 zz17), (a4, zZ K 640 zz18), (a0, zO 10 83 g0), (a2, zI K 16 f2), (a1, zI K 8 ff15)] H := hP
  have hD : va_D A [(a3, zZ K 640 zz17), (a4, zZ K 640 zz18), (a0, zO 10 83 g0), (a2, zI K 16 f2), (a1, zI K 8 ff15)] := hD
  refine lv_ior hx hb dX12_demands_120 ?_
  refine z_cst (v := 0) (by decide +kernel) ?_
  refine lv_istore_n (lv' := [(1, .int 0), (2, .int 7), (0, .ref a0)]) hx hb dX12_demands_121 rfl hl (by decide) rfl (fun ls hl => ?_)
  refine lv_iinc (v := 8) (lv' := [(2, .int 8), (1, .int 0), (0, .ref a0)]) hx hb dX12_demands_122 hl (k := 1) rfl (by decide +kernel) (by decide) rfl (fun ls hl => ?_)
  refine lv_goto (tgt := 108) hx hb dX12_demands_125 (by decide) ?_
  refine lv_iload_n hx hb dX12_demands_108 rfl (lv_at hl 0 rfl) ?_
  refine lv_bipush (v := 8) hx hb dX12_demands_109 (by decide) ?_
  refine lv_icmp_ge (tgt := 128) hx hb dX12_demands_111 (by decide) (fun _ => ?_) (fun c => absurd (by decide) c)
  refine lv_iconst (v := 0) hx hb dX12_demands_128 (by decide) ?_
  refine lv_istore_n (lv' := [(2, .int 0), (1, .int 0), (0, .ref a0)]) hx hb dX12_demands_129 rfl hl (by decide) rfl (fun ls hl => ?_)
  refine z_loop (I := (fun i ls H locs => ∃ (zz47 : Nat → Int32), va_P K.1 classes [(a3, zZ K 640 zz47), (a4, zZ K 640 zz18), (a0, zO 10 83 g0), (a2, zI K 16 f2), (a1, zI K 8 ff15)] H ∧ va_D A [(a3, zZ K 640 zz47), (a4, zZ K 640 zz18), (a0, zO 10 83 g0), (a2, zI K 16 f2), (a1, zI K 8 ff15)] ∧ va_S A s.heap H locs ∧ lv_has ls 3 [(2, .int (nI i)), (1, .int 0), (0, .ref a0)])) 640 ⟨_, hP, hD, hS, hl⟩ (fun i hi ls H locs hI kk => ?_) (fun ls H locs hI => ?_)
  · obtain ⟨zz47, hP, hD, hS, hl⟩ := hI
    refine lv_iload_n hx hb dX12_demands_130 rfl (lv_at hl 0 rfl) ?_
    refine lv_sipush (v := 640) hx hb dX12_demands_131 (by decide) ?_
    refine lv_icmp_ge (tgt := 155) hx hb dX12_demands_134 (by decide) (fun c => absurd c ((by decide +kernel : ∀ j, j < 640 → ¬ ((640 : Int32) ≤ (nI j))) i hi)) (fun _ => ?_)
    refine lv_aload_n hx hb dX12_demands_137 rfl (lv_at hl 2 rfl) ?_
    refine z_get (v := .ref a3) hx hb hg hown hK hP i_X12 rfl 2 rfl 30 (by decide) mt1310 e10 dX12_demands_138 ?_
    refine lv_iload_n hx hb dX12_demands_141 rfl (lv_at hl 0 rfl) ?_
    refine lv_aload_n hx hb dX12_demands_142 rfl (lv_at hl 2 rfl) ?_
    refine z_get (v := .ref a4) hx hb hg hown hK hP i_X12 rfl 2 rfl 82 (by decide) mt1362 e11 dX12_demands_143 ?_
    refine lv_iload_n hx hb dX12_demands_146 rfl (lv_at hl 0 rfl) ?_
    refine z_zald (v := (zz18 i)) (j := i) hx hb hK hP 1 rfl rfl (Nat.lt_of_lt_of_le hi (Nat.le_of_ble_eq_true rfl)) (Nat.le_of_ble_eq_true rfl) rfl dX12_demands_147 ?_
    refine z_zast (j := i) hx hb hK hP hD hS 0 rfl rfl (Nat.lt_of_lt_of_le hi (Nat.le_of_ble_eq_true rfl)) (Nat.le_of_ble_eq_true rfl) (hnzz18 i) dX12_demands_148 (fun ff48 H locs y49 hP hD hS => ?_)
    have hP : va_P K.1 classes [(a3, zZ K 640 ff48), (a4, zZ K 640 zz18), (a0, zO 10 83 g0), (a2, zI K 16 f2), (a1, zI K 8 ff15)] H := hP
    have hD : va_D A [(a3, zZ K 640 ff48), (a4, zZ K 640 zz18), (a0, zO 10 83 g0), (a2, zI K 16 f2), (a1, zI K 8 ff15)] := hD
    refine lv_iinc (v := (nI (i + 1))) (lv' := [(2, .int (nI (i + 1))), (1, .int 0), (0, .ref a0)]) hx hb dX12_demands_149 hl (k := 0) rfl (nI_1 _) (by decide) rfl (fun ls hl => ?_)
    refine lv_goto (tgt := 130) hx hb dX12_demands_152 (by decide) ?_
    exact kk _ _ _ ⟨_, hP, hD, hS, lv_sub hl [0, 1, 2] rfl⟩
  obtain ⟨zz47, hP, hD, hS, hl⟩ := hI
  have hl : lv_has ls 3 [(2, .int 640), (1, .int 0), (0, .ref a0)] := hl
  refine lv_iload_n hx hb dX12_demands_130 rfl (lv_at hl 0 rfl) ?_
  refine lv_sipush (v := 640) hx hb dX12_demands_131 (by decide) ?_
  refine lv_icmp_ge (tgt := 155) hx hb dX12_demands_134 (by decide) (fun _ => ?_) (fun c => absurd (by decide) c)
  refine lv_goto (tgt := 100) hx hb dX12_demands_155 (by decide) ?_
  refine lv_iload_n hx hb dX12_demands_100 rfl (lv_at hl 1 rfl) ?_
  refine lv_if_eq (tgt := 158) hx hb dX12_demands_101 (by decide) (fun _ => ?_) (fun c => absurd (by decide) c)
  subst y16
  subst y14
  subst y12
  subst y10
  subst y8
  subst y6
  subst y4
  subst y2
  have hP9 : va_P K.1 classes [(a0, zO 10 83 g0), (a1, zI K 8 (va_up (va_up (va_up (va_up (va_up (va_up (va_up (va_up f1 0 0) 1 0) 2 0) 3 0) 4 0) 5 0) 6 0) 7 0)), (a2, zI K 16 f2)] H := hP.sub [2, 4, 3] rfl
  have hD9 : va_D A [(a0, zO 10 83 g0), (a1, zI K 8 (va_up (va_up (va_up (va_up (va_up (va_up (va_up (va_up f1 0 0) 1 0) 2 0) 3 0) 4 0) 5 0) 6 0) 7 0)), (a2, zI K 16 f2)] := hD.sub [2, 4, 3] (by decide) rfl
  exact z_vret hx hb hr (fun _ => 0) trivial hP9 hD9 hS (Nat.le_of_ble_eq_true rfl) (Nat.le_of_ble_eq_true rfl) hlocks dX12_demands_158
set_option maxHeartbeats 4000000 in
set_option maxRecDepth 100000 in
theorem cX12_needed_3 (l : Launch) (K : zK) (sz : Nat) (a0 : Nat) (a1 : Nat) (a2 : Nat) (a3 : Nat) (a4 : Nat) (g0 : Nat → Value) (f1 : Nat → Int32) (f2 : Nat → Int32) (f3 : Nat → Int32) (f4 : Nat → Int32) (j0 : Nat) (hj0 : j0 < 8) (x1 : Int32) (e0 : ¬ x1 < (0 : Int32)) (e1 : g0 31 = (.ref a1)) (e2 : g0 14 = (.ref a2)) (e3 : f2 0 = 0) (e4 : f2 1 = 0) (e5 : f2 2 = 0) (e6 : f2 3 = 0) (e7 : f2 4 = 0) (e8 : f2 5 = 0) (e9 : f2 6 = 0) (e10 : f2 7 = 0) (e11 : g0 30 = (.ref a3)) (e12 : g0 82 = (.ref a4)) (e13 : ∀ j : Nat, f4 j = 0) (e14 : ∀ j : Nat, f1 j = 0) : Met l yX12_needed (Cond.code yX12_needed cX12_needed 3 (some .int) :: WG) { frames := 3, cells := 0, slots := 0, locals := 76 } (zPre K [(a0, zO 10 83 g0), (a1, zI K 8 f1), (a2, zI K 16 f2), (a3, zZ K 640 f3), (a4, zZ K 640 f4)] sz [.ref a0, .int (nI j0), .int x1]) (va_Qi (fun (r : Int32) (_ : Nat → Nat) => r = (-1)) (zB K (va_A [(a0, zO 10 83 g0), (a1, zI K 8 f1), (a2, zI K 16 f2), (a3, zZ K 640 f3), (a4, zZ K 640 f4)] sz) (fun u : Nat → Nat => [(a0, zO 10 83 (va_up g0 81 (.int 0)))])) (va_A [(a0, zO 10 83 g0), (a1, zI K 8 f1), (a2, zI K 16 f2), (a3, zZ K 640 f3), (a4, zZ K 640 f4)] sz)) 0 0 (va_A [(a0, zO 10 83 g0), (a1, zI K 8 f1), (a2, zI K 16 f2), (a3, zZ K 640 f3), (a4, zZ K 640 f4)] sz) := by
  refine z_met (Qc := fun A => (va_Qi (fun (r : Int32) (_ : Nat → Nat) => r = (-1)) (zB K A (fun u : Nat → Nat => [(a0, zO 10 83 (va_up g0 81 (.int 0)))])) A)) (by decide +kernel) (Nat.le_of_ble_eq_true rfl) ?_
  intro p e s m args below meth c A ls H hx hb hr hg hown hlocks hml hin hK hP hD hA hS hZ hl
  have hown : s.vm.findClass RX12 = some m.cls := hown
  have hl : lv_has ls 3 [(0, .ref a0), (1, .int (nI j0)), (2, .int x1)] := hl
  refine lv_aload_n hx hb dX12_needed_0 rfl (lv_at hl 0 rfl) ?_
  refine lv_iload_n hx hb dX12_needed_1 rfl (lv_at hl 1 rfl) ?_
  refine z_calli [] [(a0, zO 10 83 g0), (a1, zI K 8 f1), (a2, zI K 16 f2), (a3, zZ K 640 f3), (a4, zZ K 640 f4)] [] [0, 1, 2, 3, 4] hP hD hS hA rfl rfl (by decide) (by decide) (by decide +kernel) 0 0 rfl rfl (fun hPc hDc hF => z_runS (As := [.int (nI j0)]) (rest := [.ref a0]) ⟨hx, hb, hml, hown, hg⟩ (cX12_isGlobal_2 l K H.size j0 hj0) kS_RX12_197 hd_X12_isGlobal rfl rfl ⟨(Nat.le_of_ble_eq_true rfl), (Nat.le_of_ble_eq_true rfl)⟩ hK hS hZ hPc hDc hF rfl hl.1 rfl (Nat.le_of_ble_eq_true rfl) dX12_needed_2 ⟨(Nat.le_of_ble_eq_true rfl), (Nat.le_of_ble_eq_true rfl)⟩) (fun r3 u1 H locs w2 hP hD hS => ?_)
  subst w2
  have hP : va_P K.1 classes [(a0, zO 10 83 g0), (a1, zI K 8 f1), (a2, zI K 16 f2), (a3, zZ K 640 f3), (a4, zZ K 640 f4)] H := hP
  have hD : va_D A [(a0, zO 10 83 g0), (a1, zI K 8 f1), (a2, zI K 16 f2), (a3, zZ K 640 f3), (a4, zZ K 640 f4)] := hD
  refine lv_if_eq (tgt := 16) hx hb dX12_needed_5 (by decide) (fun c => absurd c (by decide)) (fun _ => ?_)
  refine lv_iload_n hx hb dX12_needed_8 rfl (lv_at hl 2 rfl) ?_
  refine lv_if_lt (tgt := 16) hx hb dX12_needed_9 (by decide) (fun c => absurd c e0) (fun _ => ?_)
  refine lv_iconst (v := 0) hx hb dX12_needed_12 (by decide) ?_
  refine lv_goto (tgt := 17) hx hb dX12_needed_13 (by decide) ?_
  refine z_calli [(a0, zO 10 83 g0)] [(a1, zI K 8 f1), (a2, zI K 16 f2), (a3, zZ K 640 f3), (a4, zZ K 640 f4)] [0] [1, 2, 3, 4] hP hD hS hA rfl rfl (by decide) (by decide) (by decide +kernel) 0 0 rfl rfl (fun hPc hDc hF => z_runV (As := [.int 0]) (rest := []) ⟨hx, hb, hml, hown, hg⟩ (cX12_can_1 l K H.size a0 g0) kV_RX12_182 hd_X12_can rfl rfl ⟨(Nat.le_of_ble_eq_true rfl), (Nat.le_of_ble_eq_true rfl)⟩ hK hS hZ hPc hDc hF 0 rfl rfl rfl hl.1 rfl (Nat.le_of_ble_eq_true rfl) dX12_needed_17 ⟨(Nat.le_of_ble_eq_true rfl), (Nat.le_of_ble_eq_true rfl)⟩) (fun r6 u4 H locs w5 hP hD hS => ?_)
  subst w5
  have hP : va_P K.1 classes [(a1, zI K 8 f1), (a2, zI K 16 f2), (a3, zZ K 640 f3), (a4, zZ K 640 f4), (a0, zO 10 83 (va_up g0 81 (.int 0)))] H := hP
  have hD : va_D A [(a1, zI K 8 f1), (a2, zI K 16 f2), (a3, zZ K 640 f3), (a4, zZ K 640 f4), (a0, zO 10 83 (va_up g0 81 (.int 0)))] := hD
  refine lv_if_ne (tgt := 25) hx hb dX12_needed_20 (by decide) (fun _ => ?_) (fun c => absurd c (by decide))
  refine lv_aload_n hx hb dX12_needed_25 rfl (lv_at hl 0 rfl) ?_
  refine z_callv [(a0, zO 10 83 (va_up g0 81 (.int 0))), (a1, zI K 8 f1), (a2, zI K 16 f2), (a3, zZ K 640 f3), (a4, zZ K 640 f4)] [] [4, 0, 1, 2, 3] [] hP hD hS hA rfl rfl (by decide) (by decide) (by decide +kernel) 0 0 rfl rfl (fun hPc hDc hF => z_runV (As := []) (rest := []) ⟨hx, hb, hml, hown, hg⟩ (cX12_demands_1 l K H.size a0 a1 a2 a3 a4 (va_up g0 81 (.int 0)) f1 f2 f3 f4 (zu_ne (by decide) e1) (zu_ne (by decide) e2) e3 e4 e5 e6 e7 e8 e9 e10 (zu_ne (by decide) e11) (zu_ne (by decide) e12) e13) kV_RX12_282 hd_X12_demands rfl rfl ⟨(Nat.le_of_ble_eq_true rfl), (Nat.le_of_ble_eq_true rfl)⟩ hK hS hZ hPc hDc hF 0 rfl rfl rfl hl.1 rfl (Nat.le_of_ble_eq_true rfl) dX12_needed_26 ⟨(Nat.le_of_ble_eq_true rfl), (Nat.le_of_ble_eq_true rfl)⟩) (fun u7 H locs w8 hP hD hS => ?_)
  have hP : va_P K.1 classes [(a0, zO 10 83 (va_up g0 81 (.int 0))), (a1, zI K 8 (va_up (va_up (va_up (va_up (va_up (va_up (va_up (va_up f1 0 0) 1 0) 2 0) 3 0) 4 0) 5 0) 6 0) 7 0)), (a2, zI K 16 f2)] H := hP
  have hD : va_D A [(a0, zO 10 83 (va_up g0 81 (.int 0))), (a1, zI K 8 (va_up (va_up (va_up (va_up (va_up (va_up (va_up (va_up f1 0 0) 1 0) 2 0) 3 0) 4 0) 5 0) 6 0) 7 0)), (a2, zI K 16 f2)] := hD
  obtain ⟨ff10, y11⟩ : ∃ z, z = ((va_up (va_up (va_up (va_up (va_up (va_up (va_up (va_up f1 0 0) 1 0) 2 0) 3 0) 4 0) 5 0) 6 0) 7 0) : Nat → Int32) := ⟨_, rfl⟩
  rw [← y11] at hP hD
  refine lv_iload_n hx hb dX12_needed_29 rfl (lv_at hl 2 rfl) ?_
  refine lv_aload_n hx hb dX12_needed_30 rfl (lv_at hl 0 rfl) ?_
  refine z_get (v := .ref a1) hx hb hg hown hK hP i_X12 rfl 0 rfl 31 (by decide) mt1311 (zu_ne (by decide) e1) dX12_needed_31 ?_
  refine lv_iload_n hx hb dX12_needed_34 rfl (lv_at hl 1 rfl) ?_
  refine z_iald (v := 0) (j := j0) hx hb hK hP 1 rfl rfl (Nat.lt_of_lt_of_le hj0 (Nat.le_of_ble_eq_true rfl)) (Nat.le_of_ble_eq_true rfl) ((fun j => zu_of y11 ((zu_all (zu_all (zu_all (zu_all (zu_all (zu_all (zu_all (zu_all e14)))))))) j)) j0) dX12_needed_35 ?_
  refine lv_icmp_lt (tgt := 43) hx hb dX12_needed_36 (by decide) (fun c => absurd c e0) (fun _ => ?_)
  refine lv_iconst (v := (-1)) hx hb dX12_needed_39 (by decide) ?_
  refine lv_goto (tgt := 62) hx hb dX12_needed_40 (by decide) ?_
  subst y11
  have hP9 : va_P K.1 classes [(a0, zO 10 83 (va_up g0 81 (.int 0)))] H := hP.sub [0] rfl
  have hD9 : va_D A [(a0, zO 10 83 (va_up g0 81 (.int 0)))] := hD.sub [0] (by decide) rfl
  exact z_iret hx hb hr (fun _ => 0) rfl hP9 hD9 hS (Nat.le_of_ble_eq_true rfl) (Nat.le_of_ble_eq_true rfl) hlocks dX12_needed_62
set_option maxHeartbeats 4000000 in
set_option maxRecDepth 100000 in
theorem cX11_needed_4 (l : Launch) (hl9 : l.stackTraces = false) (K : zK) (sz : Nat) (a0 : Nat) (g0 : Nat → Value) (x0 : Int32) (x1 : Int32) (e0 : ¬ x0 < (0 : Int32)) (e1 : ¬ x0 < (8 : Int32)) : vx_Met l yX11_needed (Cond.code yX11_needed cX11_needed 3 (some .int) :: WG) { frames := 7, cells := 1, slots := 6, locals := 104 } (zPre K [(a0, zO 9 9 g0)] sz [.ref a0, .int x0, .int x1]) (va_Qv (fun _ : Unit => False) (fun _ _ => True) (va_A [(a0, zO 9 9 g0)] sz)) (zX (va_A [(a0, zO 9 9 g0)] sz) zIA) 1 6 (va_A [(a0, zO 9 9 g0)] sz) := by
  refine z_xmet (Qc := fun A => va_Qv (fun _ : Unit => False) (fun _ _ => True) A) (XC := fun A => zX A zIA) (by decide +kernel) (Nat.le_of_ble_eq_true rfl) ?_
  intro p e s m args below meth c A ls H hx hb hr hg hown hlocks hml hno hK hP hD hA hS hZ hl
  have hown : s.vm.findClass RX11 = some m.cls := hown
  have hl : lv_has ls 3 [(0, .ref a0), (1, .int x0), (2, .int x1)] := hl
  refine lv_aload_n hx hb dX11_needed_0 rfl (lv_at hl 0 rfl) ?_
  refine lv_iload_n hx hb dX11_needed_1 rfl (lv_at hl 1 rfl) ?_
  refine lv_bipush (v := 8) hx hb dX11_needed_2 (by decide) ?_
  refine z_xcall (EX := zIA) [(a0, zO 9 9 g0)] [0] hP hD hS hA rfl (by decide) 1 6 rfl rfl (fun hPc hDc hF => z_xrunV (As := [.int x0, .int 8]) (rest := []) ⟨hx, hb, hml, hown, hg⟩ (cX11_checkRange_6 l hl9 K H.size a0 g0 x0 e0 e1) kV_RX11_72 hd_X11_checkRange rfl rfl ⟨(Nat.le_of_ble_eq_true rfl), (Nat.le_of_ble_eq_true rfl)⟩ hK hS hZ hPc hDc hF 0 rfl rfl rfl hl.1 rfl (Nat.le_of_ble_eq_true rfl) dX11_needed_4 ⟨(Nat.le_of_ble_eq_true rfl), (Nat.le_of_ble_eq_true rfl)⟩) (fun ce q9 H locs hS hce hcv hcl => ?_)
  exact z_xout hno hlocks hS hce hcv hcl (Nat.le_of_ble_eq_true rfl) (Nat.le_of_ble_eq_true rfl)
set_option maxHeartbeats 4000000 in
set_option maxRecDepth 100000 in
theorem cL_needed_4 (l : Launch) (hl9 : l.stackTraces = false) (K : zK) (sz : Nat) (a0 : Nat) (a1 : Nat) (g0 : Nat → Value) (x0 : Int32) (x1 : Int32) (e0 : ¬ x0 < (0 : Int32)) (e1 : ¬ x0 < (8 : Int32)) : vx_Met l yL_needed (Cond.codeWith yL_needed cL_needed 5 (some .int) [(0, 10, 13, 18)] :: WG) { frames := 8, cells := 1, slots := 6, locals := 126 } (zPre K [(a0, zO 9 9 g0)] sz [.ref a0, .int x0, .int x1, .ref a1]) (va_Qi (fun (r : Int32) (_ : Nat → Nat) => r = 1) (zB K (va_A [(a0, zO 9 9 g0)] sz) (fun u : Nat → Nat => [])) (va_A [(a0, zO 9 9 g0)] sz)) (vx_X (fun _ : Unit => False) (fun _ _ _ => True) (va_A [(a0, zO 9 9 g0)] sz)) 1 6 (va_A [(a0, zO 9 9 g0)] sz) := by
  refine z_hmet (Qc := fun A => (va_Qi (fun (r : Int32) (_ : Nat → Nat) => r = 1) (zB K A (fun u : Nat → Nat => [])) A)) (XC := fun A => vx_X (fun _ : Unit => False) (fun _ _ _ => True) A) (by decide +kernel) (Nat.le_of_ble_eq_true rfl) ?_
  intro p e s m args below meth c A ls H hx hb hr hg hown hlocks hml hTab hK hP hD hA hS hZ hl
  have hown : s.vm.findClass RL = some m.cls := hown
  have hl : lv_has ls 5 [(0, .ref a0), (1, .int x0), (2, .int x1), (3, .ref a1)] := hl
  refine lv_aload_n hx hb dL_needed_0 rfl (lv_at hl 3 rfl) ?_
  refine lv_iconst (v := 0) hx hb dL_needed_1 (by decide) ?_
  refine lv_aload_n hx hb dL_needed_2 rfl (lv_at hl 0 rfl) ?_
  refine lv_iload_n hx hb dL_needed_3 rfl (lv_at hl 1 rfl) ?_
  refine lv_iload_n hx hb dL_needed_4 rfl (lv_at hl 2 rfl) ?_
  refine z_xcall (EX := zIA) [(a0, zO 9 9 g0)] [0] hP hD hS hA rfl (by decide) 1 6 rfl rfl (fun hPc hDc hF => z_xrunV (As := [.int x0, .int x1]) (rest := [.int 0, .ref a1]) ⟨hx, hb, hml, hown, hg⟩ (cX11_needed_4 l hl9 K H.size a0 g0 x0 x1 e0 e1) kV_RL_84 hd_X11_needed rfl rfl ⟨(Nat.le_of_ble_eq_true rfl), (Nat.le_of_ble_eq_true rfl)⟩ hK hS hZ hPc hDc hF 0 rfl rfl rfl hl.1 rfl (Nat.le_of_ble_eq_true rfl) dL_needed_5 ⟨(Nat.le_of_ble_eq_true rfl), (Nat.le_of_ble_eq_true rfl)⟩) (fun ce q9 H locs hS hce hcv hcl => ?_)
  refine vx_catch (own := RL) (name := zIA) (E := zIA) hown [] ⟨0, 10, 13, 18⟩ [] (by rw [hTab]; rfl) (fun z hz => nomatch hz) (by decide) (by decide) (hg _ mt491) (va_Nw.use rfl hZ.1.1.2.1) hce hcv hcl ?_
  have hP : va_P K.1 classes [] H := z_P0
  have hD : va_D A [] := z_D0
  refine lv_astore (lv' := [(4, .ref q9), (0, .ref a0), (1, .int x0), (2, .int x1), (3, .ref a1)]) hx hb dL_needed_13 hl (by decide) rfl (fun ls hl => ?_)
  refine lv_iconst (v := 1) hx hb dL_needed_15 (by decide) ?_
  have hP9 : va_P K.1 classes [] H := hP.sub [] rfl
  have hD9 : va_D A [] := hD.sub [] (by decide) rfl
  exact z_iret hx hb hr (fun _ => 0) rfl hP9 hD9 hS (Nat.le_of_ble_eq_true rfl) (Nat.le_of_ble_eq_true rfl) hlocks dL_needed_16
set_option maxHeartbeats 4000000 in
set_option maxRecDepth 100000 in
theorem cX12_needed_4 (l : Launch) (K : zK) (sz : Nat) (a0 : Nat) (g0 : Nat → Value) (x0 : Int32) (x1 : Int32) (e0 : ¬ x0 < (0 : Int32)) (e1 : (7 : Int32) < x0) : Met l yX12_needed (Cond.code yX12_needed cX12_needed 3 (some .int) :: WG) { frames := 2, cells := 0, slots := 0, locals := 42 } (zPre K [(a0, zO 10 83 g0)] sz [.ref a0, .int x0, .int x1]) (va_Qi (fun (r : Int32) (_ : Nat → Nat) => r = 0) (zB K (va_A [(a0, zO 10 83 g0)] sz) (fun u : Nat → Nat => [(a0, zO 10 83 (va_up g0 81 (.int 1)))])) (va_A [(a0, zO 10 83 g0)] sz)) 0 0 (va_A [(a0, zO 10 83 g0)] sz) := by
  refine z_met (Qc := fun A => (va_Qi (fun (r : Int32) (_ : Nat → Nat) => r = 0) (zB K A (fun u : Nat → Nat => [(a0, zO 10 83 (va_up g0 81 (.int 1)))])) A)) (by decide +kernel) (Nat.le_of_ble_eq_true rfl) ?_
  intro p e s m args below meth c A ls H hx hb hr hg hown hlocks hml hin hK hP hD hA hS hZ hl
  have hown : s.vm.findClass RX12 = some m.cls := hown
  have hl : lv_has ls 3 [(0, .ref a0), (1, .int x0), (2, .int x1)] := hl
  refine lv_aload_n hx hb dX12_needed_0 rfl (lv_at hl 0 rfl) ?_
  refine lv_iload_n hx hb dX12_needed_1 rfl (lv_at hl 1 rfl) ?_
  refine z_calli [] [(a0, zO 10 83 g0)] [] [0] hP hD hS hA rfl rfl (by decide) (by decide) (by decide +kernel) 0 0 rfl rfl (fun hPc hDc hF => z_runS (As := [.int x0]) (rest := [.ref a0]) ⟨hx, hb, hml, hown, hg⟩ (cX12_isGlobal_3 l K H.size x0 e0 e1) kS_RX12_197 hd_X12_isGlobal rfl rfl ⟨(Nat.le_of_ble_eq_true rfl), (Nat.le_of_ble_eq_true rfl)⟩ hK hS hZ hPc hDc hF rfl hl.1 rfl (Nat.le_of_ble_eq_true rfl) dX12_needed_2 ⟨(Nat.le_of_ble_eq_true rfl), (Nat.le_of_ble_eq_true rfl)⟩) (fun r3 u1 H locs w2 hP hD hS => ?_)
  subst w2
  have hP : va_P K.1 classes [(a0, zO 10 83 g0)] H := hP
  have hD : va_D A [(a0, zO 10 83 g0)] := hD
  refine lv_if_eq (tgt := 16) hx hb dX12_needed_5 (by decide) (fun _ => ?_) (fun c => absurd (by decide) c)
  refine lv_iconst (v := 1) hx hb dX12_needed_16 (by decide) ?_
  refine z_calli [(a0, zO 10 83 g0)] [] [0] [] hP hD hS hA rfl rfl (by decide) (by decide) (by decide +kernel) 0 0 rfl rfl (fun hPc hDc hF => z_runV (As := [.int 1]) (rest := []) ⟨hx, hb, hml, hown, hg⟩ (cX12_can_2 l K H.size a0 g0) kV_RX12_182 hd_X12_can rfl rfl ⟨(Nat.le_of_ble_eq_true rfl), (Nat.le_of_ble_eq_true rfl)⟩ hK hS hZ hPc hDc hF 0 rfl rfl rfl hl.1 rfl (Nat.le_of_ble_eq_true rfl) dX12_needed_17 ⟨(Nat.le_of_ble_eq_true rfl), (Nat.le_of_ble_eq_true rfl)⟩) (fun r6 u4 H locs w5 hP hD hS => ?_)
  subst w5
  have hP : va_P K.1 classes [(a0, zO 10 83 (va_up g0 81 (.int 1)))] H := hP
  have hD : va_D A [(a0, zO 10 83 (va_up g0 81 (.int 1)))] := hD
  refine lv_if_ne (tgt := 25) hx hb dX12_needed_20 (by decide) (fun c => absurd (by decide) c) (fun _ => ?_)
  refine lv_iconst (v := 0) hx hb dX12_needed_23 (by decide) ?_
  have hP9 : va_P K.1 classes [(a0, zO 10 83 (va_up g0 81 (.int 1)))] H := hP.sub [0] rfl
  have hD9 : va_D A [(a0, zO 10 83 (va_up g0 81 (.int 1)))] := hD.sub [0] (by decide) rfl
  exact z_iret hx hb hr (fun _ => 0) rfl hP9 hD9 hS (Nat.le_of_ble_eq_true rfl) (Nat.le_of_ble_eq_true rfl) hlocks dX12_needed_24
