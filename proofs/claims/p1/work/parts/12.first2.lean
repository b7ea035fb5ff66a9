/-! calls of the law's cases [0, 1, 2, 3, 4, 5, 6, 7, 8, 9, 10, 11, 12, 13, 14, 15, 16, 18] (printed by wip/p1/walk.py) -/
set_option maxHeartbeats 4000000 in
set_option maxRecDepth 100000 in
theorem cX6_addRule_1 (l : Launch) (K : zK) (sz : Nat) (a0 : Nat) (a1 : Nat) (a2 : Nat) (a3 : Nat) (g0 : Nat → Value) (f1 : Nat → Int32) (f2 : Nat → Int32) (f3 : Nat → Int32) (j0 : Nat) (hj0 : j0 < 8) (j1 : Nat) (hj1 : j1 < 8) (j2 : Nat) (hj2 : j2 < 8) (e0 : g0 8 = (.int 0)) (e1 : g0 5 = (.ref a1)) (e2 : g0 6 = (.ref a2)) (e3 : g0 7 = (.ref a3)) : Met l yX6_addRule (Cond.code yX6_addRule cX6_addRule 4 (some .int) :: WG) { frames := 0, cells := 0, slots := 0, locals := 0 } (zPre K [(a0, zO 5 9 g0), (a1, zI K 8 f1), (a2, zI K 8 f2), (a3, zI K 8 f3)] sz [.ref a0, .int (nI j0), .int (nI j1), .int (nI j2)]) (va_Qi (fun (r : Int32) (_ : Nat → Nat) => r = 1) (zB K (va_A [(a0, zO 5 9 g0), (a1, zI K 8 f1), (a2, zI K 8 f2), (a3, zI K 8 f3)] sz) (fun u : Nat → Nat => [(a0, zO 5 9 (va_up g0 8 (.int 1))), (a1, zI K 8 (va_up f1 0 (nI j0))), (a2, zI K 8 (va_up f2 0 (nI j1))), (a3, zI K 8 (va_up f3 0 (nI j2)))])) (va_A [(a0, zO 5 9 g0), (a1, zI K 8 f1), (a2, zI K 8 f2), (a3, zI K 8 f3)] sz)) 0 0 (va_A [(a0, zO 5 9 g0), (a1, zI K 8 f1), (a2, zI K 8 f2), (a3, zI K 8 f3)] sz) := by
  refine z_met (Qc := fun A => (va_Qi (fun (r : Int32) (_ : Nat → Nat) => r = 1) (zB K A (fun u : Nat → Nat => [(a0, zO 5 9 (va_up g0 8 (.int 1))), (a1, zI K 8 (va_up f1 0 (nI j0))), (a2, zI K 8 (va_up f2 0 (nI j1))), (a3, zI K 8 (va_up f3 0 (nI j2)))])) A)) (by decide +kernel) (Nat.le_of_ble_eq_true rfl) ?_
  intro p e s m args below meth c A ls H hx hb hr hg hown hlocks hml hin hK hP hD hA hS hZ hl
  have hown : s.vm.findClass RX6 = some m.cls := hown
  have hl : lv_has ls 4 [(0, .ref a0), (1, .int (nI j0)), (2, .int (nI j1)), (3, .int (nI j2))] := hl
  refine lv_aload_n hx hb dX6_addRule_0 rfl (lv_at hl 0 rfl) ?_
  refine z_get (v := .int 0) hx hb hg hown hK hP i_X6 rfl 0 rfl 8 (by decide) mt168 e0 dX6_addRule_1 ?_
  refine lv_bipush (v := 8) hx hb dX6_addRule_4 (by decide) ?_
  refine lv_icmp_ge (tgt := 49) hx hb dX6_addRule_6 (by decide) (fun c => absurd c (by decide)) (fun _ => ?_)
  refine lv_aload_n hx hb dX6_addRule_9 rfl (lv_at hl 0 rfl) ?_
  refine z_get (v := .ref a1) hx hb hg hown hK hP i_X6 rfl 0 rfl 5 (by decide) mt165 e1 dX6_addRule_10 ?_
  refine lv_aload_n hx hb dX6_addRule_13 rfl (lv_at hl 0 rfl) ?_
  refine z_get (v := .int 0) hx hb hg hown hK hP i_X6 rfl 0 rfl 8 (by decide) mt168 e0 dX6_addRule_14 ?_
  refine lv_iload_n hx hb dX6_addRule_17 rfl (lv_at hl 1 rfl) ?_
  refine z_iast (j := 0) hx hb hK hP hD hS 1 rfl rfl (Nat.le_of_ble_eq_true rfl) (Nat.le_of_ble_eq_true rfl) dX6_addRule_18 (fun ff1 H locs y2 hP hD hS => ?_)
  have hP : va_P K.1 classes [(a0, zO 5 9 g0), (a1, zI K 8 ff1), (a2, zI K 8 f2), (a3, zI K 8 f3)] H := hP
  have hD : va_D A [(a0, zO 5 9 g0), (a1, zI K 8 ff1), (a2, zI K 8 f2), (a3, zI K 8 f3)] := hD
  refine lv_aload_n hx hb dX6_addRule_19 rfl (lv_at hl 0 rfl) ?_
  refine z_get (v := .ref a2) hx hb hg hown hK hP i_X6 rfl 0 rfl 6 (by decide) mt166 e2 dX6_addRule_20 ?_
  refine lv_aload_n hx hb dX6_addRule_23 rfl (lv_at hl 0 rfl) ?_
  refine z_get (v := .int 0) hx hb hg hown hK hP i_X6 rfl 0 rfl 8 (by decide) mt168 e0 dX6_addRule_24 ?_
  refine lv_iload_n hx hb dX6_addRule_27 rfl (lv_at hl 2 rfl) ?_
  refine z_iast (j := 0) hx hb hK hP hD hS 2 rfl rfl (Nat.le_of_ble_eq_true rfl) (Nat.le_of_ble_eq_true rfl) dX6_addRule_28 (fun ff3 H locs y4 hP hD hS => ?_)
  have hP : va_P K.1 classes [(a0, zO 5 9 g0), (a1, zI K 8 ff1), (a2, zI K 8 ff3), (a3, zI K 8 f3)] H := hP
  have hD : va_D A [(a0, zO 5 9 g0), (a1, zI K 8 ff1), (a2, zI K 8 ff3), (a3, zI K 8 f3)] := hD
  refine lv_aload_n hx hb dX6_addRule_29 rfl (lv_at hl 0 rfl) ?_
  refine z_get (v := .ref a3) hx hb hg hown hK hP i_X6 rfl 0 rfl 7 (by decide) mt167 e3 dX6_addRule_30 ?_
  refine lv_aload_n hx hb dX6_addRule_33 rfl (lv_at hl 0 rfl) ?_
  refine z_get (v := .int 0) hx hb hg hown hK hP i_X6 rfl 0 rfl 8 (by decide) mt168 e0 dX6_addRule_34 ?_
  refine lv_iload_n hx hb dX6_addRule_37 rfl (lv_at hl 3 rfl) ?_
  refine z_iast (j := 0) hx hb hK hP hD hS 3 rfl rfl (Nat.le_of_ble_eq_true rfl) (Nat.le_of_ble_eq_true rfl) dX6_addRule_38 (fun ff5 H locs y6 hP hD hS => ?_)
  have hP : va_P K.1 classes [(a0, zO 5 9 g0), (a1, zI K 8 ff1), (a2, zI K 8 ff3), (a3, zI K 8 ff5)] H := hP
  have hD : va_D A [(a0, zO 5 9 g0), (a1, zI K 8 ff1), (a2, zI K 8 ff3), (a3, zI K 8 ff5)] := hD
  refine lv_aload_n hx hb dX6_addRule_39 rfl (lv_at hl 0 rfl) ?_
  refine lv_dup hx hb dX6_addRule_40 rfl ?_
  refine z_get (v := .int 0) hx hb hg hown hK hP i_X6 rfl 0 rfl 8 (by decide) mt168 e0 dX6_addRule_41 ?_
  refine lv_iconst (v := 1) hx hb dX6_addRule_44 (by decide) ?_
  refine lv_iadd hx hb dX6_addRule_45 ?_
  refine z_cst (v := 1) (by decide +kernel) ?_
  refine z_put hx hb hg hown hK hP hD hS i_X6 rfl tyX6_ok nmX6 0 rfl 8 (by decide) mt168 rfl rfl rfl dX6_addRule_46 (fun gg7 H locs y8 hP hD hS => ?_)
  have hP : va_P K.1 classes [(a0, zO 5 9 gg7), (a1, zI K 8 ff1), (a2, zI K 8 ff3), (a3, zI K 8 ff5)] H := hP
  have hD : va_D A [(a0, zO 5 9 gg7), (a1, zI K 8 ff1), (a2, zI K 8 ff3), (a3, zI K 8 ff5)] := hD
  refine lv_aload_n hx hb dX6_addRule_49 rfl (lv_at hl 0 rfl) ?_
  refine z_get (v := .int 1) hx hb hg hown hK hP i_X6 rfl 0 rfl 8 (by decide) mt168 (zu_of y8 zu_eq) dX6_addRule_50 ?_
  subst y8
  subst y6
  subst y4
  subst y2
  have hP9 : va_P K.1 classes [(a0, zO 5 9 (va_up g0 8 (.int 1))), (a1, zI K 8 (va_up f1 0 (nI j0))), (a2, zI K 8 (va_up f2 0 (nI j1))), (a3, zI K 8 (va_up f3 0 (nI j2)))] H := hP.sub [0, 1, 2, 3] rfl
  have hD9 : va_D A [(a0, zO 5 9 (va_up g0 8 (.int 1))), (a1, zI K 8 (va_up f1 0 (nI j0))), (a2, zI K 8 (va_up f2 0 (nI j1))), (a3, zI K 8 (va_up f3 0 (nI j2)))] := hD.sub [0, 1, 2, 3] (by decide) rfl
  exact z_iret hx hb hr (fun _ => 0) rfl hP9 hD9 hS (Nat.le_of_ble_eq_true rfl) (Nat.le_of_ble_eq_true rfl) hlocks dX6_addRule_53
set_option maxHeartbeats 4000000 in
set_option maxRecDepth 100000 in
theorem cX11_rule_4 (l : Launch) (K : zK) (sz : Nat) (a0 : Nat) (a1 : Nat) (a2 : Nat) (a3 : Nat) (a4 : Nat) (g0 : Nat → Value) (g1 : Nat → Value) (f2 : Nat → Int32) (f3 : Nat → Int32) (f4 : Nat → Int32) (j0 : Nat) (hj0 : j0 < 8) (j1 : Nat) (hj1 : j1 < 8) (j2 : Nat) (hj2 : j2 < 8) (e0 : g0 6 = (.ref a1)) (e1 : g1 8 = (.int 0)) (e2 : g1 5 = (.ref a2)) (e3 : g1 6 = (.ref a3)) (e4 : g1 7 = (.ref a4)) : Met l yX11_rule (Cond.code yX11_rule cX11_rule 4 (some .int) :: WG) { frames := 1, cells := 0, slots := 0, locals := 23 } (zPre K [(a0, zO 9 9 g0), (a1, zO 5 9 g1), (a2, zI K 8 f2), (a3, zI K 8 f3), (a4, zI K 8 f4)] sz [.ref a0, .int (nI j0), .int (nI j1), .int (nI j2)]) (va_Qi (fun (r : Int32) (_ : Nat → Nat) => r = 1) (zB K (va_A [(a0, zO 9 9 g0), (a1, zO 5 9 g1), (a2, zI K 8 f2), (a3, zI K 8 f3), (a4, zI K 8 f4)] sz) (fun u : Nat → Nat => [])) (va_A [(a0, zO 9 9 g0), (a1, zO 5 9 g1), (a2, zI K 8 f2), (a3, zI K 8 f3), (a4, zI K 8 f4)] sz)) 0 0 (va_A [(a0, zO 9 9 g0), (a1, zO 5 9 g1), (a2, zI K 8 f2), (a3, zI K 8 f3), (a4, zI K 8 f4)] sz) := by
  refine z_met (Qc := fun A => (va_Qi (fun (r : Int32) (_ : Nat → Nat) => r = 1) (zB K A (fun u : Nat → Nat => [])) A)) (by decide +kernel) (Nat.le_of_ble_eq_true rfl) ?_
  intro p e s m args below meth c A ls H hx hb hr hg hown hlocks hml hin hK hP hD hA hS hZ hl
  have hown : s.vm.findClass RX11 = some m.cls := hown
  have hl : lv_has ls 4 [(0, .ref a0), (1, .int (nI j0)), (2, .int (nI j1)), (3, .int (nI j2))] := hl
  refine lv_aload_n hx hb dX11_rule_0 rfl (lv_at hl 0 rfl) ?_
  refine lv_iload_n hx hb dX11_rule_1 rfl (lv_at hl 1 rfl) ?_
  refine lv_bipush (v := 8) hx hb dX11_rule_2 (by decide) ?_
  refine z_callv [(a0, zO 9 9 g0)] [(a1, zO 5 9 g1), (a2, zI K 8 f2), (a3, zI K 8 f3), (a4, zI K 8 f4)] [0] [1, 2, 3, 4] hP hD hS hA rfl rfl (by decide) (by decide) (by decide +kernel) 0 0 rfl rfl (fun hPc hDc hF => z_runV (As := [.int (nI j0), .int 8]) (rest := []) ⟨hx, hb, hml, hown, hg⟩ (cX11_checkRange_5 l K H.size a0 g0 j0 hj0) kV_RX11_72 hd_X11_checkRange rfl rfl ⟨(Nat.le_of_ble_eq_true rfl), (Nat.le_of_ble_eq_true rfl)⟩ hK hS hZ hPc hDc hF 0 rfl rfl rfl hl.1 rfl (Nat.le_of_ble_eq_true rfl) dX11_rule_4 ⟨(Nat.le_of_ble_eq_true rfl), (Nat.le_of_ble_eq_true rfl)⟩) (fun u1 H locs w2 hP hD hS => ?_)
  have hP : va_P K.1 classes [(a1, zO 5 9 g1), (a2, zI K 8 f2), (a3, zI K 8 f3), (a4, zI K 8 f4), (a0, zO 9 9 g0)] H := hP
  have hD : va_D A [(a1, zO 5 9 g1), (a2, zI K 8 f2), (a3, zI K 8 f3), (a4, zI K 8 f4), (a0, zO 9 9 g0)] := hD
  refine lv_aload_n hx hb dX11_rule_7 rfl (lv_at hl 0 rfl) ?_
  refine lv_iload_n hx hb dX11_rule_8 rfl (lv_at hl 2 rfl) ?_
  refine lv_bipush (v := 8) hx hb dX11_rule_9 (by decide) ?_
  refine z_callv [(a0, zO 9 9 g0)] [(a1, zO 5 9 g1), (a2, zI K 8 f2), (a3, zI K 8 f3), (a4, zI K 8 f4)] [4] [0, 1, 2, 3] hP hD hS hA rfl rfl (by decide) (by decide) (by decide +kernel) 0 0 rfl rfl (fun hPc hDc hF => z_runV (As := [.int (nI j1), .int 8]) (rest := []) ⟨hx, hb, hml, hown, hg⟩ (cX11_checkRange_5 l K H.size a0 g0 j1 hj1) kV_RX11_72 hd_X11_checkRange rfl rfl ⟨(Nat.le_of_ble_eq_true rfl), (Nat.le_of_ble_eq_true rfl)⟩ hK hS hZ hPc hDc hF 0 rfl rfl rfl hl.1 rfl (Nat.le_of_ble_eq_true rfl) dX11_rule_11 ⟨(Nat.le_of_ble_eq_true rfl), (Nat.le_of_ble_eq_true rfl)⟩) (fun u4 H locs w5 hP hD hS => ?_)
  have hP : va_P K.1 classes [(a1, zO 5 9 g1), (a2, zI K 8 f2), (a3, zI K 8 f3), (a4, zI K 8 f4), (a0, zO 9 9 g0)] H := hP
  have hD : va_D A [(a1, zO 5 9 g1), (a2, zI K 8 f2), (a3, zI K 8 f3), (a4, zI K 8 f4), (a0, zO 9 9 g0)] := hD
  refine lv_aload_n hx hb dX11_rule_14 rfl (lv_at hl 0 rfl) ?_
  refine lv_iload_n hx hb dX11_rule_15 rfl (lv_at hl 3 rfl) ?_
  refine lv_bipush (v := 8) hx hb dX11_rule_16 (by decide) ?_
  refine z_callv [(a0, zO 9 9 g0)] [(a1, zO 5 9 g1), (a2, zI K 8 f2), (a3, zI K 8 f3), (a4, zI K 8 f4)] [4] [0, 1, 2, 3] hP hD hS hA rfl rfl (by decide) (by decide) (by decide +kernel) 0 0 rfl rfl (fun hPc hDc hF => z_runV (As := [.int (nI j2), .int 8]) (rest := []) ⟨hx, hb, hml, hown, hg⟩ (cX11_checkRange_5 l K H.size a0 g0 j2 hj2) kV_RX11_72 hd_X11_checkRange rfl rfl ⟨(Nat.le_of_ble_eq_true rfl), (Nat.le_of_ble_eq_true rfl)⟩ hK hS hZ hPc hDc hF 0 rfl rfl rfl hl.1 rfl (Nat.le_of_ble_eq_true rfl) dX11_rule_18 ⟨(Nat.le_of_ble_eq_true rfl), (Nat.le_of_ble_eq_true rfl)⟩) (fun u7 H locs w8 hP hD hS => ?_)
  have hP : va_P K.1 classes [(a1, zO 5 9 g1), (a2, zI K 8 f2), (a3, zI K 8 f3), (a4, zI K 8 f4), (a0, zO 9 9 g0)] H := hP
  have hD : va_D A [(a1, zO 5 9 g1), (a2, zI K 8 f2), (a3, zI K 8 f3), (a4, zI K 8 f4), (a0, zO 9 9 g0)] := hD
  refine lv_aload_n hx hb dX11_rule_21 rfl (lv_at hl 0 rfl) ?_
  refine z_get (v := .ref a1) hx hb hg hown hK hP i_X11 rfl 4 rfl 6 (by decide) mt310 e0 dX11_rule_22 ?_
  refine z_calli [(a1, zO 5 9 g1)] [(a2, zI K 8 f2), (a3, zI K 8 f3), (a4, zI K 8 f4), (a0, zO 9 9 g0)] [0] [1, 2, 3, 4] hP hD hS hA rfl rfl (by decide) (by decide) (by decide +kernel) 0 0 rfl rfl (fun hPc hDc hF => z_runV (As := []) (rest := []) ⟨hx, hb, hml, hown, hg⟩ (cX6_hasAllRules_1 l K H.size a1 g1 e1) kV_RX11_107 hd_X6_hasAllRules rfl rfl ⟨(Nat.le_of_ble_eq_true rfl), (Nat.le_of_ble_eq_true rfl)⟩ hK hS hZ hPc hDc hF 0 rfl rfl rfl hl.1 rfl (Nat.le_of_ble_eq_true rfl) dX11_rule_25 ⟨(Nat.le_of_ble_eq_true rfl), (Nat.le_of_ble_eq_true rfl)⟩) (fun r12 u10 H locs w11 hP hD hS => ?_)
  subst w11
  have hP : va_P K.1 classes [(a2, zI K 8 f2), (a3, zI K 8 f3), (a4, zI K 8 f4), (a0, zO 9 9 g0), (a1, zO 5 9 g1)] H := hP
  have hD : va_D A [(a2, zI K 8 f2), (a3, zI K 8 f3), (a4, zI K 8 f4), (a0, zO 9 9 g0), (a1, zO 5 9 g1)] := hD
  refine lv_if_eq (tgt := 41) hx hb dX11_rule_28 (by decide) (fun _ => ?_) (fun c => absurd (by decide) c)
  refine lv_aload_n hx hb dX11_rule_41 rfl (lv_at hl 0 rfl) ?_
  refine z_get (v := .ref a1) hx hb hg hown hK hP i_X11 rfl 3 rfl 6 (by decide) mt310 e0 dX11_rule_42 ?_
  refine lv_iload_n hx hb dX11_rule_45 rfl (lv_at hl 1 rfl) ?_
  refine lv_iload_n hx hb dX11_rule_46 rfl (lv_at hl 2 rfl) ?_
  refine lv_iload_n hx hb dX11_rule_47 rfl (lv_at hl 3 rfl) ?_
  refine z_calli [(a1, zO 5 9 g1), (a2, zI K 8 f2), (a3, zI K 8 f3), (a4, zI K 8 f4)] [(a0, zO 9 9 g0)] [4, 0, 1, 2] [3] hP hD hS hA rfl rfl (by decide) (by decide) (by decide +kernel) 0 0 rfl rfl (fun hPc hDc hF => z_runV (As := [.int (nI j0), .int (nI j1), .int (nI j2)]) (rest := []) ⟨hx, hb, hml, hown, hg⟩ (cX6_addRule_1 l K H.size a1 a2 a3 a4 g1 f2 f3 f4 j0 hj0 j1 hj1 j2 hj2 e1 e2 e3 e4) kV_RX11_113 hd_X6_addRule rfl rfl ⟨(Nat.le_of_ble_eq_true rfl), (Nat.le_of_ble_eq_true rfl)⟩ hK hS hZ hPc hDc hF 0 rfl rfl rfl hl.1 rfl (Nat.le_of_ble_eq_true rfl) dX11_rule_48 ⟨(Nat.le_of_ble_eq_true rfl), (Nat.le_of_ble_eq_true rfl)⟩) (fun r15 u13 H locs w14 hP hD hS => ?_)
  subst w14
  have hP : va_P K.1 classes [(a0, zO 9 9 g0), (a1, zO 5 9 (va_up g1 8 (.int 1))), (a2, zI K 8 (va_up f2 0 (nI j0))), (a3, zI K 8 (va_up f3 0 (nI j1))), (a4, zI K 8 (va_up f4 0 (nI j2)))] H := hP
  have hD : va_D A [(a0, zO 9 9 g0), (a1, zO 5 9 (va_up g1 8 (.int 1))), (a2, zI K 8 (va_up f2 0 (nI j0))), (a3, zI K 8 (va_up f3 0 (nI j1))), (a4, zI K 8 (va_up f4 0 (nI j2)))] := hD
  have hP9 : va_P K.1 classes [] H := hP.sub [] rfl
  have hD9 : va_D A [] := hD.sub [] (by decide) rfl
  exact z_iret hx hb hr (fun _ => 0) rfl hP9 hD9 hS (Nat.le_of_ble_eq_true rfl) (Nat.le_of_ble_eq_true rfl) hlocks dX11_rule_51
set_option maxHeartbeats 4000000 in
set_option maxRecDepth 100000 in
theorem cL_rule_4 (l : Launch) (hl9 : l.stackTraces = false) (K : zK) (sz : Nat) (a0 : Nat) (a1 : Nat) (a2 : Nat) (a3 : Nat) (a4 : Nat) (a5 : Nat) (g0 : Nat → Value) (g2 : Nat → Value) (f3 : Nat → Int32) (f4 : Nat → Int32) (f5 : Nat → Int32) (f1 : Nat → Int64) (j0 : Nat) (hj0 : j0 < 8) (j1 : Nat) (hj1 : j1 < 8) (j2 : Nat) (hj2 : j2 < 8) (e0 : g0 6 = (.ref a2)) (e1 : g2 8 = (.int 0)) (e2 : g2 5 = (.ref a3)) (e3 : g2 6 = (.ref a4)) (e4 : g2 7 = (.ref a5)) : vx_Met l yL_rule (Cond.codeWith yL_rule cL_rule 6 (some .int) [(0, 12, 15, 18), (0, 12, 19, 13)] :: WG) { frames := 2, cells := 0, slots := 0, locals := 46 } (zPre K [(a0, zO 9 9 g0), (a2, zO 5 9 g2), (a3, zI K 8 f3), (a4, zI K 8 f4), (a5, zI K 8 f5), (a1, zJ K 1 f1)] sz [.ref a0, .int (nI j0), .int (nI j1), .int (nI j2), .ref a1]) (va_Qi (fun (r : Int32) (_ : Nat → Nat) => r = 0) (zB K (va_A [(a0, zO 9 9 g0), (a2, zO 5 9 g2), (a3, zI K 8 f3), (a4, zI K 8 f4), (a5, zI K 8 f5), (a1, zJ K 1 f1)] sz) (fun u : Nat → Nat => [(a1, zJ K 1 (va_up f1 0 1))])) (va_A [(a0, zO 9 9 g0), (a2, zO 5 9 g2), (a3, zI K 8 f3), (a4, zI K 8 f4), (a5, zI K 8 f5), (a1, zJ K 1 f1)] sz)) (vx_X (fun _ : Unit => False) (fun _ _ _ => True) (va_A [(a0, zO 9 9 g0), (a2, zO 5 9 g2), (a3, zI K 8 f3), (a4, zI K 8 f4), (a5, zI K 8 f5), (a1, zJ K 1 f1)] sz)) 0 0 (va_A [(a0, zO 9 9 g0), (a2, zO 5 9 g2), (a3, zI K 8 f3), (a4, zI K 8 f4), (a5, zI K 8 f5), (a1, zJ K 1 f1)] sz) := by
  refine z_hmet (Qc := fun A => (va_Qi (fun (r : Int32) (_ : Nat → Nat) => r = 0) (zB K A (fun u : Nat → Nat => [(a1, zJ K 1 (va_up f1 0 1))])) A)) (XC := fun A => vx_X (fun _ : Unit => False) (fun _ _ _ => True) A) (by decide +kernel) (Nat.le_of_ble_eq_true rfl) ?_
  intro p e s m args below meth c A ls H hx hb hr hg hown hlocks hml hTab hK hP hD hA hS hZ hl
  have hown : s.vm.findClass RL = some m.cls := hown
  have hl : lv_has ls 6 [(0, .ref a0), (1, .int (nI j0)), (2, .int (nI j1)), (3, .int (nI j2)), (4, .ref a1)] := hl
  refine lv_aload hx hb dL_rule_0 (lv_at hl 4 rfl) ?_
  refine lv_iconst (v := 0) hx hb dL_rule_2 (by decide) ?_
  refine lv_aload_n hx hb dL_rule_3 rfl (lv_at hl 0 rfl) ?_
  refine lv_iload_n hx hb dL_rule_4 rfl (lv_at hl 1 rfl) ?_
  refine lv_iload_n hx hb dL_rule_5 rfl (lv_at hl 2 rfl) ?_
  refine lv_iload_n hx hb dL_rule_6 rfl (lv_at hl 3 rfl) ?_
  refine z_calli [(a0, zO 9 9 g0), (a2, zO 5 9 g2), (a3, zI K 8 f3), (a4, zI K 8 f4), (a5, zI K 8 f5)] [(a1, zJ K 1 f1)] [0, 1, 2, 3, 4] [5] hP hD hS hA rfl rfl (by decide) (by decide) (by decide +kernel) 0 0 rfl rfl (fun hPc hDc hF => z_runV (As := [.int (nI j0), .int (nI j1), .int (nI j2)]) (rest := [.int 0, .ref a1]) ⟨hx, hb, hml, hown, hg⟩ (cX11_rule_4 l K H.size a0 a2 a3 a4 a5 g0 g2 f3 f4 f5 j0 hj0 j1 hj1 j2 hj2 e0 e1 e2 e3 e4) kV_RL_67 hd_X11_rule rfl rfl ⟨(Nat.le_of_ble_eq_true rfl), (Nat.le_of_ble_eq_true rfl)⟩ hK hS hZ hPc hDc hF 0 rfl rfl rfl hl.1 rfl (Nat.le_of_ble_eq_true rfl) dL_rule_7 ⟨(Nat.le_of_ble_eq_true rfl), (Nat.le_of_ble_eq_true rfl)⟩) (fun r3 u1 H locs w2 hP hD hS => ?_)
  subst w2
  have hP : va_P K.1 classes [(a1, zJ K 1 f1)] H := hP
  have hD : va_D A [(a1, zJ K 1 f1)] := hD
  refine lv_i2l hx hb dL_rule_10 rfl ?_
  refine z_cstl (v := 1) (by decide +kernel) ?_
  refine z_last (j := 0) hx hb hK hP hD hS 0 rfl rfl (Nat.le_of_ble_eq_true rfl) (Nat.le_of_ble_eq_true rfl) dL_rule_11 (fun ff4 H locs y5 hP hD hS => ?_)
  have hP : va_P K.1 classes [(a1, zJ K 1 ff4)] H := hP
  have hD : va_D A [(a1, zJ K 1 ff4)] := hD
  refine lv_goto (tgt := 23) hx hb dL_rule_12 (by decide) ?_
  refine lv_iconst (v := 0) hx hb dL_rule_23 (by decide) ?_
  subst y5
  have hP9 : va_P K.1 classes [(a1, zJ K 1 (va_up f1 0 1))] H := hP.sub [0] rfl
  have hD9 : va_D A [(a1, zJ K 1 (va_up f1 0 1))] := hD.sub [0] (by decide) rfl
  exact z_iret hx hb hr (fun _ => 0) rfl hP9 hD9 hS (Nat.le_of_ble_eq_true rfl) (Nat.le_of_ble_eq_true rfl) hlocks dL_rule_24
set_option maxHeartbeats 4000000 in
set_option maxRecDepth 100000 in
theorem cX12_rule_4 (l : Launch) (K : zK) (sz : Nat) (a0 : Nat) (a1 : Nat) (g0 : Nat → Value) (f1 : Nat → Int32) (j0 : Nat) (hj0 : j0 < 8) (j1 : Nat) (hj1 : j1 < 8) (j2 : Nat) (hj2 : j2 < 8) (e0 : g0 16 = (.int 0)) (e1 : g0 17 = (.ref a1)) : Met l yX12_rule (Cond.code yX12_rule cX12_rule 4 (some .int) :: WG) { frames := 2, cells := 0, slots := 0, locals := 42 } (zPre K [(a0, zO 10 83 g0), (a1, zI K 24 f1)] sz [.ref a0, .int (nI j0), .int (nI j1), .int (nI j2)]) (va_Qi (fun (r : Int32) (_ : Nat → Nat) => r = 1) (zB K (va_A [(a0, zO 10 83 g0), (a1, zI K 24 f1)] sz) (fun u : Nat → Nat => [(a0, zO 10 83 (va_up (va_up g0 81 (.int 0)) 16 (.int 1)))])) (va_A [(a0, zO 10 83 g0), (a1, zI K 24 f1)] sz)) 0 0 (va_A [(a0, zO 10 83 g0), (a1, zI K 24 f1)] sz) := by
  refine z_met (Qc := fun A => (va_Qi (fun (r : Int32) (_ : Nat → Nat) => r = 1) (zB K A (fun u : Nat → Nat => [(a0, zO 10 83 (va_up (va_up g0 81 (.int 0)) 16 (.int 1)))])) A)) (by decide +kernel) (Nat.le_of_ble_eq_true rfl) ?_
  intro p e s m args below meth c A ls H hx hb hr hg hown hlocks hml hin hK hP hD hA hS hZ hl
  have hown : s.vm.findClass RX12 = some m.cls := hown
  have hl : lv_has ls 4 [(0, .ref a0), (1, .int (nI j0)), (2, .int (nI j1)), (3, .int (nI j2))] := hl
  refine lv_aload_n hx hb dX12_rule_0 rfl (lv_at hl 0 rfl) ?_
  refine lv_iload_n hx hb dX12_rule_1 rfl (lv_at hl 1 rfl) ?_
  refine z_calli [] [(a0, zO 10 83 g0), (a1, zI K 24 f1)] [] [0, 1] hP hD hS hA rfl rfl (by decide) (by decide) (by decide +kernel) 0 0 rfl rfl (fun hPc hDc hF => z_runS (As := [.int (nI j0)]) (rest := [.ref a0]) ⟨hx, hb, hml, hown, hg⟩ (cX12_isGlobal_2 l K H.size j0 hj0) kS_RX12_197 hd_X12_isGlobal rfl rfl ⟨(Nat.le_of_ble_eq_true rfl), (Nat.le_of_ble_eq_true rfl)⟩ hK hS hZ hPc hDc hF rfl hl.1 rfl (Nat.le_of_ble_eq_true rfl) dX12_rule_2 ⟨(Nat.le_of_ble_eq_true rfl), (Nat.le_of_ble_eq_true rfl)⟩) (fun r3 u1 H locs w2 hP hD hS => ?_)
  subst w2
  have hP : va_P K.1 classes [(a0, zO 10 83 g0), (a1, zI K 24 f1)] H := hP
  have hD : va_D A [(a0, zO 10 83 g0), (a1, zI K 24 f1)] := hD
  refine lv_if_eq (tgt := 22) hx hb dX12_rule_5 (by decide) (fun c => absurd c (by decide)) (fun _ => ?_)
  refine lv_iload_n hx hb dX12_rule_8 rfl (lv_at hl 2 rfl) ?_
  refine z_calli [] [(a0, zO 10 83 g0), (a1, zI K 24 f1)] [] [0, 1] hP hD hS hA rfl rfl (by decide) (by decide) (by decide +kernel) 0 0 rfl rfl (fun hPc hDc hF => z_runS (As := [.int (nI j1)]) (rest := [.ref a0]) ⟨hx, hb, hml, hown, hg⟩ (cX12_isGlobal_2 l K H.size j1 hj1) kS_RX12_197 hd_X12_isGlobal rfl rfl ⟨(Nat.le_of_ble_eq_true rfl), (Nat.le_of_ble_eq_true rfl)⟩ hK hS hZ hPc hDc hF rfl hl.1 rfl (Nat.le_of_ble_eq_true rfl) dX12_rule_9 ⟨(Nat.le_of_ble_eq_true rfl), (Nat.le_of_ble_eq_true rfl)⟩) (fun r6 u4 H locs w5 hP hD hS => ?_)
  subst w5
  have hP : va_P K.1 classes [(a0, zO 10 83 g0), (a1, zI K 24 f1)] H := hP
  have hD : va_D A [(a0, zO 10 83 g0), (a1, zI K 24 f1)] := hD
  refine lv_if_eq (tgt := 22) hx hb dX12_rule_12 (by decide) (fun c => absurd c (by decide)) (fun _ => ?_)
  refine lv_iload_n hx hb dX12_rule_15 rfl (lv_at hl 3 rfl) ?_
  refine z_calli [] [(a0, zO 10 83 g0), (a1, zI K 24 f1)] [] [0, 1] hP hD hS hA rfl rfl (by decide) (by decide) (by decide +kernel) 0 0 rfl rfl (fun hPc hDc hF => z_runS (As := [.int (nI j2)]) (rest := [.ref a0]) ⟨hx, hb, hml, hown, hg⟩ (cX12_isGlobal_2 l K H.size j2 hj2) kS_RX12_197 hd_X12_isGlobal rfl rfl ⟨(Nat.le_of_ble_eq_true rfl), (Nat.le_of_ble_eq_true rfl)⟩ hK hS hZ hPc hDc hF rfl hl.1 rfl (Nat.le_of_ble_eq_true rfl) dX12_rule_16 ⟨(Nat.le_of_ble_eq_true rfl), (Nat.le_of_ble_eq_true rfl)⟩) (fun r9 u7 H locs w8 hP hD hS => ?_)
  subst w8
  have hP : va_P K.1 classes [(a0, zO 10 83 g0), (a1, zI K 24 f1)] H := hP
  have hD : va_D A [(a0, zO 10 83 g0), (a1, zI K 24 f1)] := hD
  refine lv_if_ne (tgt := 26) hx hb dX12_rule_19 (by decide) (fun _ => ?_) (fun c => absurd c (by decide))
  refine lv_aload_n hx hb dX12_rule_26 rfl (lv_at hl 0 rfl) ?_
  refine z_get (v := .int 0) hx hb hg hown hK hP i_X12 rfl 0 rfl 16 (by decide) mt1296 e0 dX12_rule_27 ?_
  refine lv_bipush (v := 8) hx hb dX12_rule_30 (by decide) ?_
  refine lv_icmp_ne (tgt := 39) hx hb dX12_rule_32 (by decide) (fun _ => ?_) (fun c => absurd c (by decide))
  refine lv_iconst (v := 0) hx hb dX12_rule_39 (by decide) ?_
  refine z_calli [(a0, zO 10 83 g0)] [(a1, zI K 24 f1)] [0] [1] hP hD hS hA rfl rfl (by decide) (by decide) (by decide +kernel) 0 0 rfl rfl (fun hPc hDc hF => z_runV (As := [.int 0]) (rest := []) ⟨hx, hb, hml, hown, hg⟩ (cX12_can_1 l K H.size a0 g0) kV_RX12_182 hd_X12_can rfl rfl ⟨(Nat.le_of_ble_eq_true rfl), (Nat.le_of_ble_eq_true rfl)⟩ hK hS hZ hPc hDc hF 0 rfl rfl rfl hl.1 rfl (Nat.le_of_ble_eq_true rfl) dX12_rule_40 ⟨(Nat.le_of_ble_eq_true rfl), (Nat.le_of_ble_eq_true rfl)⟩) (fun r12 u10 H locs w11 hP hD hS => ?_)
  subst w11
  have hP : va_P K.1 classes [(a1, zI K 24 f1), (a0, zO 10 83 (va_up g0 81 (.int 0)))] H := hP
  have hD : va_D A [(a1, zI K 24 f1), (a0, zO 10 83 (va_up g0 81 (.int 0)))] := hD
  refine lv_if_ne (tgt := 48) hx hb dX12_rule_43 (by decide) (fun _ => ?_) (fun c => absurd c (by decide))
  refine lv_aload_n hx hb dX12_rule_48 rfl (lv_at hl 0 rfl) ?_
  refine z_get (v := .ref a1) hx hb hg hown hK hP i_X12 rfl 1 rfl 17 (by decide) mt1297 (zu_ne (by decide) e1) dX12_rule_49 ?_
  refine lv_iconst (v := 3) hx hb dX12_rule_52 (by decide) ?_
  refine lv_aload_n hx hb dX12_rule_53 rfl (lv_at hl 0 rfl) ?_
  refine z_get (v := .int 0) hx hb hg hown hK hP i_X12 rfl 1 rfl 16 (by decide) mt1296 (zu_ne (by decide) e0) dX12_rule_54 ?_
  refine lv_imul hx hb dX12_rule_57 ?_
  refine z_cst (v := 0) (by decide +kernel) ?_
  refine lv_iload_n hx hb dX12_rule_58 rfl (lv_at hl 1 rfl) ?_
  refine z_iast (j := 0) hx hb hK hP hD hS 0 rfl rfl (Nat.le_of_ble_eq_true rfl) (Nat.le_of_ble_eq_true rfl) dX12_rule_59 (fun ff13 H locs y14 hP hD hS => ?_)
  have hP : va_P K.1 classes [(a1, zI K 24 ff13), (a0, zO 10 83 (va_up g0 81 (.int 0)))] H := hP
  have hD : va_D A [(a1, zI K 24 ff13), (a0, zO 10 83 (va_up g0 81 (.int 0)))] := hD
  refine lv_aload_n hx hb dX12_rule_60 rfl (lv_at hl 0 rfl) ?_
  refine z_get (v := .ref a1) hx hb hg hown hK hP i_X12 rfl 1 rfl 17 (by decide) mt1297 (zu_ne (by decide) e1) dX12_rule_61 ?_
  refine lv_iconst (v := 3) hx hb dX12_rule_64 (by decide) ?_
  refine lv_aload_n hx hb dX12_rule_65 rfl (lv_at hl 0 rfl) ?_
  refine z_get (v := .int 0) hx hb hg hown hK hP i_X12 rfl 1 rfl 16 (by decide) mt1296 (zu_ne (by decide) e0) dX12_rule_66 ?_
  refine lv_imul hx hb dX12_rule_69 ?_
  refine z_cst (v := 0) (by decide +kernel) ?_
  refine lv_iconst (v := 1) hx hb dX12_rule_70 (by decide) ?_
  refine lv_iadd hx hb dX12_rule_71 ?_
  refine z_cst (v := 1) (by decide +kernel) ?_
  refine lv_iload_n hx hb dX12_rule_72 rfl (lv_at hl 2 rfl) ?_
  refine z_iast (j := 1) hx hb hK hP hD hS 0 rfl rfl (Nat.le_of_ble_eq_true rfl) (Nat.le_of_ble_eq_true rfl) dX12_rule_73 (fun ff15 H locs y16 hP hD hS => ?_)
  have hP : va_P K.1 classes [(a1, zI K 24 ff15), (a0, zO 10 83 (va_up g0 81 (.int 0)))] H := hP
  have hD : va_D A [(a1, zI K 24 ff15), (a0, zO 10 83 (va_up g0 81 (.int 0)))] := hD
  refine lv_aload_n hx hb dX12_rule_74 rfl (lv_at hl 0 rfl) ?_
  refine z_get (v := .ref a1) hx hb hg hown hK hP i_X12 rfl 1 rfl 17 (by decide) mt1297 (zu_ne (by decide) e1) dX12_rule_75 ?_
  refine lv_iconst (v := 3) hx hb dX12_rule_78 (by decide) ?_
  refine lv_aload_n hx hb dX12_rule_79 rfl (lv_at hl 0 rfl) ?_
  refine z_get (v := .int 0) hx hb hg hown hK hP i_X12 rfl 1 rfl 16 (by decide) mt1296 (zu_ne (by decide) e0) dX12_rule_80 ?_
  refine lv_imul hx hb dX12_rule_83 ?_
  refine z_cst (v := 0) (by decide +kernel) ?_
  refine lv_iconst (v := 2) hx hb dX12_rule_84 (by decide) ?_
  refine lv_iadd hx hb dX12_rule_85 ?_
  refine z_cst (v := 2) (by decide +kernel) ?_
  refine lv_iload_n hx hb dX12_rule_86 rfl (lv_at hl 3 rfl) ?_
  refine z_iast (j := 2) hx hb hK hP hD hS 0 rfl rfl (Nat.le_of_ble_eq_true rfl) (Nat.le_of_ble_eq_true rfl) dX12_rule_87 (fun ff17 H locs y18 hP hD hS => ?_)
  have hP : va_P K.1 classes [(a1, zI K 24 ff17), (a0, zO 10 83 (va_up g0 81 (.int 0)))] H := hP
  have hD : va_D A [(a1, zI K 24 ff17), (a0, zO 10 83 (va_up g0 81 (.int 0)))] := hD
  refine lv_aload_n hx hb dX12_rule_88 rfl (lv_at hl 0 rfl) ?_
  refine lv_dup hx hb dX12_rule_89 rfl ?_
  refine z_get (v := .int 0) hx hb hg hown hK hP i_X12 rfl 1 rfl 16 (by decide) mt1296 (zu_ne (by decide) e0) dX12_rule_90 ?_
  refine lv_iconst (v := 1) hx hb dX12_rule_93 (by decide) ?_
  refine lv_iadd hx hb dX12_rule_94 ?_
  refine z_cst (v := 1) (by decide +kernel) ?_
  refine z_put hx hb hg hown hK hP hD hS i_X12 rfl tyX12_ok nmX12 1 rfl 16 (by decide) mt1296 rfl rfl rfl dX12_rule_95 (fun gg19 H locs y20 hP hD hS => ?_)
  have hP : va_P K.1 classes [(a1, zI K 24 ff17), (a0, zO 10 83 gg19)] H := hP
  have hD : va_D A [(a1, zI K 24 ff17), (a0, zO 10 83 gg19)] := hD
  refine lv_aload_n hx hb dX12_rule_98 rfl (lv_at hl 0 rfl) ?_
  refine z_get (v := .int 1) hx hb hg hown hK hP i_X12 rfl 1 rfl 16 (by decide) mt1296 (zu_of y20 zu_eq) dX12_rule_99 ?_
  subst y20
  subst y18
  subst y16
  subst y14
  have hP9 : va_P K.1 classes [(a0, zO 10 83 (va_up (va_up g0 81 (.int 0)) 16 (.int 1)))] H := hP.sub [1] rfl
  have hD9 : va_D A [(a0, zO 10 83 (va_up (va_up g0 81 (.int 0)) 16 (.int 1)))] := hD.sub [1] (by decide) rfl
  exact z_iret hx hb hr (fun _ => 0) rfl hP9 hD9 hS (Nat.le_of_ble_eq_true rfl) (Nat.le_of_ble_eq_true rfl) hlocks dX12_rule_102
set_option maxHeartbeats 4000000 in
set_option maxRecDepth 100000 in
theorem cX11_rule_5 (l : Launch) (hl9 : l.stackTraces = false) (K : zK) (sz : Nat) (a0 : Nat) (g0 : Nat → Value) (j0 : Nat) (hj0 : j0 < 8) (j1 : Nat) (hj1 : j1 < 8) (x2 : Int32) (e0 : ¬ x2 < (0 : Int32)) (e1 : ¬ x2 < (8 : Int32)) : vx_Met l yX11_rule (Cond.code yX11_rule cX11_rule 4 (some .int) :: WG) { frames := 7, cells := 1, slots := 6, locals := 104 } (zPre K [(a0, zO 9 9 g0)] sz [.ref a0, .int (nI j0), .int (nI j1), .int x2]) (va_Qv (fun _ : Unit => False) (fun _ _ => True) (va_A [(a0, zO 9 9 g0)] sz)) (zX (va_A [(a0, zO 9 9 g0)] sz) zIA) 1 6 (va_A [(a0, zO 9 9 g0)] sz) := by
  refine z_xmet (Qc := fun A => va_Qv (fun _ : Unit => False) (fun _ _ => True) A) (XC := fun A => zX A zIA) (by decide +kernel) (Nat.le_of_ble_eq_true rfl) ?_
  intro p e s m args below meth c A ls H hx hb hr hg hown hlocks hml hno hK hP hD hA hS hZ hl
  have hown : s.vm.findClass RX11 = some m.cls := hown
  have hl : lv_has ls 4 [(0, .ref a0), (1, .int (nI j0)), (2, .int (nI j1)), (3, .int x2)] := hl
  refine lv_aload_n hx hb dX11_rule_0 rfl (lv_at hl 0 rfl) ?_
  refine lv_iload_n hx hb dX11_rule_1 rfl (lv_at hl 1 rfl) ?_
  refine lv_bipush (v := 8) hx hb dX11_rule_2 (by decide) ?_
  refine z_callv [(a0, zO 9 9 g0)] [] [0] [] hP hD hS hA rfl rfl (by decide) (by decide) (by decide +kernel) 0 0 rfl rfl (fun hPc hDc hF => z_runV (As := [.int (nI j0), .int 8]) (rest := []) ⟨hx, hb, hml, hown, hg⟩ (cX11_checkRange_5 l K H.size a0 g0 j0 hj0) kV_RX11_72 hd_X11_checkRange rfl rfl ⟨(Nat.le_of_ble_eq_true rfl), (Nat.le_of_ble_eq_true rfl)⟩ hK hS hZ hPc hDc hF 0 rfl rfl rfl hl.1 rfl (Nat.le_of_ble_eq_true rfl) dX11_rule_4 ⟨(Nat.le_of_ble_eq_true rfl), (Nat.le_of_ble_eq_true rfl)⟩) (fun u1 H locs w2 hP hD hS => ?_)
  have hP : va_P K.1 classes [(a0, zO 9 9 g0)] H := hP
  have hD : va_D A [(a0, zO 9 9 g0)] := hD
  refine lv_aload_n hx hb dX11_rule_7 rfl (lv_at hl 0 rfl) ?_
  refine lv_iload_n hx hb dX11_rule_8 rfl (lv_at hl 2 rfl) ?_
  refine lv_bipush (v := 8) hx hb dX11_rule_9 (by decide) ?_
  refine z_callv [(a0, zO 9 9 g0)] [] [0] [] hP hD hS hA rfl rfl (by decide) (by decide) (by decide +kernel) 0 0 rfl rfl (fun hPc hDc hF => z_runV (As := [.int (nI j1), .int 8]) (rest := []) ⟨hx, hb, hml, hown, hg⟩ (cX11_checkRange_5 l K H.size a0 g0 j1 hj1) kV_RX11_72 hd_X11_checkRange rfl rfl ⟨(Nat.le_of_ble_eq_true rfl), (Nat.le_of_ble_eq_true rfl)⟩ hK hS hZ hPc hDc hF 0 rfl rfl rfl hl.1 rfl (Nat.le_of_ble_eq_true rfl) dX11_rule_11 ⟨(Nat.le_of_ble_eq_true rfl), (Nat.le_of_ble_eq_true rfl)⟩) (fun u4 H locs w5 hP hD hS => ?_)
  have hP : va_P K.1 classes [(a0, zO 9 9 g0)] H := hP
  have hD : va_D A [(a0, zO 9 9 g0)] := hD
  refine lv_aload_n hx hb dX11_rule_14 rfl (lv_at hl 0 rfl) ?_
  refine lv_iload_n hx hb dX11_rule_15 rfl (lv_at hl 3 rfl) ?_
  refine lv_bipush (v := 8) hx hb dX11_rule_16 (by decide) ?_
  refine z_xcall (EX := zIA) [(a0, zO 9 9 g0)] [0] hP hD hS hA rfl (by decide) 1 6 rfl rfl (fun hPc hDc hF => z_xrunV (As := [.int x2, .int 8]) (rest := []) ⟨hx, hb, hml, hown, hg⟩ (cX11_checkRange_6 l hl9 K H.size a0 g0 x2 e0 e1) kV_RX11_72 hd_X11_checkRange rfl rfl ⟨(Nat.le_of_ble_eq_true rfl), (Nat.le_of_ble_eq_true rfl)⟩ hK hS hZ hPc hDc hF 0 rfl rfl rfl hl.1 rfl (Nat.le_of_ble_eq_true rfl) dX11_rule_18 ⟨(Nat.le_of_ble_eq_true rfl), (Nat.le_of_ble_eq_true rfl)⟩) (fun ce q9 H locs hS hce hcv hcl => ?_)
  exact z_xout hno hlocks hS hce hcv hcl (Nat.le_of_ble_eq_true rfl) (Nat.le_of_ble_eq_true rfl)
set_option maxHeartbeats 4000000 in
set_option maxRecDepth 100000 in
theorem cL_rule_5 (l : Launch) (hl9 : l.stackTraces = false) (K : zK) (sz : Nat) (a0 : Nat) (a1 : Nat) (g0 : Nat → Value) (j0 : Nat) (hj0 : j0 < 8) (j1 : Nat) (hj1 : j1 < 8) (x2 : Int32) (e0 : ¬ x2 < (0 : Int32)) (e1 : ¬ x2 < (8 : Int32)) : vx_Met l yL_rule (Cond.codeWith yL_rule cL_rule 6 (some .int) [(0, 12, 15, 18), (0, 12, 19, 13)] :: WG) { frames := 8, cells := 1, slots := 6, locals := 127 } (zPre K [(a0, zO 9 9 g0)] sz [.ref a0, .int (nI j0), .int (nI j1), .int x2, .ref a1]) (va_Qi (fun (r : Int32) (_ : Nat → Nat) => r = 1) (zB K (va_A [(a0, zO 9 9 g0)] sz) (fun u : Nat → Nat => [])) (va_A [(a0, zO 9 9 g0)] sz)) (vx_X (fun _ : Unit => False) (fun _ _ _ => True) (va_A [(a0, zO 9 9 g0)] sz)) 1 6 (va_A [(a0, zO 9 9 g0)] sz) := by
  refine z_hmet (Qc := fun A => (va_Qi (fun (r : Int32) (_ : Nat → Nat) => r = 1) (zB K A (fun u : Nat → Nat => [])) A)) (XC := fun A => vx_X (fun _ : Unit => False) (fun _ _ _ => True) A) (by decide +kernel) (Nat.le_of_ble_eq_true rfl) ?_
  intro p e s m args below meth c A ls H hx hb hr hg hown hlocks hml hTab hK hP hD hA hS hZ hl
  have hown : s.vm.findClass RL = some m.cls := hown
  have hl : lv_has ls 6 [(0, .ref a0), (1, .int (nI j0)), (2, .int (nI j1)), (3, .int x2), (4, .ref a1)] := hl
  refine lv_aload hx hb dL_rule_0 (lv_at hl 4 rfl) ?_
  refine lv_iconst (v := 0) hx hb dL_rule_2 (by decide) ?_
  refine lv_aload_n hx hb dL_rule_3 rfl (lv_at hl 0 rfl) ?_
  refine lv_iload_n hx hb dL_rule_4 rfl (lv_at hl 1 rfl) ?_
  refine lv_iload_n hx hb dL_rule_5 rfl (lv_at hl 2 rfl) ?_
  refine lv_iload_n hx hb dL_rule_6 rfl (lv_at hl 3 rfl) ?_
  refine z_xcall (EX := zIA) [(a0, zO 9 9 g0)] [0] hP hD hS hA rfl (by decide) 1 6 rfl rfl (fun hPc hDc hF => z_xrunV (As := [.int (nI j0), .int (nI j1), .int x2]) (rest := [.int 0, .ref a1]) ⟨hx, hb, hml, hown, hg⟩ (cX11_rule_5 l hl9 K H.size a0 g0 j0 hj0 j1 hj1 x2 e0 e1) kV_RL_67 hd_X11_rule rfl rfl ⟨(Nat.le_of_ble_eq_true rfl), (Nat.le_of_ble_eq_true rfl)⟩ hK hS hZ hPc hDc hF 0 rfl rfl rfl hl.1 rfl (Nat.le_of_ble_eq_true rfl) dL_rule_7 ⟨(Nat.le_of_ble_eq_true rfl), (Nat.le_of_ble_eq_true rfl)⟩) (fun ce q9 H locs hS hce hcv hcl => ?_)
  refine vx_catch (own := RL) (name := zIA) (E := zIA) hown [] ⟨0, 12, 15, 18⟩ [⟨0, 12, 19, 13⟩] (by rw [hTab]; rfl) (fun z hz => nomatch hz) (by decide) (by decide) (hg _ mt491) (va_Nw.use rfl hZ.1.1.2.1) hce hcv hcl ?_
  have hP : va_P K.1 classes [] H := z_P0
  have hD : va_D A [] := z_D0
  refine lv_astore (lv' := [(5, .ref q9), (0, .ref a0), (1, .int (nI j0)), (2, .int (nI j1)), (3, .int x2), (4, .ref a1)]) hx hb dL_rule_15 hl (by decide) rfl (fun ls hl => ?_)
  refine lv_iconst (v := 1) hx hb dL_rule_17 (by decide) ?_
  have hP9 : va_P K.1 classes [] H := hP.sub [] rfl
  have hD9 : va_D A [] := hD.sub [] (by decide) rfl
  exact z_iret hx hb hr (fun _ => 0) rfl hP9 hD9 hS (Nat.le_of_ble_eq_true rfl) (Nat.le_of_ble_eq_true rfl) hlocks dL_rule_18
set_option maxHeartbeats 4000000 in
set_option maxRecDepth 100000 in
theorem cX12_rule_5 (l : Launch) (K : zK) (sz : Nat) (a0 : Nat) (g0 : Nat → Value) (j0 : Nat) (hj0 : j0 < 8) (j1 : Nat) (hj1 : j1 < 8) (x2 : Int32) (e0 : ¬ x2 < (0 : Int32)) (e1 : (7 : Int32) < x2) : Met l yX12_rule (Cond.code yX12_rule cX12_rule 4 (some .int) :: WG) { frames := 2, cells := 0, slots := 0, locals := 42 } (zPre K [(a0, zO 10 83 g0)] sz [.ref a0, .int (nI j0), .int (nI j1), .int x2]) (va_Qi (fun (r : Int32) (_ : Nat → Nat) => r = 0) (zB K (va_A [(a0, zO 10 83 g0)] sz) (fun u : Nat → Nat => [(a0, zO 10 83 (va_up g0 81 (.int 1)))])) (va_A [(a0, zO 10 83 g0)] sz)) 0 0 (va_A [(a0, zO 10 83 g0)] sz) := by
  refine z_met (Qc := fun A => (va_Qi (fun (r : Int32) (_ : Nat → Nat) => r = 0) (zB K A (fun u : Nat → Nat => [(a0, zO 10 83 (va_up g0 81 (.int 1)))])) A)) (by decide +kernel) (Nat.le_of_ble_eq_true rfl) ?_
  intro p e s m args below meth c A ls H hx hb hr hg hown hlocks hml hin hK hP hD hA hS hZ hl
  have hown : s.vm.findClass RX12 = some m.cls := hown
  have hl : lv_has ls 4 [(0, .ref a0), (1, .int (nI j0)), (2, .int (nI j1)), (3, .int x2)] := hl
  refine lv_aload_n hx hb dX12_rule_0 rfl (lv_at hl 0 rfl) ?_
  refine lv_iload_n hx hb dX12_rule_1 rfl (lv_at hl 1 rfl) ?_
  refine z_calli [] [(a0, zO 10 83 g0)] [] [0] hP hD hS hA rfl rfl (by decide) (by decide) (by decide +kernel) 0 0 rfl rfl (fun hPc hDc hF => z_runS (As := [.int (nI j0)]) (rest := [.ref a0]) ⟨hx, hb, hml, hown, hg⟩ (cX12_isGlobal_2 l K H.size j0 hj0) kS_RX12_197 hd_X12_isGlobal rfl rfl ⟨(Nat.le_of_ble_eq_true rfl), (Nat.le_of_ble_eq_true rfl)⟩ hK hS hZ hPc hDc hF rfl hl.1 rfl (Nat.le_of_ble_eq_true rfl) dX12_rule_2 ⟨(Nat.le_of_ble_eq_true rfl), (Nat.le_of_ble_eq_true rfl)⟩) (fun r3 u1 H locs w2 hP hD hS => ?_)
  subst w2
  have hP : va_P K.1 classes [(a0, zO 10 83 g0)] H := hP
  have hD : va_D A [(a0, zO 10 83 g0)] := hD
  refine lv_if_eq (tgt := 22) hx hb dX12_rule_5 (by decide) (fun c => absurd c (by decide)) (fun _ => ?_)
  refine lv_iload_n hx hb dX12_rule_8 rfl (lv_at hl 2 rfl) ?_
  refine z_calli [] [(a0, zO 10 83 g0)] [] [0] hP hD hS hA rfl rfl (by decide) (by decide) (by decide +kernel) 0 0 rfl rfl (fun hPc hDc hF => z_runS (As := [.int (nI j1)]) (rest := [.ref a0]) ⟨hx, hb, hml, hown, hg⟩ (cX12_isGlobal_2 l K H.size j1 hj1) kS_RX12_197 hd_X12_isGlobal rfl rfl ⟨(Nat.le_of_ble_eq_true rfl), (Nat.le_of_ble_eq_true rfl)⟩ hK hS hZ hPc hDc hF rfl hl.1 rfl (Nat.le_of_ble_eq_true rfl) dX12_rule_9 ⟨(Nat.le_of_ble_eq_true rfl), (Nat.le_of_ble_eq_true rfl)⟩) (fun r6 u4 H locs w5 hP hD hS => ?_)
  subst w5
  have hP : va_P K.1 classes [(a0, zO 10 83 g0)] H := hP
  have hD : va_D A [(a0, zO 10 83 g0)] := hD
  refine lv_if_eq (tgt := 22) hx hb dX12_rule_12 (by decide) (fun c => absurd c (by decide)) (fun _ => ?_)
  refine lv_iload_n hx hb dX12_rule_15 rfl (lv_at hl 3 rfl) ?_
  refine z_calli [] [(a0, zO 10 83 g0)] [] [0] hP hD hS hA rfl rfl (by decide) (by decide) (by decide +kernel) 0 0 rfl rfl (fun hPc hDc hF => z_runS (As := [.int x2]) (rest := [.ref a0]) ⟨hx, hb, hml, hown, hg⟩ (cX12_isGlobal_3 l K H.size x2 e0 e1) kS_RX12_197 hd_X12_isGlobal rfl rfl ⟨(Nat.le_of_ble_eq_true rfl), (Nat.le_of_ble_eq_true rfl)⟩ hK hS hZ hPc hDc hF rfl hl.1 rfl (Nat.le_of_ble_eq_true rfl) dX12_rule_16 ⟨(Nat.le_of_ble_eq_true rfl), (Nat.le_of_ble_eq_true rfl)⟩) (fun r9 u7 H locs w8 hP hD hS => ?_)
  subst w8
  have hP : va_P K.1 classes [(a0, zO 10 83 g0)] H := hP
  have hD : va_D A [(a0, zO 10 83 g0)] := hD
  refine lv_if_ne (tgt := 26) hx hb dX12_rule_19 (by decide) (fun c => absurd (by decide) c) (fun _ => ?_)
  refine lv_iconst (v := 1) hx hb dX12_rule_22 (by decide) ?_
  refine lv_goto (tgt := 40) hx hb dX12_rule_23 (by decide) ?_
  refine z_calli [(a0, zO 10 83 g0)] [] [0] [] hP hD hS hA rfl rfl (by decide) (by decide) (by decide +kernel) 0 0 rfl rfl (fun hPc hDc hF => z_runV (As := [.int 1]) (rest := []) ⟨hx, hb, hml, hown, hg⟩ (cX12_can_2 l K H.size a0 g0) kV_RX12_182 hd_X12_can rfl rfl ⟨(Nat.le_of_ble_eq_true rfl), (Nat.le_of_ble_eq_true rfl)⟩ hK hS hZ hPc hDc hF 0 rfl rfl rfl hl.1 rfl (Nat.le_of_ble_eq_true rfl) dX12_rule_40 ⟨(Nat.le_of_ble_eq_true rfl), (Nat.le_of_ble_eq_true rfl)⟩) (fun r12 u10 H locs w11 hP hD hS => ?_)
  subst w11
  have hP : va_P K.1 classes [(a0, zO 10 83 (va_up g0 81 (.int 1)))] H := hP
  have hD : va_D A [(a0, zO 10 83 (va_up g0 81 (.int 1)))] := hD
  refine lv_if_ne (tgt := 48) hx hb dX12_rule_43 (by decide) (fun c => absurd (by decide) c) (fun _ => ?_)
  refine lv_iconst (v := 0) hx hb dX12_rule_46 (by decide) ?_
  have hP9 : va_P K.1 classes [(a0, zO 10 83 (va_up g0 81 (.int 1)))] H := hP.sub [0] rfl
  have hD9 : va_D A [(a0, zO 10 83 (va_up g0 81 (.int 1)))] := hD.sub [0] (by decide) rfl
  exact z_iret hx hb hr (fun _ => 0) rfl hP9 hD9 hS (Nat.le_of_ble_eq_true rfl) (Nat.le_of_ble_eq_true rfl) hlocks dX12_rule_47
set_option maxHeartbeats 4000000 in
set_option maxRecDepth 100000 in
theorem cX11_rule_6 (l : Launch) (hl9 : l.stackTraces = false) (K : zK) (sz : Nat) (a0 : Nat) (g0 : Nat → Value) (j0 : Nat) (hj0 : j0 < 8) (x1 : Int32) (x2 : Int32) (e0 : ¬ x1 < (0 : Int32)) (e1 : ¬ x1 < (8 : Int32)) : vx_Met l yX11_rule (Cond.code yX11_rule cX11_rule 4 (some .int) :: WG) { frames := 7, cells := 1, slots := 6, locals := 104 } (zPre K [(a0, zO 9 9 g0)] sz [.ref a0, .int (nI j0), .int x1, .int x2]) (va_Qv (fun _ : Unit => False) (fun _ _ => True) (va_A [(a0, zO 9 9 g0)] sz)) (zX (va_A [(a0, zO 9 9 g0)] sz) zIA) 1 6 (va_A [(a0, zO 9 9 g0)] sz) := by
  refine z_xmet (Qc := fun A => va_Qv (fun _ : Unit => False) (fun _ _ => True) A) (XC := fun A => zX A zIA) (by decide +kernel) (Nat.le_of_ble_eq_true rfl) ?_
  intro p e s m args below meth c A ls H hx hb hr hg hown hlocks hml hno hK hP hD hA hS hZ hl
  have hown : s.vm.findClass RX11 = some m.cls := hown
  have hl : lv_has ls 4 [(0, .ref a0), (1, .int (nI j0)), (2, .int x1), (3, .int x2)] := hl
  refine lv_aload_n hx hb dX11_rule_0 rfl (lv_at hl 0 rfl) ?_
  refine lv_iload_n hx hb dX11_rule_1 rfl (lv_at hl 1 rfl) ?_
  refine lv_bipush (v := 8) hx hb dX11_rule_2 (by decide) ?_
  refine z_callv [(a0, zO 9 9 g0)] [] [0] [] hP hD hS hA rfl rfl (by decide) (by decide) (by decide +kernel) 0 0 rfl rfl (fun hPc hDc hF => z_runV (As := [.int (nI j0), .int 8]) (rest := []) ⟨hx, hb, hml, hown, hg⟩ (cX11_checkRange_5 l K H.size a0 g0 j0 hj0) kV_RX11_72 hd_X11_checkRange rfl rfl ⟨(Nat.le_of_ble_eq_true rfl), (Nat.le_of_ble_eq_true rfl)⟩ hK hS hZ hPc hDc hF 0 rfl rfl rfl hl.1 rfl (Nat.le_of_ble_eq_true rfl) dX11_rule_4 ⟨(Nat.le_of_ble_eq_true rfl), (Nat.le_of_ble_eq_true rfl)⟩) (fun u1 H locs w2 hP hD hS => ?_)
  have hP : va_P K.1 classes [(a0, zO 9 9 g0)] H := hP
  have hD : va_D A [(a0, zO 9 9 g0)] := hD
  refine lv_aload_n hx hb dX11_rule_7 rfl (lv_at hl 0 rfl) ?_
  refine lv_iload_n hx hb dX11_rule_8 rfl (lv_at hl 2 rfl) ?_
  refine lv_bipush (v := 8) hx hb dX11_rule_9 (by decide) ?_
  refine z_xcall (EX := zIA) [(a0, zO 9 9 g0)] [0] hP hD hS hA rfl (by decide) 1 6 rfl rfl (fun hPc hDc hF => z_xrunV (As := [.int x1, .int 8]) (rest := []) ⟨hx, hb, hml, hown, hg⟩ (cX11_checkRange_6 l hl9 K H.size a0 g0 x1 e0 e1) kV_RX11_72 hd_X11_checkRange rfl rfl ⟨(Nat.le_of_ble_eq_true rfl), (Nat.le_of_ble_eq_true rfl)⟩ hK hS hZ hPc hDc hF 0 rfl rfl rfl hl.1 rfl (Nat.le_of_ble_eq_true rfl) dX11_rule_11 ⟨(Nat.le_of_ble_eq_true rfl), (Nat.le_of_ble_eq_true rfl)⟩) (fun ce q9 H locs hS hce hcv hcl => ?_)
  exact z_xout hno hlocks hS hce hcv hcl (Nat.le_of_ble_eq_true rfl) (Nat.le_of_ble_eq_true rfl)
set_option maxHeartbeats 4000000 in
set_option maxRecDepth 100000 in
theorem cL_rule_6 (l : Launch) (hl9 : l.stackTraces = false) (K : zK) (sz : Nat) (a0 : Nat) (a1 : Nat) (g0 : Nat → Value) (j0 : Nat) (hj0 : j0 < 8) (x1 : Int32) (x2 : Int32) (e0 : ¬ x1 < (0 : Int32)) (e1 : ¬ x1 < (8 : Int32)) : vx_Met l yL_rule (Cond.codeWith yL_rule cL_rule 6 (some .int) [(0, 12, 15, 18), (0, 12, 19, 13)] :: WG) { frames := 8, cells := 1, slots := 6, locals := 127 } (zPre K [(a0, zO 9 9 g0)] sz [.ref a0, .int (nI j0), .int x1, .int x2, .ref a1]) (va_Qi (fun (r : Int32) (_ : Nat → Nat) => r = 1) (zB K (va_A [(a0, zO 9 9 g0)] sz) (fun u : Nat → Nat => [])) (va_A [(a0, zO 9 9 g0)] sz)) (vx_X (fun _ : Unit => False) (fun _ _ _ => True) (va_A [(a0, zO 9 9 g0)] sz)) 1 6 (va_A [(a0, zO 9 9 g0)] sz) := by
  refine z_hmet (Qc := fun A => (va_Qi (fun (r : Int32) (_ : Nat → Nat) => r = 1) (zB K A (fun u : Nat → Nat => [])) A)) (XC := fun A => vx_X (fun _ : Unit => False) (fun _ _ _ => True) A) (by decide +kernel) (Nat.le_of_ble_eq_true rfl) ?_
  intro p e s m args below meth c A ls H hx hb hr hg hown hlocks hml hTab hK hP hD hA hS hZ hl
  have hown : s.vm.findClass RL = some m.cls := hown
  have hl : lv_has ls 6 [(0, .ref a0), (1, .int (nI j0)), (2, .int x1), (3, .int x2), (4, .ref a1)] := hl
  refine lv_aload hx hb dL_rule_0 (lv_at hl 4 rfl) ?_
  refine lv_iconst (v := 0) hx hb dL_rule_2 (by decide) ?_
  refine lv_aload_n hx hb dL_rule_3 rfl (lv_at hl 0 rfl) ?_
  refine lv_iload_n hx hb dL_rule_4 rfl (lv_at hl 1 rfl) ?_
  refine lv_iload_n hx hb dL_rule_5 rfl (lv_at hl 2 rfl) ?_
  refine lv_iload_n hx hb dL_rule_6 rfl (lv_at hl 3 rfl) ?_
  refine z_xcall (EX := zIA) [(a0, zO 9 9 g0)] [0] hP hD hS hA rfl (by decide) 1 6 rfl rfl (fun hPc hDc hF => z_xrunV (As := [.int (nI j0), .int x1, .int x2]) (rest := [.int 0, .ref a1]) ⟨hx, hb, hml, hown, hg⟩ (cX11_rule_6 l hl9 K H.size a0 g0 j0 hj0 x1 x2 e0 e1) kV_RL_67 hd_X11_rule rfl rfl ⟨(Nat.le_of_ble_eq_true rfl), (Nat.le_of_ble_eq_true rfl)⟩ hK hS hZ hPc hDc hF 0 rfl rfl rfl hl.1 rfl (Nat.le_of_ble_eq_true rfl) dL_rule_7 ⟨(Nat.le_of_ble_eq_true rfl), (Nat.le_of_ble_eq_true rfl)⟩) (fun ce q9 H locs hS hce hcv hcl => ?_)
  refine vx_catch (own := RL) (name := zIA) (E := zIA) hown [] ⟨0, 12, 15, 18⟩ [⟨0, 12, 19, 13⟩] (by rw [hTab]; rfl) (fun z hz => nomatch hz) (by decide) (by decide) (hg _ mt491) (va_Nw.use rfl hZ.1.1.2.1) hce hcv hcl ?_
  have hP : va_P K.1 classes [] H := z_P0
  have hD : va_D A [] := z_D0
  refine lv_astore (lv' := [(5, .ref q9), (0, .ref a0), (1, .int (nI j0)), (2, .int x1), (3, .int x2), (4, .ref a1)]) hx hb dL_rule_15 hl (by decide) rfl (fun ls hl => ?_)
  refine lv_iconst (v := 1) hx hb dL_rule_17 (by decide) ?_
  have hP9 : va_P K.1 classes [] H := hP.sub [] rfl
  have hD9 : va_D A [] := hD.sub [] (by decide) rfl
  exact z_iret hx hb hr (fun _ => 0) rfl hP9 hD9 hS (Nat.le_of_ble_eq_true rfl) (Nat.le_of_ble_eq_true rfl) hlocks dL_rule_18
set_option maxHeartbeats 4000000 in
set_option maxRecDepth 100000 in
theorem cX12_rule_6 (l : Launch) (K : zK) (sz : Nat) (a0 : Nat) (g0 : Nat → Value) (j0 : Nat) (hj0 : j0 < 8) (x1 : Int32) (x2 : Int32) (e0 : ¬ x1 < (0 : Int32)) (e1 : (7 : Int32) < x1) : Met l yX12_rule (Cond.code yX12_rule cX12_rule 4 (some .int) :: WG) { frames := 2, cells := 0, slots := 0, locals := 42 } (zPre K [(a0, zO 10 83 g0)] sz [.ref a0, .int (nI j0), .int x1, .int x2]) (va_Qi (fun (r : Int32) (_ : Nat → Nat) => r = 0) (zB K (va_A [(a0, zO 10 83 g0)] sz) (fun u : Nat → Nat => [(a0, zO 10 83 (va_up g0 81 (.int 1)))])) (va_A [(a0, zO 10 83 g0)] sz)) 0 0 (va_A [(a0, zO 10 83 g0)] sz) := by
  refine z_met (Qc := fun A => (va_Qi (fun (r : Int32) (_ : Nat → Nat) => r = 0) (zB K A (fun u : Nat → Nat => [(a0, zO 10 83 (va_up g0 81 (.int 1)))])) A)) (by decide +kernel) (Nat.le_of_ble_eq_true rfl) ?_
  intro p e s m args below meth c A ls H hx hb hr hg hown hlocks hml hin hK hP hD hA hS hZ hl
  have hown : s.vm.findClass RX12 = some m.cls := hown
  have hl : lv_has ls 4 [(0, .ref a0), (1, .int (nI j0)), (2, .int x1), (3, .int x2)] := hl
  refine lv_aload_n hx hb dX12_rule_0 rfl (lv_at hl 0 rfl) ?_
  refine lv_iload_n hx hb dX12_rule_1 rfl (lv_at hl 1 rfl) ?_
  refine z_calli [] [(a0, zO 10 83 g0)] [] [0] hP hD hS hA rfl rfl (by decide) (by decide) (by decide +kernel) 0 0 rfl rfl (fun hPc hDc hF => z_runS (As := [.int (nI j0)]) (rest := [.ref a0]) ⟨hx, hb, hml, hown, hg⟩ (cX12_isGlobal_2 l K H.size j0 hj0) kS_RX12_197 hd_X12_isGlobal rfl rfl ⟨(Nat.le_of_ble_eq_true rfl), (Nat.le_of_ble_eq_true rfl)⟩ hK hS hZ hPc hDc hF rfl hl.1 rfl (Nat.le_of_ble_eq_true rfl) dX12_rule_2 ⟨(Nat.le_of_ble_eq_true rfl), (Nat.le_of_ble_eq_true rfl)⟩) (fun r3 u1 H locs w2 hP hD hS => ?_)
  subst w2
  have hP : va_P K.1 classes [(a0, zO 10 83 g0)] H := hP
  have hD : va_D A [(a0, zO 10 83 g0)] := hD
  refine lv_if_eq (tgt := 22) hx hb dX12_rule_5 (by decide) (fun c => absurd c (by decide)) (fun _ => ?_)
  refine lv_iload_n hx hb dX12_rule_8 rfl (lv_at hl 2 rfl) ?_
  refine z_calli [] [(a0, zO 10 83 g0)] [] [0] hP hD hS hA rfl rfl (by decide) (by decide) (by decide +kernel) 0 0 rfl rfl (fun hPc hDc hF => z_runS (As := [.int x1]) (rest := [.ref a0]) ⟨hx, hb, hml, hown, hg⟩ (cX12_isGlobal_3 l K H.size x1 e0 e1) kS_RX12_197 hd_X12_isGlobal rfl rfl ⟨(Nat.le_of_ble_eq_true rfl), (Nat.le_of_ble_eq_true rfl)⟩ hK hS hZ hPc hDc hF rfl hl.1 rfl (Nat.le_of_ble_eq_true rfl) dX12_rule_9 ⟨(Nat.le_of_ble_eq_true rfl), (Nat.le_of_ble_eq_true rfl)⟩) (fun r6 u4 H locs w5 hP hD hS => ?_)
  subst w5
  have hP : va_P K.1 classes [(a0, zO 10 83 g0)] H := hP
  have hD : va_D A [(a0, zO 10 83 g0)] := hD
  refine lv_if_eq (tgt := 22) hx hb dX12_rule_12 (by decide) (fun _ => ?_) (fun c => absurd (by decide) c)
  refine lv_iconst (v := 1) hx hb dX12_rule_22 (by decide) ?_
  refine lv_goto (tgt := 40) hx hb dX12_rule_23 (by decide) ?_
  refine z_calli [(a0, zO 10 83 g0)] [] [0] [] hP hD hS hA rfl rfl (by decide) (by decide) (by decide +kernel) 0 0 rfl rfl (fun hPc hDc hF => z_runV (As := [.int 1]) (rest := []) ⟨hx, hb, hml, hown, hg⟩ (cX12_can_2 l K H.size a0 g0) kV_RX12_182 hd_X12_can rfl rfl ⟨(Nat.le_of_ble_eq_true rfl), (Nat.le_of_ble_eq_true rfl)⟩ hK hS hZ hPc hDc hF 0 rfl rfl rfl hl.1 rfl (Nat.le_of_ble_eq_true rfl) dX12_rule_40 ⟨(Nat.le_of_ble_eq_true rfl), (Nat.le_of_ble_eq_true rfl)⟩) (fun r9 u7 H locs w8 hP hD hS => ?_)
  subst w8
  have hP : va_P K.1 classes [(a0, zO 10 83 (va_up g0 81 (.int 1)))] H := hP
  have hD : va_D A [(a0, zO 10 83 (va_up g0 81 (.int 1)))] := hD
  refine lv_if_ne (tgt := 48) hx hb dX12_rule_43 (by decide) (fun c => absurd (by decide) c) (fun _ => ?_)
  refine lv_iconst (v := 0) hx hb dX12_rule_46 (by decide) ?_
  have hP9 : va_P K.1 classes [(a0, zO 10 83 (va_up g0 81 (.int 1)))] H := hP.sub [0] rfl
  have hD9 : va_D A [(a0, zO 10 83 (va_up g0 81 (.int 1)))] := hD.sub [0] (by decide) rfl
  exact z_iret hx hb hr (fun _ => 0) rfl hP9 hD9 hS (Nat.le_of_ble_eq_true rfl) (Nat.le_of_ble_eq_true rfl) hlocks dX12_rule_47
set_option maxHeartbeats 4000000 in
set_option maxRecDepth 100000 in
theorem cX11_rule_7 (l : Launch) (hl9 : l.stackTraces = false) (K : zK) (sz : Nat) (a0 : Nat) (g0 : Nat → Value) (x0 : Int32) (x1 : Int32) (x2 : Int32) (e0 : ¬ x0 < (0 : Int32)) (e1 : ¬ x0 < (8 : Int32)) : vx_Met l yX11_rule (Cond.code yX11_rule cX11_rule 4 (some .int) :: WG) { frames := 7, cells := 1, slots := 6, locals := 104 } (zPre K [(a0, zO 9 9 g0)] sz [.ref a0, .int x0, .int x1, .int x2]) (va_Qv (fun _ : Unit => False) (fun _ _ => True) (va_A [(a0, zO 9 9 g0)] sz)) (zX (va_A [(a0, zO 9 9 g0)] sz) zIA) 1 6 (va_A [(a0, zO 9 9 g0)] sz) := by
  refine z_xmet (Qc := fun A => va_Qv (fun _ : Unit => False) (fun _ _ => True) A) (XC := fun A => zX A zIA) (by decide +kernel) (Nat.le_of_ble_eq_true rfl) ?_
  intro p e s m args below meth c A ls H hx hb hr hg hown hlocks hml hno hK hP hD hA hS hZ hl
  have hown : s.vm.findClass RX11 = some m.cls := hown
  have hl : lv_has ls 4 [(0, .ref a0), (1, .int x0), (2, .int x1), (3, .int x2)] := hl
  refine lv_aload_n hx hb dX11_rule_0 rfl (lv_at hl 0 rfl) ?_
  refine lv_iload_n hx hb dX11_rule_1 rfl (lv_at hl 1 rfl) ?_
  refine lv_bipush (v := 8) hx hb dX11_rule_2 (by decide) ?_
  refine z_xcall (EX := zIA) [(a0, zO 9 9 g0)] [0] hP hD hS hA rfl (by decide) 1 6 rfl rfl (fun hPc hDc hF => z_xrunV (As := [.int x0, .int 8]) (rest := []) ⟨hx, hb, hml, hown, hg⟩ (cX11_checkRange_6 l hl9 K H.size a0 g0 x0 e0 e1) kV_RX11_72 hd_X11_checkRange rfl rfl ⟨(Nat.le_of_ble_eq_true rfl), (Nat.le_of_ble_eq_true rfl)⟩ hK hS hZ hPc hDc hF 0 rfl rfl rfl hl.1 rfl (Nat.le_of_ble_eq_true rfl) dX11_rule_4 ⟨(Nat.le_of_ble_eq_true rfl), (Nat.le_of_ble_eq_true rfl)⟩) (fun ce q9 H locs hS hce hcv hcl => ?_)
  exact z_xout hno hlocks hS hce hcv hcl (Nat.le_of_ble_eq_true rfl) (Nat.le_of_ble_eq_true rfl)
set_option maxHeartbeats 4000000 in
set_option maxRecDepth 100000 in
theorem cL_rule_7 (l : Launch) (hl9 : l.stackTraces = false) (K : zK) (sz : Nat) (a0 : Nat) (a1 : Nat) (g0 : Nat → Value) (x0 : Int32) (x1 : Int32) (x2 : Int32) (e0 : ¬ x0 < (0 : Int32)) (e1 : ¬ x0 < (8 : Int32)) : vx_Met l yL_rule (Cond.codeWith yL_rule cL_rule 6 (some .int) [(0, 12, 15, 18), (0, 12, 19, 13)] :: WG) { frames := 8, cells := 1, slots := 6, locals := 127 } (zPre K [(a0, zO 9 9 g0)] sz [.ref a0, .int x0, .int x1, .int x2, .ref a1]) (va_Qi (fun (r : Int32) (_ : Nat → Nat) => r = 1) (zB K (va_A [(a0, zO 9 9 g0)] sz) (fun u : Nat → Nat => [])) (va_A [(a0, zO 9 9 g0)] sz)) (vx_X (fun _ : Unit => False) (fun _ _ _ => True) (va_A [(a0, zO 9 9 g0)] sz)) 1 6 (va_A [(a0, zO 9 9 g0)] sz) := by
  refine z_hmet (Qc := fun A => (va_Qi (fun (r : Int32) (_ : Nat → Nat) => r = 1) (zB K A (fun u : Nat → Nat => [])) A)) (XC := fun A => vx_X (fun _ : Unit => False) (fun _ _ _ => True) A) (by decide +kernel) (Nat.le_of_ble_eq_true rfl) ?_
  intro p e s m args below meth c A ls H hx hb hr hg hown hlocks hml hTab hK hP hD hA hS hZ hl
  have hown : s.vm.findClass RL = some m.cls := hown
  have hl : lv_has ls 6 [(0, .ref a0), (1, .int x0), (2, .int x1), (3, .int x2), (4, .ref a1)] := hl
  refine lv_aload hx hb dL_rule_0 (lv_at hl 4 rfl) ?_
  refine lv_iconst (v := 0) hx hb dL_rule_2 (by decide) ?_
  refine lv_aload_n hx hb dL_rule_3 rfl (lv_at hl 0 rfl) ?_
  refine lv_iload_n hx hb dL_rule_4 rfl (lv_at hl 1 rfl) ?_
  refine lv_iload_n hx hb dL_rule_5 rfl (lv_at hl 2 rfl) ?_
  refine lv_iload_n hx hb dL_rule_6 rfl (lv_at hl 3 rfl) ?_
  refine z_xcall (EX := zIA) [(a0, zO 9 9 g0)] [0] hP hD hS hA rfl (by decide) 1 6 rfl rfl (fun hPc hDc hF => z_xrunV (As := [.int x0, .int x1, .int x2]) (rest := [.int 0, .ref a1]) ⟨hx, hb, hml, hown, hg⟩ (cX11_rule_7 l hl9 K H.size a0 g0 x0 x1 x2 e0 e1) kV_RL_67 hd_X11_rule rfl rfl ⟨(Nat.le_of_ble_eq_true rfl), (Nat.le_of_ble_eq_true rfl)⟩ hK hS hZ hPc hDc hF 0 rfl rfl rfl hl.1 rfl (Nat.le_of_ble_eq_true rfl) dL_rule_7 ⟨(Nat.le_of_ble_eq_true rfl), (Nat.le_of_ble_eq_true rfl)⟩) (fun ce q9 H locs hS hce hcv hcl => ?_)
  refine vx_catch (own := RL) (name := zIA) (E := zIA) hown [] ⟨0, 12, 15, 18⟩ [⟨0, 12, 19, 13⟩] (by rw [hTab]; rfl) (fun z hz => nomatch hz) (by decide) (by decide) (hg _ mt491) (va_Nw.use rfl hZ.1.1.2.1) hce hcv hcl ?_
  have hP : va_P K.1 classes [] H := z_P0
  have hD : va_D A [] := z_D0
  refine lv_astore (lv' := [(5, .ref q9), (0, .ref a0), (1, .int x0), (2, .int x1), (3, .int x2), (4, .ref a1)]) hx hb dL_rule_15 hl (by decide) rfl (fun ls hl => ?_)
  refine lv_iconst (v := 1) hx hb dL_rule_17 (by decide) ?_
  have hP9 : va_P K.1 classes [] H := hP.sub [] rfl
  have hD9 : va_D A [] := hD.sub [] (by decide) rfl
  exact z_iret hx hb hr (fun _ => 0) rfl hP9 hD9 hS (Nat.le_of_ble_eq_true rfl) (Nat.le_of_ble_eq_true rfl) hlocks dL_rule_18
set_option maxHeartbeats 4000000 in
set_option maxRecDepth 100000 in
theorem cX12_rule_7 (l : Launch) (K : zK) (sz : Nat) (a0 : Nat) (g0 : Nat → Value) (x0 : Int32) (x1 : Int32) (x2 : Int32) (e0 : ¬ x0 < (0 : Int32)) (e1 : (7 : Int32) < x0) : Met l yX12_rule (Cond.code yX12_rule cX12_rule 4 (some .int) :: WG) { frames := 2, cells := 0, slots := 0, locals := 42 } (zPre K [(a0, zO 10 83 g0)] sz [.ref a0, .int x0, .int x1, .int x2]) (va_Qi (fun (r : Int32) (_ : Nat → Nat) => r = 0) (zB K (va_A [(a0, zO 10 83 g0)] sz) (fun u : Nat → Nat => [(a0, zO 10 83 (va_up g0 81 (.int 1)))])) (va_A [(a0, zO 10 83 g0)] sz)) 0 0 (va_A [(a0, zO 10 83 g0)] sz) := by
  refine z_met (Qc := fun A => (va_Qi (fun (r : Int32) (_ : Nat → Nat) => r = 0) (zB K A (fun u : Nat → Nat => [(a0, zO 10 83 (va_up g0 81 (.int 1)))])) A)) (by decide +kernel) (Nat.le_of_ble_eq_true rfl) ?_
  intro p e s m args below meth c A ls H hx hb hr hg hown hlocks hml hin hK hP hD hA hS hZ hl
  have hown : s.vm.findClass RX12 = some m.cls := hown
  have hl : lv_has ls 4 [(0, .ref a0), (1, .int x0), (2, .int x1), (3, .int x2)] := hl
  refine lv_aload_n hx hb dX12_rule_0 rfl (lv_at hl 0 rfl) ?_
  refine lv_iload_n hx hb dX12_rule_1 rfl (lv_at hl 1 rfl) ?_
  refine z_calli [] [(a0, zO 10 83 g0)] [] [0] hP hD hS hA rfl rfl (by decide) (by decide) (by decide +kernel) 0 0 rfl rfl (fun hPc hDc hF => z_runS (As := [.int x0]) (rest := [.ref a0]) ⟨hx, hb, hml, hown, hg⟩ (cX12_isGlobal_3 l K H.size x0 e0 e1) kS_RX12_197 hd_X12_isGlobal rfl rfl ⟨(Nat.le_of_ble_eq_true rfl), (Nat.le_of_ble_eq_true rfl)⟩ hK hS hZ hPc hDc hF rfl hl.1 rfl (Nat.le_of_ble_eq_true rfl) dX12_rule_2 ⟨(Nat.le_of_ble_eq_true rfl), (Nat.le_of_ble_eq_true rfl)⟩) (fun r3 u1 H locs w2 hP hD hS => ?_)
  subst w2
  have hP : va_P K.1 classes [(a0, zO 10 83 g0)] H := hP
  have hD : va_D A [(a0, zO 10 83 g0)] := hD
  refine lv_if_eq (tgt := 22) hx hb dX12_rule_5 (by decide) (fun _ => ?_) (fun c => absurd (by decide) c)
  refine lv_iconst (v := 1) hx hb dX12_rule_22 (by decide) ?_
  refine lv_goto (tgt := 40) hx hb dX12_rule_23 (by decide) ?_
  refine z_calli [(a0, zO 10 83 g0)] [] [0] [] hP hD hS hA rfl rfl (by decide) (by decide) (by decide +kernel) 0 0 rfl rfl (fun hPc hDc hF => z_runV (As := [.int 1]) (rest := []) ⟨hx, hb, hml, hown, hg⟩ (cX12_can_2 l K H.size a0 g0) kV_RX12_182 hd_X12_can rfl rfl ⟨(Nat.le_of_ble_eq_true rfl), (Nat.le_of_ble_eq_true rfl)⟩ hK hS hZ hPc hDc hF 0 rfl rfl rfl hl.1 rfl (Nat.le_of_ble_eq_true rfl) dX12_rule_40 ⟨(Nat.le_of_ble_eq_true rfl), (Nat.le_of_ble_eq_true rfl)⟩) (fun r6 u4 H locs w5 hP hD hS => ?_)
  subst w5
  have hP : va_P K.1 classes [(a0, zO 10 83 (va_up g0 81 (.int 1)))] H := hP
  have hD : va_D A [(a0, zO 10 83 (va_up g0 81 (.int 1)))] := hD
  refine lv_if_ne (tgt := 48) hx hb dX12_rule_43 (by decide) (fun c => absurd (by decide) c) (fun _ => ?_)
  refine lv_iconst (v := 0) hx hb dX12_rule_46 (by decide) ?_
  have hP9 : va_P K.1 classes [(a0, zO 10 83 (va_up g0 81 (.int 1)))] H := hP.sub [0] rfl
  have hD9 : va_D A [(a0, zO 10 83 (va_up g0 81 (.int 1)))] := hD.sub [0] (by decide) rfl
  exact z_iret hx hb hr (fun _ => 0) rfl hP9 hD9 hS (Nat.le_of_ble_eq_true rfl) (Nat.le_of_ble_eq_true rfl) hlocks dX12_rule_47
set_option maxHeartbeats 4000000 in
set_option maxRecDepth 100000 in
theorem cX11_checkRange_10 (l : Launch) (hl9 : l.stackTraces = false) (K : zK) (sz : Nat) (a0 : Nat) (g0 : Nat → Value) (x0 : Int32) (e0 : x0 < (0 : Int32)) : vx_Met l yX11_checkRange (Cond.code yX11_checkRange cX11_checkRange 3 none :: WG) { frames := 6, cells := 1, slots := 6, locals := 82 } (zPre K [(a0, zO 9 9 g0)] sz [.ref a0, .int x0, .int 9]) (va_Qv (fun _ : Unit => False) (fun _ _ => True) (va_A [(a0, zO 9 9 g0)] sz)) (zX (va_A [(a0, zO 9 9 g0)] sz) zIA) 1 6 (va_A [(a0, zO 9 9 g0)] sz) := by
  refine z_xmet (Qc := fun A => va_Qv (fun _ : Unit => False) (fun _ _ => True) A) (XC := fun A => zX A zIA) (by decide +kernel) (Nat.le_of_ble_eq_true rfl) ?_
  intro p e s m args below meth c A ls H hx hb hr hg hown hlocks hml hno hK hP hD hA hS hZ hl
  have hown : s.vm.findClass RX11 = some m.cls := hown
  have hl : lv_has ls 3 [(0, .ref a0), (1, .int x0), (2, .int 9)] := hl
  refine lv_iload_n hx hb dX11_checkRange_0 rfl (lv_at hl 1 rfl) ?_
  refine lv_if_lt (tgt := 9) hx hb dX11_checkRange_1 (by decide) (fun _ => ?_) (fun c => absurd e0 c)
  exact z_throw (ik := 82) (is := 183) (ic := 86) hx hb hl9 hg hown (by decide +kernel) mt500 mt16 hZ.1.2.2.1 (at_zIA hg hZ) ok_zIA hZ hS hl.1 hml dX11_checkRange_9 dX11_checkRange_12 dX11_checkRange_13 dX11_checkRange_15 dX11_checkRange_18 hno hlocks (Nat.le_of_ble_eq_true rfl) (Nat.le_of_ble_eq_true rfl) (Nat.le_of_ble_eq_true rfl) (Nat.le_of_ble_eq_true rfl) (Nat.le_of_ble_eq_true rfl) (Nat.le_of_ble_eq_true rfl)
set_option maxHeartbeats 4000000 in
set_option maxRecDepth 100000 in
theorem cX11_pass_1 (l : Launch) (hl9 : l.stackTraces = false) (K : zK) (sz : Nat) (a0 : Nat) (g0 : Nat → Value) (x0 : Int32) (x1 : Int32) (e0 : x0 < (0 : Int32)) : vx_Met l yX11_pass (Cond.code yX11_pass cX11_pass 3 (some .int) :: WG) { frames := 7, cells := 1, slots := 6, locals := 104 } (zPre K [(a0, zO 9 9 g0)] sz [.ref a0, .int x0, .int x1]) (va_Qv (fun _ : Unit => False) (fun _ _ => True) (va_A [(a0, zO 9 9 g0)] sz)) (zX (va_A [(a0, zO 9 9 g0)] sz) zIA) 1 6 (va_A [(a0, zO 9 9 g0)] sz) := by
  refine z_xmet (Qc := fun A => va_Qv (fun _ : Unit => False) (fun _ _ => True) A) (XC := fun A => zX A zIA) (by decide +kernel) (Nat.le_of_ble_eq_true rfl) ?_
  intro p e s m args below meth c A ls H hx hb hr hg hown hlocks hml hno hK hP hD hA hS hZ hl
  have hown : s.vm.findClass RX11 = some m.cls := hown
  have hl : lv_has ls 3 [(0, .ref a0), (1, .int x0), (2, .int x1)] := hl
  refine lv_aload_n hx hb dX11_pass_0 rfl (lv_at hl 0 rfl) ?_
  refine lv_iload_n hx hb dX11_pass_1 rfl (lv_at hl 1 rfl) ?_
  refine lv_bipush (v := 9) hx hb dX11_pass_2 (by decide) ?_
  refine z_xcall (EX := zIA) [(a0, zO 9 9 g0)] [0] hP hD hS hA rfl (by decide) 1 6 rfl rfl (fun hPc hDc hF => z_xrunV (As := [.int x0, .int 9]) (rest := []) ⟨hx, hb, hml, hown, hg⟩ (cX11_checkRange_10 l hl9 K H.size a0 g0 x0 e0) kV_RX11_72 hd_X11_checkRange rfl rfl ⟨(Nat.le_of_ble_eq_true rfl), (Nat.le_of_ble_eq_true rfl)⟩ hK hS hZ hPc hDc hF 0 rfl rfl rfl hl.1 rfl (Nat.le_of_ble_eq_true rfl) dX11_pass_4 ⟨(Nat.le_of_ble_eq_true rfl), (Nat.le_of_ble_eq_true rfl)⟩) (fun ce q9 H locs hS hce hcv hcl => ?_)
  exact z_xout hno hlocks hS hce hcv hcl (Nat.le_of_ble_eq_true rfl) (Nat.le_of_ble_eq_true rfl)
set_option maxHeartbeats 4000000 in
set_option maxRecDepth 100000 in
theorem cL_pass_1 (l : Launch) (hl9 : l.stackTraces = false) (K : zK) (sz : Nat) (a0 : Nat) (a1 : Nat) (g0 : Nat → Value) (x0 : Int32) (x1 : Int32) (e0 : x0 < (0 : Int32)) : vx_Met l yL_pass (Cond.codeWith yL_pass cL_pass 5 (some .int) [(0, 10, 13, 18), (0, 10, 17, 13)] :: WG) { frames := 8, cells := 1, slots := 6, locals := 126 } (zPre K [(a0, zO 9 9 g0)] sz [.ref a0, .int x0, .int x1, .ref a1]) (va_Qi (fun (r : Int32) (_ : Nat → Nat) => r = 1) (zB K (va_A [(a0, zO 9 9 g0)] sz) (fun u : Nat → Nat => [])) (va_A [(a0, zO 9 9 g0)] sz)) (vx_X (fun _ : Unit => False) (fun _ _ _ => True) (va_A [(a0, zO 9 9 g0)] sz)) 1 6 (va_A [(a0, zO 9 9 g0)] sz) := by
  refine z_hmet (Qc := fun A => (va_Qi (fun (r : Int32) (_ : Nat → Nat) => r = 1) (zB K A (fun u : Nat → Nat => [])) A)) (XC := fun A => vx_X (fun _ : Unit => False) (fun _ _ _ => True) A) (by decide +kernel) (Nat.le_of_ble_eq_true rfl) ?_
  intro p e s m args below meth c A ls H hx hb hr hg hown hlocks hml hTab hK hP hD hA hS hZ hl
  have hown : s.vm.findClass RL = some m.cls := hown
  have hl : lv_has ls 5 [(0, .ref a0), (1, .int x0), (2, .int x1), (3, .ref a1)] := hl
  refine lv_aload_n hx hb dL_pass_0 rfl (lv_at hl 3 rfl) ?_
  refine lv_iconst (v := 0) hx hb dL_pass_1 (by decide) ?_
  refine lv_aload_n hx hb dL_pass_2 rfl (lv_at hl 0 rfl) ?_
  refine lv_iload_n hx hb dL_pass_3 rfl (lv_at hl 1 rfl) ?_
  refine lv_iload_n hx hb dL_pass_4 rfl (lv_at hl 2 rfl) ?_
  refine z_xcall (EX := zIA) [(a0, zO 9 9 g0)] [0] hP hD hS hA rfl (by decide) 1 6 rfl rfl (fun hPc hDc hF => z_xrunV (As := [.int x0, .int x1]) (rest := [.int 0, .ref a1]) ⟨hx, hb, hml, hown, hg⟩ (cX11_pass_1 l hl9 K H.size a0 g0 x0 x1 e0) kV_RL_70 hd_X11_pass rfl rfl ⟨(Nat.le_of_ble_eq_true rfl), (Nat.le_of_ble_eq_true rfl)⟩ hK hS hZ hPc hDc hF 0 rfl rfl rfl hl.1 rfl (Nat.le_of_ble_eq_true rfl) dL_pass_5 ⟨(Nat.le_of_ble_eq_true rfl), (Nat.le_of_ble_eq_true rfl)⟩) (fun ce q9 H locs hS hce hcv hcl => ?_)
  refine vx_catch (own := RL) (name := zIA) (E := zIA) hown [] ⟨0, 10, 13, 18⟩ [⟨0, 10, 17, 13⟩] (by rw [hTab]; rfl) (fun z hz => nomatch hz) (by decide) (by decide) (hg _ mt491) (va_Nw.use rfl hZ.1.1.2.1) hce hcv hcl ?_
  have hP : va_P K.1 classes [] H := z_P0
  have hD : va_D A [] := z_D0
  refine lv_astore (lv' := [(4, .ref q9), (0, .ref a0), (1, .int x0), (2, .int x1), (3, .ref a1)]) hx hb dL_pass_13 hl (by decide) rfl (fun ls hl => ?_)
  refine lv_iconst (v := 1) hx hb dL_pass_15 (by decide) ?_
  have hP9 : va_P K.1 classes [] H := hP.sub [] rfl
  have hD9 : va_D A [] := hD.sub [] (by decide) rfl
  exact z_iret hx hb hr (fun _ => 0) rfl hP9 hD9 hS (Nat.le_of_ble_eq_true rfl) (Nat.le_of_ble_eq_true rfl) hlocks dL_pass_16
set_option maxHeartbeats 4000000 in
set_option maxRecDepth 100000 in
theorem cX12_isIn_15 (l : Launch) (K : zK) (sz : Nat) (x0 : Int32) (e0 : x0 < (0 : Int32)) : Met l yX12_isIn (Cond.code yX12_isIn cX12_isIn 3 (some .boolean) :: WG) { frames := 0, cells := 0, slots := 0, locals := 0 } (zPre K [] sz [.int x0, .int 0, .int 8]) (va_Qi (fun (r : Int32) (_ : Nat → Nat) => r = 0) (zB K (va_A [] sz) (fun u : Nat → Nat => [])) (va_A [] sz)) 0 0 (va_A [] sz) := by
  refine z_met (Qc := fun A => (va_Qi (fun (r : Int32) (_ : Nat → Nat) => r = 0) (zB K A (fun u : Nat → Nat => [])) A)) (by decide +kernel) (Nat.le_of_ble_eq_true rfl) ?_
  intro p e s m args below meth c A ls H hx hb hr hg hown hlocks hml hin hK hP hD hA hS hZ hl
  have hown : s.vm.findClass RX12 = some m.cls := hown
  have hl : lv_has ls 3 [(0, .int x0), (1, .int 0), (2, .int 8)] := hl
  refine lv_iload_n hx hb dX12_isIn_0 rfl (lv_at hl 0 rfl) ?_
  refine lv_iload_n hx hb dX12_isIn_1 rfl (lv_at hl 1 rfl) ?_
  refine lv_icmp_lt (tgt := 14) hx hb dX12_isIn_2 (by decide) (fun _ => ?_) (fun c => absurd e0 c)
  refine lv_iconst (v := 0) hx hb dX12_isIn_14 (by decide) ?_
  have hP9 : va_P K.1 classes [] H := hP.sub [] rfl
  have hD9 : va_D A [] := hD.sub [] (by decide) rfl
  exact z_zret hx hb hr rfl (fun _ => 0) rfl hP9 hD9 hS (Nat.le_of_ble_eq_true rfl) (Nat.le_of_ble_eq_true rfl) hlocks dX12_isIn_15
set_option maxHeartbeats 4000000 in
set_option maxRecDepth 100000 in
theorem cX12_pass_1 (l : Launch) (K : zK) (sz : Nat) (a0 : Nat) (g0 : Nat → Value) (x0 : Int32) (x1 : Int32) (e0 : x0 < (0 : Int32)) : Met l yX12_pass (Cond.code yX12_pass cX12_pass 6 (some .int) :: WG) { frames := 1, cells := 0, slots := 0, locals := 22 } (zPre K [(a0, zO 10 83 g0)] sz [.ref a0, .int x0, .int x1]) (va_Qi (fun (r : Int32) (_ : Nat → Nat) => r = 0) (zB K (va_A [(a0, zO 10 83 g0)] sz) (fun u : Nat → Nat => [(a0, zO 10 83 (va_up g0 81 (.int 1)))])) (va_A [(a0, zO 10 83 g0)] sz)) 0 0 (va_A [(a0, zO 10 83 g0)] sz) := by
  refine z_met (Qc := fun A => (va_Qi (fun (r : Int32) (_ : Nat → Nat) => r = 0) (zB K A (fun u : Nat → Nat => [(a0, zO 10 83 (va_up g0 81 (.int 1)))])) A)) (by decide +kernel) (Nat.le_of_ble_eq_true rfl) ?_
  intro p e s m args below meth c A ls H hx hb hr hg hown hlocks hml hin hK hP hD hA hS hZ hl
  have hown : s.vm.findClass RX12 = some m.cls := hown
  have hl : lv_has ls 6 [(0, .ref a0), (1, .int x0), (2, .int x1)] := hl
  refine lv_iload_n hx hb dX12_pass_0 rfl (lv_at hl 1 rfl) ?_
  refine lv_iconst (v := 0) hx hb dX12_pass_1 (by decide) ?_
  refine lv_bipush (v := 8) hx hb dX12_pass_2 (by decide) ?_
  refine z_calli [] [(a0, zO 10 83 g0)] [] [0] hP hD hS hA rfl rfl (by decide) (by decide) (by decide +kernel) 0 0 rfl rfl (fun hPc hDc hF => z_runS (As := [.int x0, .int 0, .int 8]) (rest := []) ⟨hx, hb, hml, hown, hg⟩ (cX12_isIn_15 l K H.size x0 e0) kS_RX12_175 hd_X12_isIn rfl rfl ⟨(Nat.le_of_ble_eq_true rfl), (Nat.le_of_ble_eq_true rfl)⟩ hK hS hZ hPc hDc hF rfl hl.1 rfl (Nat.le_of_ble_eq_true rfl) dX12_pass_4 ⟨(Nat.le_of_ble_eq_true rfl), (Nat.le_of_ble_eq_true rfl)⟩) (fun r3 u1 H locs w2 hP hD hS => ?_)
  subst w2
  have hP : va_P K.1 classes [(a0, zO 10 83 g0)] H := hP
  have hD : va_D A [(a0, zO 10 83 g0)] := hD
  refine lv_if_eq (tgt := 21) hx hb dX12_pass_7 (by decide) (fun _ => ?_) (fun c => absurd (by decide) c)
  refine lv_iconst (v := 0) hx hb dX12_pass_21 (by decide) ?_
  refine lv_istore_n (lv' := [(3, .int 0), (0, .ref a0), (1, .int x0), (2, .int x1)]) hx hb dX12_pass_22 rfl hl (by decide) rfl (fun ls hl => ?_)
  refine lv_aload_n hx hb dX12_pass_23 rfl (lv_at hl 1 rfl) ?_
  refine lv_iload_n hx hb dX12_pass_24 rfl (lv_at hl 0 rfl) ?_
  refine lv_if_ne (tgt := 32) hx hb dX12_pass_25 (by decide) (fun c => absurd (by decide) c) (fun _ => ?_)
  refine lv_iconst (v := 1) hx hb dX12_pass_28 (by decide) ?_
  refine lv_goto (tgt := 46) hx hb dX12_pass_29 (by decide) ?_
  refine z_calli [(a0, zO 10 83 g0)] [] [0] [] hP hD hS hA rfl rfl (by decide) (by decide) (by decide +kernel) 0 0 rfl rfl (fun hPc hDc hF => z_runV (As := [.int 1]) (rest := []) ⟨hx, hb, hml, hown, hg⟩ (cX12_can_2 l K H.size a0 g0) kV_RX12_182 hd_X12_can rfl rfl ⟨(Nat.le_of_ble_eq_true rfl), (Nat.le_of_ble_eq_true rfl)⟩ hK hS hZ hPc hDc hF 0 rfl rfl rfl hl.1 rfl (Nat.le_of_ble_eq_true rfl) dX12_pass_46 ⟨(Nat.le_of_ble_eq_true rfl), (Nat.le_of_ble_eq_true rfl)⟩) (fun r6 u4 H locs w5 hP hD hS => ?_)
  subst w5
  have hP : va_P K.1 classes [(a0, zO 10 83 (va_up g0 81 (.int 1)))] H := hP
  have hD : va_D A [(a0, zO 10 83 (va_up g0 81 (.int 1)))] := hD
  refine lv_if_ne (tgt := 54) hx hb dX12_pass_49 (by decide) (fun c => absurd (by decide) c) (fun _ => ?_)
  refine lv_iconst (v := 0) hx hb dX12_pass_52 (by decide) ?_
  have hP9 : va_P K.1 classes [(a0, zO 10 83 (va_up g0 81 (.int 1)))] H := hP.sub [0] rfl
  have hD9 : va_D A [(a0, zO 10 83 (va_up g0 81 (.int 1)))] := hD.sub [0] (by decide) rfl
  exact z_iret hx hb hr (fun _ => 0) rfl hP9 hD9 hS (Nat.le_of_ble_eq_true rfl) (Nat.le_of_ble_eq_true rfl) hlocks dX12_pass_53
set_option maxHeartbeats 4000000 in
set_option maxRecDepth 100000 in
theorem cX11_checkRange_11 (l : Launch) (K : zK) (sz : Nat) (a0 : Nat) (g0 : Nat → Value) (j0 : Nat) (hj0 : j0 < 9) : Met l yX11_checkRange (Cond.code yX11_checkRange cX11_checkRange 3 none :: WG) { frames := 0, cells := 0, slots := 0, locals := 0 } (zPre K [(a0, zO 9 9 g0)] sz [.ref a0, .int (nI j0), .int 9]) (va_Qv (fun _ : Nat → Nat => True) (zB K (va_A [(a0, zO 9 9 g0)] sz) (fun u : Nat → Nat => [(a0, zO 9 9 g0)])) (va_A [(a0, zO 9 9 g0)] sz)) 0 0 (va_A [(a0, zO 9 9 g0)] sz) := by
  refine z_met (Qc := fun A => (va_Qv (fun _ : Nat → Nat => True) (zB K A (fun u : Nat → Nat => [(a0, zO 9 9 g0)])) A)) (by decide +kernel) (Nat.le_of_ble_eq_true rfl) ?_
  intro p e s m args below meth c A ls H hx hb hr hg hown hlocks hml hin hK hP hD hA hS hZ hl
  have hown : s.vm.findClass RX11 = some m.cls := hown
  have hl : lv_has ls 3 [(0, .ref a0), (1, .int (nI j0)), (2, .int 9)] := hl
  refine lv_iload_n hx hb dX11_checkRange_0 rfl (lv_at hl 1 rfl) ?_
  refine lv_if_lt (tgt := 9) hx hb dX11_checkRange_1 (by decide) (fun c => absurd c ((by decide : ∀ j, j < 9 → ¬ ((nI j) < (0 : Int32))) j0 hj0)) (fun _ => ?_)
  refine lv_iload_n hx hb dX11_checkRange_4 rfl (lv_at hl 1 rfl) ?_
  refine lv_iload_n hx hb dX11_checkRange_5 rfl (lv_at hl 2 rfl) ?_
  refine lv_icmp_lt (tgt := 19) hx hb dX11_checkRange_6 (by decide) (fun _ => ?_) (fun c => absurd ((by decide : ∀ j, j < 9 → ((nI j) < (9 : Int32))) j0 hj0) c)
  have hP9 : va_P K.1 classes [(a0, zO 9 9 g0)] H := hP.sub [0] rfl
  have hD9 : va_D A [(a0, zO 9 9 g0)] := hD.sub [0] (by decide) rfl
  exact z_vret hx hb hr (fun _ => 0) trivial hP9 hD9 hS (Nat.le_of_ble_eq_true rfl) (Nat.le_of_ble_eq_true rfl) hlocks dX11_checkRange_19
set_option maxHeartbeats 4000000 in
set_option maxRecDepth 100000 in
theorem cX11_pass_2 (l : Launch) (hl9 : l.stackTraces = false) (K : zK) (sz : Nat) (a0 : Nat) (g0 : Nat → Value) (j0 : Nat) (hj0 : j0 < 9) (x1 : Int32) (e0 : x1 < (0 : Int32)) : vx_Met l yX11_pass (Cond.code yX11_pass cX11_pass 3 (some .int) :: WG) { frames := 7, cells := 1, slots := 6, locals := 104 } (zPre K [(a0, zO 9 9 g0)] sz [.ref a0, .int (nI j0), .int x1]) (va_Qv (fun _ : Unit => False) (fun _ _ => True) (va_A [(a0, zO 9 9 g0)] sz)) (zX (va_A [(a0, zO 9 9 g0)] sz) zIA) 1 6 (va_A [(a0, zO 9 9 g0)] sz) := by
  refine z_xmet (Qc := fun A => va_Qv (fun _ : Unit => False) (fun _ _ => True) A) (XC := fun A => zX A zIA) (by decide +kernel) (Nat.le_of_ble_eq_true rfl) ?_
  intro p e s m args below meth c A ls H hx hb hr hg hown hlocks hml hno hK hP hD hA hS hZ hl
  have hown : s.vm.findClass RX11 = some m.cls := hown
  have hl : lv_has ls 3 [(0, .ref a0), (1, .int (nI j0)), (2, .int x1)] := hl
  refine lv_aload_n hx hb dX11_pass_0 rfl (lv_at hl 0 rfl) ?_
  refine lv_iload_n hx hb dX11_pass_1 rfl (lv_at hl 1 rfl) ?_
  refine lv_bipush (v := 9) hx hb dX11_pass_2 (by decide) ?_
  refine z_callv [(a0, zO 9 9 g0)] [] [0] [] hP hD hS hA rfl rfl (by decide) (by decide) (by decide +kernel) 0 0 rfl rfl (fun hPc hDc hF => z_runV (As := [.int (nI j0), .int 9]) (rest := []) ⟨hx, hb, hml, hown, hg⟩ (cX11_checkRange_11 l K H.size a0 g0 j0 hj0) kV_RX11_72 hd_X11_checkRange rfl rfl ⟨(Nat.le_of_ble_eq_true rfl), (Nat.le_of_ble_eq_true rfl)⟩ hK hS hZ hPc hDc hF 0 rfl rfl rfl hl.1 rfl (Nat.le_of_ble_eq_true rfl) dX11_pass_4 ⟨(Nat.le_of_ble_eq_true rfl), (Nat.le_of_ble_eq_true rfl)⟩) (fun u1 H locs w2 hP hD hS => ?_)
  have hP : va_P K.1 classes [(a0, zO 9 9 g0)] H := hP
  have hD : va_D A [(a0, zO 9 9 g0)] := hD
  refine lv_aload_n hx hb dX11_pass_7 rfl (lv_at hl 0 rfl) ?_
  refine lv_iload_n hx hb dX11_pass_8 rfl (lv_at hl 2 rfl) ?_
  refine lv_bipush (v := 8) hx hb dX11_pass_9 (by decide) ?_
  refine z_xcall (EX := zIA) [(a0, zO 9 9 g0)] [0] hP hD hS hA rfl (by decide) 1 6 rfl rfl (fun hPc hDc hF => z_xrunV (As := [.int x1, .int 8]) (rest := []) ⟨hx, hb, hml, hown, hg⟩ (cX11_checkRange_4 l hl9 K H.size a0 g0 x1 e0) kV_RX11_72 hd_X11_checkRange rfl rfl ⟨(Nat.le_of_ble_eq_true rfl), (Nat.le_of_ble_eq_true rfl)⟩ hK hS hZ hPc hDc hF 0 rfl rfl rfl hl.1 rfl (Nat.le_of_ble_eq_true rfl) dX11_pass_11 ⟨(Nat.le_of_ble_eq_true rfl), (Nat.le_of_ble_eq_true rfl)⟩) (fun ce q9 H locs hS hce hcv hcl => ?_)
  exact z_xout hno hlocks hS hce hcv hcl (Nat.le_of_ble_eq_true rfl) (Nat.le_of_ble_eq_true rfl)
set_option maxHeartbeats 4000000 in
set_option maxRecDepth 100000 in
theorem cL_pass_2 (l : Launch) (hl9 : l.stackTraces = false) (K : zK) (sz : Nat) (a0 : Nat) (a1 : Nat) (g0 : Nat → Value) (j0 : Nat) (hj0 : j0 < 9) (x1 : Int32) (e0 : x1 < (0 : Int32)) : vx_Met l yL_pass (Cond.codeWith yL_pass cL_pass 5 (some .int) [(0, 10, 13, 18), (0, 10, 17, 13)] :: WG) { frames := 8, cells := 1, slots := 6, locals := 126 } (zPre K [(a0, zO 9 9 g0)] sz [.ref a0, .int (nI j0), .int x1, .ref a1]) (va_Qi (fun (r : Int32) (_ : Nat → Nat) => r = 1) (zB K (va_A [(a0, zO 9 9 g0)] sz) (fun u : Nat → Nat => [])) (va_A [(a0, zO 9 9 g0)] sz)) (vx_X (fun _ : Unit => False) (fun _ _ _ => True) (va_A [(a0, zO 9 9 g0)] sz)) 1 6 (va_A [(a0, zO 9 9 g0)] sz) := by
  refine z_hmet (Qc := fun A => (va_Qi (fun (r : Int32) (_ : Nat → Nat) => r = 1) (zB K A (fun u : Nat → Nat => [])) A)) (XC := fun A => vx_X (fun _ : Unit => False) (fun _ _ _ => True) A) (by decide +kernel) (Nat.le_of_ble_eq_true rfl) ?_
  intro p e s m args below meth c A ls H hx hb hr hg hown hlocks hml hTab hK hP hD hA hS hZ hl
  have hown : s.vm.findClass RL = some m.cls := hown
  have hl : lv_has ls 5 [(0, .ref a0), (1, .int (nI j0)), (2, .int x1), (3, .ref a1)] := hl
  refine lv_aload_n hx hb dL_pass_0 rfl (lv_at hl 3 rfl) ?_
  refine lv_iconst (v := 0) hx hb dL_pass_1 (by decide) ?_
  refine lv_aload_n hx hb dL_pass_2 rfl (lv_at hl 0 rfl) ?_
  refine lv_iload_n hx hb dL_pass_3 rfl (lv_at hl 1 rfl) ?_
  refine lv_iload_n hx hb dL_pass_4 rfl (lv_at hl 2 rfl) ?_
  refine z_xcall (EX := zIA) [(a0, zO 9 9 g0)] [0] hP hD hS hA rfl (by decide) 1 6 rfl rfl (fun hPc hDc hF => z_xrunV (As := [.int (nI j0), .int x1]) (rest := [.int 0, .ref a1]) ⟨hx, hb, hml, hown, hg⟩ (cX11_pass_2 l hl9 K H.size a0 g0 j0 hj0 x1 e0) kV_RL_70 hd_X11_pass rfl rfl ⟨(Nat.le_of_ble_eq_true rfl), (Nat.le_of_ble_eq_true rfl)⟩ hK hS hZ hPc hDc hF 0 rfl rfl rfl hl.1 rfl (Nat.le_of_ble_eq_true rfl) dL_pass_5 ⟨(Nat.le_of_ble_eq_true rfl), (Nat.le_of_ble_eq_true rfl)⟩) (fun ce q9 H locs hS hce hcv hcl => ?_)
  refine vx_catch (own := RL) (name := zIA) (E := zIA) hown [] ⟨0, 10, 13, 18⟩ [⟨0, 10, 17, 13⟩] (by rw [hTab]; rfl) (fun z hz => nomatch hz) (by decide) (by decide) (hg _ mt491) (va_Nw.use rfl hZ.1.1.2.1) hce hcv hcl ?_
  have hP : va_P K.1 classes [] H := z_P0
  have hD : va_D A [] := z_D0
  refine lv_astore (lv' := [(4, .ref q9), (0, .ref a0), (1, .int (nI j0)), (2, .int x1), (3, .ref a1)]) hx hb dL_pass_13 hl (by decide) rfl (fun ls hl => ?_)
  refine lv_iconst (v := 1) hx hb dL_pass_15 (by decide) ?_
  have hP9 : va_P K.1 classes [] H := hP.sub [] rfl
  have hD9 : va_D A [] := hD.sub [] (by decide) rfl
  exact z_iret hx hb hr (fun _ => 0) rfl hP9 hD9 hS (Nat.le_of_ble_eq_true rfl) (Nat.le_of_ble_eq_true rfl) hlocks dL_pass_16
set_option maxHeartbeats 4000000 in
set_option maxRecDepth 100000 in
theorem cX12_isIn_16 (l : Launch) (K : zK) (sz : Nat) (j0 : Nat) (hj0 : j0 < 9) : Met l yX12_isIn (Cond.code yX12_isIn cX12_isIn 3 (some .boolean) :: WG) { frames := 0, cells := 0, slots := 0, locals := 0 } (zPre K [] sz [.int (nI j0), .int 0, .int 8]) (va_Qi (fun (r : Int32) (_ : Nat → Nat) => r = 1) (zB K (va_A [] sz) (fun u : Nat → Nat => [])) (va_A [] sz)) 0 0 (va_A [] sz) := by
  refine z_met (Qc := fun A => (va_Qi (fun (r : Int32) (_ : Nat → Nat) => r = 1) (zB K A (fun u : Nat → Nat => [])) A)) (by decide +kernel) (Nat.le_of_ble_eq_true rfl) ?_
  intro p e s m args below meth c A ls H hx hb hr hg hown hlocks hml hin hK hP hD hA hS hZ hl
  have hown : s.vm.findClass RX12 = some m.cls := hown
  have hl : lv_has ls 3 [(0, .int (nI j0)), (1, .int 0), (2, .int 8)] := hl
  refine lv_iload_n hx hb dX12_isIn_0 rfl (lv_at hl 0 rfl) ?_
  refine lv_iload_n hx hb dX12_isIn_1 rfl (lv_at hl 1 rfl) ?_
  refine lv_icmp_lt (tgt := 14) hx hb dX12_isIn_2 (by decide) (fun c => absurd c ((by decide : ∀ j, j < 9 → ¬ ((nI j) < (0 : Int32))) j0 hj0)) (fun _ => ?_)
  refine lv_iload_n hx hb dX12_isIn_5 rfl (lv_at hl 0 rfl) ?_
  refine lv_iload_n hx hb dX12_isIn_6 rfl (lv_at hl 2 rfl) ?_
  refine lv_icmp_gt (tgt := 14) hx hb dX12_isIn_7 (by decide) (fun c => absurd c ((by decide : ∀ j, j < 9 → ¬ ((8 : Int32) < (nI j))) j0 hj0)) (fun _ => ?_)
  refine lv_iconst (v := 1) hx hb dX12_isIn_10 (by decide) ?_
  refine lv_goto (tgt := 15) hx hb dX12_isIn_11 (by decide) ?_
  have hP9 : va_P K.1 classes [] H := hP.sub [] rfl
  have hD9 : va_D A [] := hD.sub [] (by decide) rfl
  exact z_zret hx hb hr rfl (fun _ => 0) rfl hP9 hD9 hS (Nat.le_of_ble_eq_true rfl) (Nat.le_of_ble_eq_true rfl) hlocks dX12_isIn_15
set_option maxHeartbeats 4000000 in
set_option maxRecDepth 100000 in
theorem cX12_pass_2 (l : Launch) (K : zK) (sz : Nat) (a0 : Nat) (g0 : Nat → Value) (j0 : Nat) (hj0 : j0 < 9) (x1 : Int32) (e0 : x1 < (0 : Int32)) : Met l yX12_pass (Cond.code yX12_pass cX12_pass 6 (some .int) :: WG) { frames := 2, cells := 0, slots := 0, locals := 42 } (zPre K [(a0, zO 10 83 g0)] sz [.ref a0, .int (nI j0), .int x1]) (va_Qi (fun (r : Int32) (_ : Nat → Nat) => r = 0) (zB K (va_A [(a0, zO 10 83 g0)] sz) (fun u : Nat → Nat => [(a0, zO 10 83 (va_up g0 81 (.int 1)))])) (va_A [(a0, zO 10 83 g0)] sz)) 0 0 (va_A [(a0, zO 10 83 g0)] sz) := by
  refine z_met (Qc := fun A => (va_Qi (fun (r : Int32) (_ : Nat → Nat) => r = 0) (zB K A (fun u : Nat → Nat => [(a0, zO 10 83 (va_up g0 81 (.int 1)))])) A)) (by decide +kernel) (Nat.le_of_ble_eq_true rfl) ?_
  intro p e s m args below meth c A ls H hx hb hr hg hown hlocks hml hin hK hP hD hA hS hZ hl
  have hown : s.vm.findClass RX12 = some m.cls := hown
  have hl : lv_has ls 6 [(0, .ref a0), (1, .int (nI j0)), (2, .int x1)] := hl
  refine lv_iload_n hx hb dX12_pass_0 rfl (lv_at hl 1 rfl) ?_
  refine lv_iconst (v := 0) hx hb dX12_pass_1 (by decide) ?_
  refine lv_bipush (v := 8) hx hb dX12_pass_2 (by decide) ?_
  refine z_calli [] [(a0, zO 10 83 g0)] [] [0] hP hD hS hA rfl rfl (by decide) (by decide) (by decide +kernel) 0 0 rfl rfl (fun hPc hDc hF => z_runS (As := [.int (nI j0), .int 0, .int 8]) (rest := []) ⟨hx, hb, hml, hown, hg⟩ (cX12_isIn_16 l K H.size j0 hj0) kS_RX12_175 hd_X12_isIn rfl rfl ⟨(Nat.le_of_ble_eq_true rfl), (Nat.le_of_ble_eq_true rfl)⟩ hK hS hZ hPc hDc hF rfl hl.1 rfl (Nat.le_of_ble_eq_true rfl) dX12_pass_4 ⟨(Nat.le_of_ble_eq_true rfl), (Nat.le_of_ble_eq_true rfl)⟩) (fun r3 u1 H locs w2 hP hD hS => ?_)
  subst w2
  have hP : va_P K.1 classes [(a0, zO 10 83 g0)] H := hP
  have hD : va_D A [(a0, zO 10 83 g0)] := hD
  refine lv_if_eq (tgt := 21) hx hb dX12_pass_7 (by decide) (fun c => absurd c (by decide)) (fun _ => ?_)
  refine lv_iload_n hx hb dX12_pass_10 rfl (lv_at hl 2 rfl) ?_
  refine z_calli [] [(a0, zO 10 83 g0)] [] [0] hP hD hS hA rfl rfl (by decide) (by decide) (by decide +kernel) 0 0 rfl rfl (fun hPc hDc hF => z_runS (As := [.int x1]) (rest := []) ⟨hx, hb, hml, hown, hg⟩ (cX12_isGlobal_1 l K H.size x1 e0) kS_RX12_197 hd_X12_isGlobal rfl rfl ⟨(Nat.le_of_ble_eq_true rfl), (Nat.le_of_ble_eq_true rfl)⟩ hK hS hZ hPc hDc hF rfl hl.1 rfl (Nat.le_of_ble_eq_true rfl) dX12_pass_11 ⟨(Nat.le_of_ble_eq_true rfl), (Nat.le_of_ble_eq_true rfl)⟩) (fun r6 u4 H locs w5 hP hD hS => ?_)
  subst w5
  have hP : va_P K.1 classes [(a0, zO 10 83 g0)] H := hP
  have hD : va_D A [(a0, zO 10 83 g0)] := hD
  refine lv_if_eq (tgt := 21) hx hb dX12_pass_14 (by decide) (fun _ => ?_) (fun c => absurd (by decide) c)
  refine lv_iconst (v := 0) hx hb dX12_pass_21 (by decide) ?_
  refine lv_istore_n (lv' := [(3, .int 0), (0, .ref a0), (1, .int (nI j0)), (2, .int x1)]) hx hb dX12_pass_22 rfl hl (by decide) rfl (fun ls hl => ?_)
  refine lv_aload_n hx hb dX12_pass_23 rfl (lv_at hl 1 rfl) ?_
  refine lv_iload_n hx hb dX12_pass_24 rfl (lv_at hl 0 rfl) ?_
  refine lv_if_ne (tgt := 32) hx hb dX12_pass_25 (by decide) (fun c => absurd (by decide) c) (fun _ => ?_)
  refine lv_iconst (v := 1) hx hb dX12_pass_28 (by decide) ?_
  refine lv_goto (tgt := 46) hx hb dX12_pass_29 (by decide) ?_
  refine z_calli [(a0, zO 10 83 g0)] [] [0] [] hP hD hS hA rfl rfl (by decide) (by decide) (by decide +kernel) 0 0 rfl rfl (fun hPc hDc hF => z_runV (As := [.int 1]) (rest := []) ⟨hx, hb, hml, hown, hg⟩ (cX12_can_2 l K H.size a0 g0) kV_RX12_182 hd_X12_can rfl rfl ⟨(Nat.le_of_ble_eq_true rfl), (Nat.le_of_ble_eq_true rfl)⟩ hK hS hZ hPc hDc hF 0 rfl rfl rfl hl.1 rfl (Nat.le_of_ble_eq_true rfl) dX12_pass_46 ⟨(Nat.le_of_ble_eq_true rfl), (Nat.le_of_ble_eq_true rfl)⟩) (fun r9 u7 H locs w8 hP hD hS => ?_)
  subst w8
  have hP : va_P K.1 classes [(a0, zO 10 83 (va_up g0 81 (.int 1)))] H := hP
  have hD : va_D A [(a0, zO 10 83 (va_up g0 81 (.int 1)))] := hD
  refine lv_if_ne (tgt := 54) hx hb dX12_pass_49 (by decide) (fun c => absurd (by decide) c) (fun _ => ?_)
  refine lv_iconst (v := 0) hx hb dX12_pass_52 (by decide) ?_
  have hP9 : va_P K.1 classes [(a0, zO 10 83 (va_up g0 81 (.int 1)))] H := hP.sub [0] rfl
  have hD9 : va_D A [(a0, zO 10 83 (va_up g0 81 (.int 1)))] := hD.sub [0] (by decide) rfl
  exact z_iret hx hb hr (fun _ => 0) rfl hP9 hD9 hS (Nat.le_of_ble_eq_true rfl) (Nat.le_of_ble_eq_true rfl) hlocks dX12_pass_53
set_option maxHeartbeats 4000000 in
set_option maxRecDepth 100000 in
theorem cX5_sizeOf_1 (l : Launch) (K : zK) (sz : Nat) (a0 : Nat) (a1 : Nat) (g0 : Nat → Value) (f1 : Nat → Int32) (j0 : Nat) (hj0 : j0 < 8) (e0 : g0 1 = (.ref a1)) (e1 : ∀ j : Nat, f1 j = 0) : Met l yX5_sizeOf (Cond.code yX5_sizeOf cX5_sizeOf 2 (some .int) :: WG) { frames := 0, cells := 0, slots := 0, locals := 0 } (zPre K [(a0, zO 4 6 g0), (a1, zI K 8 f1)] sz [.ref a0, .int (nI j0)]) (va_Qi (fun (r : Int32) (_ : Nat → Nat) => r = 0) (zB K (va_A [(a0, zO 4 6 g0), (a1, zI K 8 f1)] sz) (fun u : Nat → Nat => [(a0, zO 4 6 g0), (a1, zI K 8 f1)])) (va_A [(a0, zO 4 6 g0), (a1, zI K 8 f1)] sz)) 0 0 (va_A [(a0, zO 4 6 g0), (a1, zI K 8 f1)] sz) := by
  refine z_met (Qc := fun A => (va_Qi (fun (r : Int32) (_ : Nat → Nat) => r = 0) (zB K A (fun u : Nat → Nat => [(a0, zO 4 6 g0), (a1, zI K 8 f1)])) A)) (by decide +kernel) (Nat.le_of_ble_eq_true rfl) ?_
  intro p e s m args below meth c A ls H hx hb hr hg hown hlocks hml hin hK hP hD hA hS hZ hl
  have hown : s.vm.findClass RX5 = some m.cls := hown
  have hl : lv_has ls 2 [(0, .ref a0), (1, .int (nI j0))] := hl
  refine lv_iload_n hx hb dX5_sizeOf_0 rfl (lv_at hl 1 rfl) ?_
  refine lv_if_lt (tgt := 19) hx hb dX5_sizeOf_1 (by decide) (fun c => absurd c ((by decide : ∀ j, j < 8 → ¬ ((nI j) < (0 : Int32))) j0 hj0)) (fun _ => ?_)
  refine lv_iload_n hx hb dX5_sizeOf_4 rfl (lv_at hl 1 rfl) ?_
  refine lv_bipush (v := 8) hx hb dX5_sizeOf_5 (by decide) ?_
  refine lv_icmp_ge (tgt := 19) hx hb dX5_sizeOf_7 (by decide) (fun c => absurd c ((by decide : ∀ j, j < 8 → ¬ ((8 : Int32) ≤ (nI j))) j0 hj0)) (fun _ => ?_)
  refine lv_aload_n hx hb dX5_sizeOf_10 rfl (lv_at hl 0 rfl) ?_
  refine z_get (v := .ref a1) hx hb hg hown hK hP i_X5 rfl 0 rfl 1 (by decide) mt74 e0 dX5_sizeOf_11 ?_
  refine lv_iload_n hx hb dX5_sizeOf_14 rfl (lv_at hl 1 rfl) ?_
  refine z_iald (v := 0) (j := j0) hx hb hK hP 1 rfl rfl (Nat.lt_of_lt_of_le hj0 (Nat.le_of_ble_eq_true rfl)) (Nat.le_of_ble_eq_true rfl) (e1 j0) dX5_sizeOf_15 ?_
  refine lv_goto (tgt := 20) hx hb dX5_sizeOf_16 (by decide) ?_
  have hP9 : va_P K.1 classes [(a0, zO 4 6 g0), (a1, zI K 8 f1)] H := hP.sub [0, 1] rfl
  have hD9 : va_D A [(a0, zO 4 6 g0), (a1, zI K 8 f1)] := hD.sub [0, 1] (by decide) rfl
  exact z_iret hx hb hr (fun _ => 0) rfl hP9 hD9 hS (Nat.le_of_ble_eq_true rfl) (Nat.le_of_ble_eq_true rfl) hlocks dX5_sizeOf_20
set_option maxHeartbeats 4000000 in
set_option maxRecDepth 100000 in
theorem cX11_pass_3 (l : Launch) (hl9 : l.stackTraces = false) (K : zK) (sz : Nat) (a0 : Nat) (a1 : Nat) (a2 : Nat) (g0 : Nat → Value) (g1 : Nat → Value) (f2 : Nat → Int32) (j0 : Nat) (hj0 : j0 < 9) (j1 : Nat) (hj1 : j1 < 8) (e0 : g0 3 = (.ref a1)) (e1 : g1 1 = (.ref a2)) (e2 : ∀ j : Nat, f2 j = 0) : vx_Met l yX11_pass (Cond.code yX11_pass cX11_pass 3 (some .int) :: WG) { frames := 6, cells := 1, slots := 6, locals := 82 } (zPre K [(a0, zO 9 9 g0), (a1, zO 4 6 g1), (a2, zI K 8 f2)] sz [.ref a0, .int (nI j0), .int (nI j1)]) (va_Qv (fun _ : Unit => False) (fun _ _ => True) (va_A [(a0, zO 9 9 g0), (a1, zO 4 6 g1), (a2, zI K 8 f2)] sz)) (zX (va_A [(a0, zO 9 9 g0), (a1, zO 4 6 g1), (a2, zI K 8 f2)] sz) zIS) 1 6 (va_A [(a0, zO 9 9 g0), (a1, zO 4 6 g1), (a2, zI K 8 f2)] sz) := by
  refine z_xmet (Qc := fun A => va_Qv (fun _ : Unit => False) (fun _ _ => True) A) (XC := fun A => zX A zIS) (by decide +kernel) (Nat.le_of_ble_eq_true rfl) ?_
  intro p e s m args below meth c A ls H hx hb hr hg hown hlocks hml hno hK hP hD hA hS hZ hl
  have hown : s.vm.findClass RX11 = some m.cls := hown
  have hl : lv_has ls 3 [(0, .ref a0), (1, .int (nI j0)), (2, .int (nI j1))] := hl
  refine lv_aload_n hx hb dX11_pass_0 rfl (lv_at hl 0 rfl) ?_
  refine lv_iload_n hx hb dX11_pass_1 rfl (lv_at hl 1 rfl) ?_
  refine lv_bipush (v := 9) hx hb dX11_pass_2 (by decide) ?_
  refine z_callv [(a0, zO 9 9 g0)] [(a1, zO 4 6 g1), (a2, zI K 8 f2)] [0] [1, 2] hP hD hS hA rfl rfl (by decide) (by decide) (by decide +kernel) 0 0 rfl rfl (fun hPc hDc hF => z_runV (As := [.int (nI j0), .int 9]) (rest := []) ⟨hx, hb, hml, hown, hg⟩ (cX11_checkRange_11 l K H.size a0 g0 j0 hj0) kV_RX11_72 hd_X11_checkRange rfl rfl ⟨(Nat.le_of_ble_eq_true rfl), (Nat.le_of_ble_eq_true rfl)⟩ hK hS hZ hPc hDc hF 0 rfl rfl rfl hl.1 rfl (Nat.le_of_ble_eq_true rfl) dX11_pass_4 ⟨(Nat.le_of_ble_eq_true rfl), (Nat.le_of_ble_eq_true rfl)⟩) (fun u1 H locs w2 hP hD hS => ?_)
  have hP : va_P K.1 classes [(a1, zO 4 6 g1), (a2, zI K 8 f2), (a0, zO 9 9 g0)] H := hP
  have hD : va_D A [(a1, zO 4 6 g1), (a2, zI K 8 f2), (a0, zO 9 9 g0)] := hD
  refine lv_aload_n hx hb dX11_pass_7 rfl (lv_at hl 0 rfl) ?_
  refine lv_iload_n hx hb dX11_pass_8 rfl (lv_at hl 2 rfl) ?_
  refine lv_bipush (v := 8) hx hb dX11_pass_9 (by decide) ?_
  refine z_callv [(a0, zO 9 9 g0)] [(a1, zO 4 6 g1), (a2, zI K 8 f2)] [2] [0, 1] hP hD hS hA rfl rfl (by decide) (by decide) (by decide +kernel) 0 0 rfl rfl (fun hPc hDc hF => z_runV (As := [.int (nI j1), .int 8]) (rest := []) ⟨hx, hb, hml, hown, hg⟩ (cX11_checkRange_5 l K H.size a0 g0 j1 hj1) kV_RX11_72 hd_X11_checkRange rfl rfl ⟨(Nat.le_of_ble_eq_true rfl), (Nat.le_of_ble_eq_true rfl)⟩ hK hS hZ hPc hDc hF 0 rfl rfl rfl hl.1 rfl (Nat.le_of_ble_eq_true rfl) dX11_pass_11 ⟨(Nat.le_of_ble_eq_true rfl), (Nat.le_of_ble_eq_true rfl)⟩) (fun u4 H locs w5 hP hD hS => ?_)
  have hP : va_P K.1 classes [(a1, zO 4 6 g1), (a2, zI K 8 f2), (a0, zO 9 9 g0)] H := hP
  have hD : va_D A [(a1, zO 4 6 g1), (a2, zI K 8 f2), (a0, zO 9 9 g0)] := hD
  refine lv_aload_n hx hb dX11_pass_14 rfl (lv_at hl 0 rfl) ?_
  refine z_get (v := .ref a1) hx hb hg hown hK hP i_X11 rfl 2 rfl 3 (by decide) mt307 e0 dX11_pass_15 ?_
  refine lv_iload_n hx hb dX11_pass_18 rfl (lv_at hl 2 rfl) ?_
  refine z_calli [(a1, zO 4 6 g1), (a2, zI K 8 f2)] [(a0, zO 9 9 g0)] [0, 1] [2] hP hD hS hA rfl rfl (by decide) (by decide) (by decide +kernel) 0 0 rfl rfl (fun hPc hDc hF => z_runV (As := [.int (nI j1)]) (rest := []) ⟨hx, hb, hml, hown, hg⟩ (cX5_sizeOf_1 l K H.size a1 a2 g1 f2 j1 hj1 e1 e2) kV_RX11_103 hd_X5_sizeOf rfl rfl ⟨(Nat.le_of_ble_eq_true rfl), (Nat.le_of_ble_eq_true rfl)⟩ hK hS hZ hPc hDc hF 0 rfl rfl rfl hl.1 rfl (Nat.le_of_ble_eq_true rfl) dX11_pass_19 ⟨(Nat.le_of_ble_eq_true rfl), (Nat.le_of_ble_eq_true rfl)⟩) (fun r9 u7 H locs w8 hP hD hS => ?_)
  subst w8
  have hP : va_P K.1 classes [(a0, zO 9 9 g0), (a1, zO 4 6 g1), (a2, zI K 8 f2)] H := hP
  have hD : va_D A [(a0, zO 9 9 g0), (a1, zO 4 6 g1), (a2, zI K 8 f2)] := hD
  refine lv_if_ne (tgt := 35) hx hb dX11_pass_22 (by decide) (fun c => absurd (by decide) c) (fun _ => ?_)
  exact z_throw (ik := 89) (is := 124) (ic := 93) hx hb hl9 hg hown (by decide +kernel) mt403 mt14 hZ.1.2.2.2.2.1 (at_zIS hg hZ) ok_zIS hZ hS hl.1 hml dX11_pass_25 dX11_pass_28 dX11_pass_29 dX11_pass_31 dX11_pass_34 hno hlocks (Nat.le_of_ble_eq_true rfl) (Nat.le_of_ble_eq_true rfl) (Nat.le_of_ble_eq_true rfl) (Nat.le_of_ble_eq_true rfl) (Nat.le_of_ble_eq_true rfl) (Nat.le_of_ble_eq_true rfl)
set_option maxHeartbeats 4000000 in
set_option maxRecDepth 100000 in
theorem cL_pass_3 (l : Launch) (hl9 : l.stackTraces = false) (K : zK) (sz : Nat) (a0 : Nat) (a1 : Nat) (a2 : Nat) (a3 : Nat) (g0 : Nat → Value) (g2 : Nat → Value) (f3 : Nat → Int32) (j0 : Nat) (hj0 : j0 < 9) (j1 : Nat) (hj1 : j1 < 8) (e0 : g0 3 = (.ref a2)) (e1 : g2 1 = (.ref a3)) (e2 : ∀ j : Nat, f3 j = 0) : vx_Met l yL_pass (Cond.codeWith yL_pass cL_pass 5 (some .int) [(0, 10, 13, 18), (0, 10, 17, 13)] :: WG) { frames := 7, cells := 1, slots := 6, locals := 104 } (zPre K [(a0, zO 9 9 g0), (a2, zO 4 6 g2), (a3, zI K 8 f3)] sz [.ref a0, .int (nI j0), .int (nI j1), .ref a1]) (va_Qi (fun (r : Int32) (_ : Nat → Nat) => r = 2) (zB K (va_A [(a0, zO 9 9 g0), (a2, zO 4 6 g2), (a3, zI K 8 f3)] sz) (fun u : Nat → Nat => [])) (va_A [(a0, zO 9 9 g0), (a2, zO 4 6 g2), (a3, zI K 8 f3)] sz)) (vx_X (fun _ : Unit => False) (fun _ _ _ => True) (va_A [(a0, zO 9 9 g0), (a2, zO 4 6 g2), (a3, zI K 8 f3)] sz)) 1 6 (va_A [(a0, zO 9 9 g0), (a2, zO 4 6 g2), (a3, zI K 8 f3)] sz) := by
  refine z_hmet (Qc := fun A => (va_Qi (fun (r : Int32) (_ : Nat → Nat) => r = 2) (zB K A (fun u : Nat → Nat => [])) A)) (XC := fun A => vx_X (fun _ : Unit => False) (fun _ _ _ => True) A) (by decide +kernel) (Nat.le_of_ble_eq_true rfl) ?_
  intro p e s m args below meth c A ls H hx hb hr hg hown hlocks hml hTab hK hP hD hA hS hZ hl
  have hown : s.vm.findClass RL = some m.cls := hown
  have hl : lv_has ls 5 [(0, .ref a0), (1, .int (nI j0)), (2, .int (nI j1)), (3, .ref a1)] := hl
  refine lv_aload_n hx hb dL_pass_0 rfl (lv_at hl 3 rfl) ?_
  refine lv_iconst (v := 0) hx hb dL_pass_1 (by decide) ?_
  refine lv_aload_n hx hb dL_pass_2 rfl (lv_at hl 0 rfl) ?_
  refine lv_iload_n hx hb dL_pass_3 rfl (lv_at hl 1 rfl) ?_
  refine lv_iload_n hx hb dL_pass_4 rfl (lv_at hl 2 rfl) ?_
  refine z_xcall (EX := zIS) [(a0, zO 9 9 g0), (a2, zO 4 6 g2), (a3, zI K 8 f3)] [0, 1, 2] hP hD hS hA rfl (by decide) 1 6 rfl rfl (fun hPc hDc hF => z_xrunV (As := [.int (nI j0), .int (nI j1)]) (rest := [.int 0, .ref a1]) ⟨hx, hb, hml, hown, hg⟩ (cX11_pass_3 l hl9 K H.size a0 a2 a3 g0 g2 f3 j0 hj0 j1 hj1 e0 e1 e2) kV_RL_70 hd_X11_pass rfl rfl ⟨(Nat.le_of_ble_eq_true rfl), (Nat.le_of_ble_eq_true rfl)⟩ hK hS hZ hPc hDc hF 0 rfl rfl rfl hl.1 rfl (Nat.le_of_ble_eq_true rfl) dL_pass_5 ⟨(Nat.le_of_ble_eq_true rfl), (Nat.le_of_ble_eq_true rfl)⟩) (fun ce q9 H locs hS hce hcv hcl => ?_)
  refine vx_catch (own := RL) (name := zIS) (E := zIS) hown [⟨0, 10, 13, 18⟩] ⟨0, 10, 17, 13⟩ [] (by rw [hTab]; rfl) (zP1 (Or.inr ⟨by decide, zIA, hg _ mt491, hZ.1.2.1.2.2.1⟩) zP0) (by decide) (by decide) (hg _ mt393) (va_Nw.use rfl hZ.1.1.2.2.1) hce hcv hcl ?_
  have hP : va_P K.1 classes [] H := z_P0
  have hD : va_D A [] := z_D0
  refine lv_astore (lv' := [(4, .ref q9), (0, .ref a0), (1, .int (nI j0)), (2, .int (nI j1)), (3, .ref a1)]) hx hb dL_pass_17 hl (by decide) rfl (fun ls hl => ?_)
  refine lv_iconst (v := 2) hx hb dL_pass_19 (by decide) ?_
  have hP9 : va_P K.1 classes [] H := hP.sub [] rfl
  have hD9 : va_D A [] := hD.sub [] (by decide) rfl
  exact z_iret hx hb hr (fun _ => 0) rfl hP9 hD9 hS (Nat.le_of_ble_eq_true rfl) (Nat.le_of_ble_eq_true rfl) hlocks dL_pass_20
set_option maxHeartbeats 4000000 in
set_option maxRecDepth 100000 in
theorem cX12_pass_3 (l : Launch) (K : zK) (sz : Nat) (a0 : Nat) (a1 : Nat) (g0 : Nat → Value) (f1 : Nat → Int32) (j0 : Nat) (hj0 : j0 < 9) (j1 : Nat) (hj1 : j1 < 8) (e0 : g0 14 = (.ref a1)) (e1 : ∀ j : Nat, f1 j = 0) : Met l yX12_pass (Cond.code yX12_pass cX12_pass 6 (some .int) :: WG) { frames := 2, cells := 0, slots := 0, locals := 42 } (zPre K [(a0, zO 10 83 g0), (a1, zI K 16 f1)] sz [.ref a0, .int (nI j0), .int (nI j1)]) (va_Qi (fun (r : Int32) (_ : Nat → Nat) => r = 0) (zB K (va_A [(a0, zO 10 83 g0), (a1, zI K 16 f1)] sz) (fun u : Nat → Nat => [(a0, zO 10 83 (va_up g0 81 (.int 2)))])) (va_A [(a0, zO 10 83 g0), (a1, zI K 16 f1)] sz)) 0 0 (va_A [(a0, zO 10 83 g0), (a1, zI K 16 f1)] sz) := by
  refine z_met (Qc := fun A => (va_Qi (fun (r : Int32) (_ : Nat → Nat) => r = 0) (zB K A (fun u : Nat → Nat => [(a0, zO 10 83 (va_up g0 81 (.int 2)))])) A)) (by decide +kernel) (Nat.le_of_ble_eq_true rfl) ?_
  intro p e s m args below meth c A ls H hx hb hr hg hown hlocks hml hin hK hP hD hA hS hZ hl
  have hown : s.vm.findClass RX12 = some m.cls := hown
  have hl : lv_has ls 6 [(0, .ref a0), (1, .int (nI j0)), (2, .int (nI j1))] := hl
  refine lv_iload_n hx hb dX12_pass_0 rfl (lv_at hl 1 rfl) ?_
  refine lv_iconst (v := 0) hx hb dX12_pass_1 (by decide) ?_
  refine lv_bipush (v := 8) hx hb dX12_pass_2 (by decide) ?_
  refine z_calli [] [(a0, zO 10 83 g0), (a1, zI K 16 f1)] [] [0, 1] hP hD hS hA rfl rfl (by decide) (by decide) (by decide +kernel) 0 0 rfl rfl (fun hPc hDc hF => z_runS (As := [.int (nI j0), .int 0, .int 8]) (rest := []) ⟨hx, hb, hml, hown, hg⟩ (cX12_isIn_16 l K H.size j0 hj0) kS_RX12_175 hd_X12_isIn rfl rfl ⟨(Nat.le_of_ble_eq_true rfl), (Nat.le_of_ble_eq_true rfl)⟩ hK hS hZ hPc hDc hF rfl hl.1 rfl (Nat.le_of_ble_eq_true rfl) dX12_pass_4 ⟨(Nat.le_of_ble_eq_true rfl), (Nat.le_of_ble_eq_true rfl)⟩) (fun r3 u1 H locs w2 hP hD hS => ?_)
  subst w2
  have hP : va_P K.1 classes [(a0, zO 10 83 g0), (a1, zI K 16 f1)] H := hP
  have hD : va_D A [(a0, zO 10 83 g0), (a1, zI K 16 f1)] := hD
  refine lv_if_eq (tgt := 21) hx hb dX12_pass_7 (by decide) (fun c => absurd c (by decide)) (fun _ => ?_)
  refine lv_iload_n hx hb dX12_pass_10 rfl (lv_at hl 2 rfl) ?_
  refine z_calli [] [(a0, zO 10 83 g0), (a1, zI K 16 f1)] [] [0, 1] hP hD hS hA rfl rfl (by decide) (by decide) (by decide +kernel) 0 0 rfl rfl (fun hPc hDc hF => z_runS (As := [.int (nI j1)]) (rest := []) ⟨hx, hb, hml, hown, hg⟩ (cX12_isGlobal_2 l K H.size j1 hj1) kS_RX12_197 hd_X12_isGlobal rfl rfl ⟨(Nat.le_of_ble_eq_true rfl), (Nat.le_of_ble_eq_true rfl)⟩ hK hS hZ hPc hDc hF rfl hl.1 rfl (Nat.le_of_ble_eq_true rfl) dX12_pass_11 ⟨(Nat.le_of_ble_eq_true rfl), (Nat.le_of_ble_eq_true rfl)⟩) (fun r6 u4 H locs w5 hP hD hS => ?_)
  subst w5
  have hP : va_P K.1 classes [(a0, zO 10 83 g0), (a1, zI K 16 f1)] H := hP
  have hD : va_D A [(a0, zO 10 83 g0), (a1, zI K 16 f1)] := hD
  refine lv_if_eq (tgt := 21) hx hb dX12_pass_14 (by decide) (fun c => absurd c (by decide)) (fun _ => ?_)
  refine lv_iconst (v := 1) hx hb dX12_pass_17 (by decide) ?_
  refine lv_goto (tgt := 22) hx hb dX12_pass_18 (by decide) ?_
  refine lv_istore_n (lv' := [(3, .int 1), (0, .ref a0), (1, .int (nI j0)), (2, .int (nI j1))]) hx hb dX12_pass_22 rfl hl (by decide) rfl (fun ls hl => ?_)
  refine lv_aload_n hx hb dX12_pass_23 rfl (lv_at hl 1 rfl) ?_
  refine lv_iload_n hx hb dX12_pass_24 rfl (lv_at hl 0 rfl) ?_
  refine lv_if_ne (tgt := 32) hx hb dX12_pass_25 (by decide) (fun _ => ?_) (fun c => absurd c (by decide))
  refine lv_aload_n hx hb dX12_pass_32 rfl (lv_at hl 1 rfl) ?_
  refine z_get (v := .ref a1) hx hb hg hown hK hP i_X12 rfl 0 rfl 14 (by decide) mt1294 e0 dX12_pass_33 ?_
  refine lv_iload_n hx hb dX12_pass_36 rfl (lv_at hl 3 rfl) ?_
  refine z_iald (v := 0) (j := j1) hx hb hK hP 1 rfl rfl (Nat.lt_of_lt_of_le hj1 (Nat.le_of_ble_eq_true rfl)) (Nat.le_of_ble_eq_true rfl) (e1 j1) dX12_pass_37 ?_
  refine lv_if_ne (tgt := 45) hx hb dX12_pass_38 (by decide) (fun c => absurd (by decide) c) (fun _ => ?_)
  refine lv_iconst (v := 2) hx hb dX12_pass_41 (by decide) ?_
  refine lv_goto (tgt := 46) hx hb dX12_pass_42 (by decide) ?_
  refine z_calli [(a0, zO 10 83 g0)] [(a1, zI K 16 f1)] [0] [1] hP hD hS hA rfl rfl (by decide) (by decide) (by decide +kernel) 0 0 rfl rfl (fun hPc hDc hF => z_runV (As := [.int 2]) (rest := []) ⟨hx, hb, hml, hown, hg⟩ (cX12_can_3 l K H.size a0 g0) kV_RX12_182 hd_X12_can rfl rfl ⟨(Nat.le_of_ble_eq_true rfl), (Nat.le_of_ble_eq_true rfl)⟩ hK hS hZ hPc hDc hF 0 rfl rfl rfl hl.1 rfl (Nat.le_of_ble_eq_true rfl) dX12_pass_46 ⟨(Nat.le_of_ble_eq_true rfl), (Nat.le_of_ble_eq_true rfl)⟩) (fun r9 u7 H locs w8 hP hD hS => ?_)
  subst w8
  have hP : va_P K.1 classes [(a1, zI K 16 f1), (a0, zO 10 83 (va_up g0 81 (.int 2)))] H := hP
  have hD : va_D A [(a1, zI K 16 f1), (a0, zO 10 83 (va_up g0 81 (.int 2)))] := hD
  refine lv_if_ne (tgt := 54) hx hb dX12_pass_49 (by decide) (fun c => absurd (by decide) c) (fun _ => ?_)
  refine lv_iconst (v := 0) hx hb dX12_pass_52 (by decide) ?_
  have hP9 : va_P K.1 classes [(a0, zO 10 83 (va_up g0 81 (.int 2)))] H := hP.sub [1] rfl
  have hD9 : va_D A [(a0, zO 10 83 (va_up g0 81 (.int 2)))] := hD.sub [1] (by decide) rfl
  exact z_iret hx hb hr (fun _ => 0) rfl hP9 hD9 hS (Nat.le_of_ble_eq_true rfl) (Nat.le_of_ble_eq_true rfl) hlocks dX12_pass_53
set_option maxHeartbeats 4000000 in
set_option maxRecDepth 100000 in
theorem cX11_pass_4 (l : Launch) (hl9 : l.stackTraces = false) (K : zK) (sz : Nat) (a0 : Nat) (g0 : Nat → Value) (j0 : Nat) (hj0 : j0 < 9) (x1 : Int32) (e0 : ¬ x1 < (0 : Int32)) (e1 : ¬ x1 < (8 : Int32)) : vx_Met l yX11_pass (Cond.code yX11_pass cX11_pass 3 (some .int) :: WG) { frames := 7, cells := 1, slots := 6, locals := 104 } (zPre K [(a0, zO 9 9 g0)] sz [.ref a0, .int (nI j0), .int x1]) (va_Qv (fun _ : Unit => False) (fun _ _ => True) (va_A [(a0, zO 9 9 g0)] sz)) (zX (va_A [(a0, zO 9 9 g0)] sz) zIA) 1 6 (va_A [(a0, zO 9 9 g0)] sz) := by
  refine z_xmet (Qc := fun A => va_Qv (fun _ : Unit => False) (fun _ _ => True) A) (XC := fun A => zX A zIA) (by decide +kernel) (Nat.le_of_ble_eq_true rfl) ?_
  intro p e s m args below meth c A ls H hx hb hr hg hown hlocks hml hno hK hP hD hA hS hZ hl
  have hown : s.vm.findClass RX11 = some m.cls := hown
  have hl : lv_has ls 3 [(0, .ref a0), (1, .int (nI j0)), (2, .int x1)] := hl
  refine lv_aload_n hx hb dX11_pass_0 rfl (lv_at hl 0 rfl) ?_
  refine lv_iload_n hx hb dX11_pass_1 rfl (lv_at hl 1 rfl) ?_
  refine lv_bipush (v := 9) hx hb dX11_pass_2 (by decide) ?_
  refine z_callv [(a0, zO 9 9 g0)] [] [0] [] hP hD hS hA rfl rfl (by decide) (by decide) (by decide +kernel) 0 0 rfl rfl (fun hPc hDc hF => z_runV (As := [.int (nI j0), .int 9]) (rest := []) ⟨hx, hb, hml, hown, hg⟩ (cX11_checkRange_11 l K H.size a0 g0 j0 hj0) kV_RX11_72 hd_X11_checkRange rfl rfl ⟨(Nat.le_of_ble_eq_true rfl), (Nat.le_of_ble_eq_true rfl)⟩ hK hS hZ hPc hDc hF 0 rfl rfl rfl hl.1 rfl (Nat.le_of_ble_eq_true rfl) dX11_pass_4 ⟨(Nat.le_of_ble_eq_true rfl), (Nat.le_of_ble_eq_true rfl)⟩) (fun u1 H locs w2 hP hD hS => ?_)
  have hP : va_P K.1 classes [(a0, zO 9 9 g0)] H := hP
  have hD : va_D A [(a0, zO 9 9 g0)] := hD
  refine lv_aload_n hx hb dX11_pass_7 rfl (lv_at hl 0 rfl) ?_
  refine lv_iload_n hx hb dX11_pass_8 rfl (lv_at hl 2 rfl) ?_
  refine lv_bipush (v := 8) hx hb dX11_pass_9 (by decide) ?_
  refine z_xcall (EX := zIA) [(a0, zO 9 9 g0)] [0] hP hD hS hA rfl (by decide) 1 6 rfl rfl (fun hPc hDc hF => z_xrunV (As := [.int x1, .int 8]) (rest := []) ⟨hx, hb, hml, hown, hg⟩ (cX11_checkRange_6 l hl9 K H.size a0 g0 x1 e0 e1) kV_RX11_72 hd_X11_checkRange rfl rfl ⟨(Nat.le_of_ble_eq_true rfl), (Nat.le_of_ble_eq_true rfl)⟩ hK hS hZ hPc hDc hF 0 rfl rfl rfl hl.1 rfl (Nat.le_of_ble_eq_true rfl) dX11_pass_11 ⟨(Nat.le_of_ble_eq_true rfl), (Nat.le_of_ble_eq_true rfl)⟩) (fun ce q9 H locs hS hce hcv hcl => ?_)
  exact z_xout hno hlocks hS hce hcv hcl (Nat.le_of_ble_eq_true rfl) (Nat.le_of_ble_eq_true rfl)
set_option maxHeartbeats 4000000 in
set_option maxRecDepth 100000 in
theorem cL_pass_4 (l : Launch) (hl9 : l.stackTraces = false) (K : zK) (sz : Nat) (a0 : Nat) (a1 : Nat) (g0 : Nat → Value) (j0 : Nat) (hj0 : j0 < 9) (x1 : Int32) (e0 : ¬ x1 < (0 : Int32)) (e1 : ¬ x1 < (8 : Int32)) : vx_Met l yL_pass (Cond.codeWith yL_pass cL_pass 5 (some .int) [(0, 10, 13, 18), (0, 10, 17, 13)] :: WG) { frames := 8, cells := 1, slots := 6, locals := 126 } (zPre K [(a0, zO 9 9 g0)] sz [.ref a0, .int (nI j0), .int x1, .ref a1]) (va_Qi (fun (r : Int32) (_ : Nat → Nat) => r = 1) (zB K (va_A [(a0, zO 9 9 g0)] sz) (fun u : Nat → Nat => [])) (va_A [(a0, zO 9 9 g0)] sz)) (vx_X (fun _ : Unit => False) (fun _ _ _ => True) (va_A [(a0, zO 9 9 g0)] sz)) 1 6 (va_A [(a0, zO 9 9 g0)] sz) := by
  refine z_hmet (Qc := fun A => (va_Qi (fun (r : Int32) (_ : Nat → Nat) => r = 1) (zB K A (fun u : Nat → Nat => [])) A)) (XC := fun A => vx_X (fun _ : Unit => False) (fun _ _ _ => True) A) (by decide +kernel) (Nat.le_of_ble_eq_true rfl) ?_
  intro p e s m args below meth c A ls H hx hb hr hg hown hlocks hml hTab hK hP hD hA hS hZ hl
  have hown : s.vm.findClass RL = some m.cls := hown
  have hl : lv_has ls 5 [(0, .ref a0), (1, .int (nI j0)), (2, .int x1), (3, .ref a1)] := hl
  refine lv_aload_n hx hb dL_pass_0 rfl (lv_at hl 3 rfl) ?_
  refine lv_iconst (v := 0) hx hb dL_pass_1 (by decide) ?_
  refine lv_aload_n hx hb dL_pass_2 rfl (lv_at hl 0 rfl) ?_
  refine lv_iload_n hx hb dL_pass_3 rfl (lv_at hl 1 rfl) ?_
  refine lv_iload_n hx hb dL_pass_4 rfl (lv_at hl 2 rfl) ?_
  refine z_xcall (EX := zIA) [(a0, zO 9 9 g0)] [0] hP hD hS hA rfl (by decide) 1 6 rfl rfl (fun hPc hDc hF => z_xrunV (As := [.int (nI j0), .int x1]) (rest := [.int 0, .ref a1]) ⟨hx, hb, hml, hown, hg⟩ (cX11_pass_4 l hl9 K H.size a0 g0 j0 hj0 x1 e0 e1) kV_RL_70 hd_X11_pass rfl rfl ⟨(Nat.le_of_ble_eq_true rfl), (Nat.le_of_ble_eq_true rfl)⟩ hK hS hZ hPc hDc hF 0 rfl rfl rfl hl.1 rfl (Nat.le_of_ble_eq_true rfl) dL_pass_5 ⟨(Nat.le_of_ble_eq_true rfl), (Nat.le_of_ble_eq_true rfl)⟩) (fun ce q9 H locs hS hce hcv hcl => ?_)
  refine vx_catch (own := RL) (name := zIA) (E := zIA) hown [] ⟨0, 10, 13, 18⟩ [⟨0, 10, 17, 13⟩] (by rw [hTab]; rfl) (fun z hz => nomatch hz) (by decide) (by decide) (hg _ mt491) (va_Nw.use rfl hZ.1.1.2.1) hce hcv hcl ?_
  have hP : va_P K.1 classes [] H := z_P0
  have hD : va_D A [] := z_D0
  refine lv_astore (lv' := [(4, .ref q9), (0, .ref a0), (1, .int (nI j0)), (2, .int x1), (3, .ref a1)]) hx hb dL_pass_13 hl (by decide) rfl (fun ls hl => ?_)
  refine lv_iconst (v := 1) hx hb dL_pass_15 (by decide) ?_
  have hP9 : va_P K.1 classes [] H := hP.sub [] rfl
  have hD9 : va_D A [] := hD.sub [] (by decide) rfl
  exact z_iret hx hb hr (fun _ => 0) rfl hP9 hD9 hS (Nat.le_of_ble_eq_true rfl) (Nat.le_of_ble_eq_true rfl) hlocks dL_pass_16
set_option maxHeartbeats 4000000 in
set_option maxRecDepth 100000 in
theorem cX12_pass_4 (l : Launch) (K : zK) (sz : Nat) (a0 : Nat) (g0 : Nat → Value) (j0 : Nat) (hj0 : j0 < 9) (x1 : Int32) (e0 : ¬ x1 < (0 : Int32)) (e1 : (7 : Int32) < x1) : Met l yX12_pass (Cond.code yX12_pass cX12_pass 6 (some .int) :: WG) { frames := 2, cells := 0, slots := 0, locals := 42 } (zPre K [(a0, zO 10 83 g0)] sz [.ref a0, .int (nI j0), .int x1]) (va_Qi (fun (r : Int32) (_ : Nat → Nat) => r = 0) (zB K (va_A [(a0, zO 10 83 g0)] sz) (fun u : Nat → Nat => [(a0, zO 10 83 (va_up g0 81 (.int 1)))])) (va_A [(a0, zO 10 83 g0)] sz)) 0 0 (va_A [(a0, zO 10 83 g0)] sz) := by
  refine z_met (Qc := fun A => (va_Qi (fun (r : Int32) (_ : Nat → Nat) => r = 0) (zB K A (fun u : Nat → Nat => [(a0, zO 10 83 (va_up g0 81 (.int 1)))])) A)) (by decide +kernel) (Nat.le_of_ble_eq_true rfl) ?_
  intro p e s m args below meth c A ls H hx hb hr hg hown hlocks hml hin hK hP hD hA hS hZ hl
  have hown : s.vm.findClass RX12 = some m.cls := hown
  have hl : lv_has ls 6 [(0, .ref a0), (1, .int (nI j0)), (2, .int x1)] := hl
  refine lv_iload_n hx hb dX12_pass_0 rfl (lv_at hl 1 rfl) ?_
  refine lv_iconst (v := 0) hx hb dX12_pass_1 (by decide) ?_
  refine lv_bipush (v := 8) hx hb dX12_pass_2 (by decide) ?_
  refine z_calli [] [(a0, zO 10 83 g0)] [] [0] hP hD hS hA rfl rfl (by decide) (by decide) (by decide +kernel) 0 0 rfl rfl (fun hPc hDc hF => z_runS (As := [.int (nI j0), .int 0, .int 8]) (rest := []) ⟨hx, hb, hml, hown, hg⟩ (cX12_isIn_16 l K H.size j0 hj0) kS_RX12_175 hd_X12_isIn rfl rfl ⟨(Nat.le_of_ble_eq_true rfl), (Nat.le_of_ble_eq_true rfl)⟩ hK hS hZ hPc hDc hF rfl hl.1 rfl (Nat.le_of_ble_eq_true rfl) dX12_pass_4 ⟨(Nat.le_of_ble_eq_true rfl), (Nat.le_of_ble_eq_true rfl)⟩) (fun r3 u1 H locs w2 hP hD hS => ?_)
  subst w2
  have hP : va_P K.1 classes [(a0, zO 10 83 g0)] H := hP
  have hD : va_D A [(a0, zO 10 83 g0)] := hD
  refine lv_if_eq (tgt := 21) hx hb dX12_pass_7 (by decide) (fun c => absurd c (by decide)) (fun _ => ?_)
  refine lv_iload_n hx hb dX12_pass_10 rfl (lv_at hl 2 rfl) ?_
  refine z_calli [] [(a0, zO 10 83 g0)] [] [0] hP hD hS hA rfl rfl (by decide) (by decide) (by decide +kernel) 0 0 rfl rfl (fun hPc hDc hF => z_runS (As := [.int x1]) (rest := []) ⟨hx, hb, hml, hown, hg⟩ (cX12_isGlobal_3 l K H.size x1 e0 e1) kS_RX12_197 hd_X12_isGlobal rfl rfl ⟨(Nat.le_of_ble_eq_true rfl), (Nat.le_of_ble_eq_true rfl)⟩ hK hS hZ hPc hDc hF rfl hl.1 rfl (Nat.le_of_ble_eq_true rfl) dX12_pass_11 ⟨(Nat.le_of_ble_eq_true rfl), (Nat.le_of_ble_eq_true rfl)⟩) (fun r6 u4 H locs w5 hP hD hS => ?_)
  subst w5
  have hP : va_P K.1 classes [(a0, zO 10 83 g0)] H := hP
  have hD : va_D A [(a0, zO 10 83 g0)] := hD
  refine lv_if_eq (tgt := 21) hx hb dX12_pass_14 (by decide) (fun _ => ?_) (fun c => absurd (by decide) c)
  refine lv_iconst (v := 0) hx hb dX12_pass_21 (by decide) ?_
  refine lv_istore_n (lv' := [(3, .int 0), (0, .ref a0), (1, .int (nI j0)), (2, .int x1)]) hx hb dX12_pass_22 rfl hl (by decide) rfl (fun ls hl => ?_)
  refine lv_aload_n hx hb dX12_pass_23 rfl (lv_at hl 1 rfl) ?_
  refine lv_iload_n hx hb dX12_pass_24 rfl (lv_at hl 0 rfl) ?_
  refine lv_if_ne (tgt := 32) hx hb dX12_pass_25 (by decide) (fun c => absurd (by decide) c) (fun _ => ?_)
  refine lv_iconst (v := 1) hx hb dX12_pass_28 (by decide) ?_
  refine lv_goto (tgt := 46) hx hb dX12_pass_29 (by decide) ?_
  refine z_calli [(a0, zO 10 83 g0)] [] [0] [] hP hD hS hA rfl rfl (by decide) (by decide) (by decide +kernel) 0 0 rfl rfl (fun hPc hDc hF => z_runV (As := [.int 1]) (rest := []) ⟨hx, hb, hml, hown, hg⟩ (cX12_can_2 l K H.size a0 g0) kV_RX12_182 hd_X12_can rfl rfl ⟨(Nat.le_of_ble_eq_true rfl), (Nat.le_of_ble_eq_true rfl)⟩ hK hS hZ hPc hDc hF 0 rfl rfl rfl hl.1 rfl (Nat.le_of_ble_eq_true rfl) dX12_pass_46 ⟨(Nat.le_of_ble_eq_true rfl), (Nat.le_of_ble_eq_true rfl)⟩) (fun r9 u7 H locs w8 hP hD hS => ?_)
  subst w8
  have hP : va_P K.1 classes [(a0, zO 10 83 (va_up g0 81 (.int 1)))] H := hP
  have hD : va_D A [(a0, zO 10 83 (va_up g0 81 (.int 1)))] := hD
  refine lv_if_ne (tgt := 54) hx hb dX12_pass_49 (by decide) (fun c => absurd (by decide) c) (fun _ => ?_)
  refine lv_iconst (v := 0) hx hb dX12_pass_52 (by decide) ?_
  have hP9 : va_P K.1 classes [(a0, zO 10 83 (va_up g0 81 (.int 1)))] H := hP.sub [0] rfl
  have hD9 : va_D A [(a0, zO 10 83 (va_up g0 81 (.int 1)))] := hD.sub [0] (by decide) rfl
  exact z_iret hx hb hr (fun _ => 0) rfl hP9 hD9 hS (Nat.le_of_ble_eq_true rfl) (Nat.le_of_ble_eq_true rfl) hlocks dX12_pass_53
set_option maxHeartbeats 4000000 in
set_option maxRecDepth 100000 in
theorem cX11_checkRange_12 (l : Launch) (hl9 : l.stackTraces = false) (K : zK) (sz : Nat) (a0 : Nat) (g0 : Nat → Value) (x0 : Int32) (e0 : ¬ x0 < (0 : Int32)) (e1 : ¬ x0 < (9 : Int32)) : vx_Met l yX11_checkRange (Cond.code yX11_checkRange cX11_checkRange 3 none :: WG) { frames := 6, cells := 1, slots := 6, locals := 82 } (zPre K [(a0, zO 9 9 g0)] sz [.ref a0, .int x0, .int 9]) (va_Qv (fun _ : Unit => False) (fun _ _ => True) (va_A [(a0, zO 9 9 g0)] sz)) (zX (va_A [(a0, zO 9 9 g0)] sz) zIA) 1 6 (va_A [(a0, zO 9 9 g0)] sz) := by
  refine z_xmet (Qc := fun A => va_Qv (fun _ : Unit => False) (fun _ _ => True) A) (XC := fun A => zX A zIA) (by decide +kernel) (Nat.le_of_ble_eq_true rfl) ?_
  intro p e s m args below meth c A ls H hx hb hr hg hown hlocks hml hno hK hP hD hA hS hZ hl
  have hown : s.vm.findClass RX11 = some m.cls := hown
  have hl : lv_has ls 3 [(0, .ref a0), (1, .int x0), (2, .int 9)] := hl
  refine lv_iload_n hx hb dX11_checkRange_0 rfl (lv_at hl 1 rfl) ?_
  refine lv_if_lt (tgt := 9) hx hb dX11_checkRange_1 (by decide) (fun c => absurd c e0) (fun _ => ?_)
  refine lv_iload_n hx hb dX11_checkRange_4 rfl (lv_at hl 1 rfl) ?_
  refine lv_iload_n hx hb dX11_checkRange_5 rfl (lv_at hl 2 rfl) ?_
  refine lv_icmp_lt (tgt := 19) hx hb dX11_checkRange_6 (by decide) (fun c => absurd c e1) (fun _ => ?_)
  exact z_throw (ik := 82) (is := 183) (ic := 86) hx hb hl9 hg hown (by decide +kernel) mt500 mt16 hZ.1.2.2.1 (at_zIA hg hZ) ok_zIA hZ hS hl.1 hml dX11_checkRange_9 dX11_checkRange_12 dX11_checkRange_13 dX11_checkRange_15 dX11_checkRange_18 hno hlocks (Nat.le_of_ble_eq_true rfl) (Nat.le_of_ble_eq_true rfl) (Nat.le_of_ble_eq_true rfl) (Nat.le_of_ble_eq_true rfl) (Nat.le_of_ble_eq_true rfl) (Nat.le_of_ble_eq_true rfl)
set_option maxHeartbeats 4000000 in
set_option maxRecDepth 100000 in
theorem cX11_pass_5 (l : Launch) (hl9 : l.stackTraces = false) (K : zK) (sz : Nat) (a0 : Nat) (g0 : Nat → Value) (x0 : Int32) (x1 : Int32) (e0 : ¬ x0 < (0 : Int32)) (e1 : ¬ x0 < (9 : Int32)) : vx_Met l yX11_pass (Cond.code yX11_pass cX11_pass 3 (some .int) :: WG) { frames := 7, cells := 1, slots := 6, locals := 104 } (zPre K [(a0, zO 9 9 g0)] sz [.ref a0, .int x0, .int x1]) (va_Qv (fun _ : Unit => False) (fun _ _ => True) (va_A [(a0, zO 9 9 g0)] sz)) (zX (va_A [(a0, zO 9 9 g0)] sz) zIA) 1 6 (va_A [(a0, zO 9 9 g0)] sz) := by
  refine z_xmet (Qc := fun A => va_Qv (fun _ : Unit => False) (fun _ _ => True) A) (XC := fun A => zX A zIA) (by decide +kernel) (Nat.le_of_ble_eq_true rfl) ?_
  intro p e s m args below meth c A ls H hx hb hr hg hown hlocks hml hno hK hP hD hA hS hZ hl
  have hown : s.vm.findClass RX11 = some m.cls := hown
  have hl : lv_has ls 3 [(0, .ref a0), (1, .int x0), (2, .int x1)] := hl
  refine lv_aload_n hx hb dX11_pass_0 rfl (lv_at hl 0 rfl) ?_
  refine lv_iload_n hx hb dX11_pass_1 rfl (lv_at hl 1 rfl) ?_
  refine lv_bipush (v := 9) hx hb dX11_pass_2 (by decide) ?_
  refine z_xcall (EX := zIA) [(a0, zO 9 9 g0)] [0] hP hD hS hA rfl (by decide) 1 6 rfl rfl (fun hPc hDc hF => z_xrunV (As := [.int x0, .int 9]) (rest := []) ⟨hx, hb, hml, hown, hg⟩ (cX11_checkRange_12 l hl9 K H.size a0 g0 x0 e0 e1) kV_RX11_72 hd_X11_checkRange rfl rfl ⟨(Nat.le_of_ble_eq_true rfl), (Nat.le_of_ble_eq_true rfl)⟩ hK hS hZ hPc hDc hF 0 rfl rfl rfl hl.1 rfl (Nat.le_of_ble_eq_true rfl) dX11_pass_4 ⟨(Nat.le_of_ble_eq_true rfl), (Nat.le_of_ble_eq_true rfl)⟩) (fun ce q9 H locs hS hce hcv hcl => ?_)
  exact z_xout hno hlocks hS hce hcv hcl (Nat.le_of_ble_eq_true rfl) (Nat.le_of_ble_eq_true rfl)
set_option maxHeartbeats 4000000 in
set_option maxRecDepth 100000 in
theorem cL_pass_5 (l : Launch) (hl9 : l.stackTraces = false) (K : zK) (sz : Nat) (a0 : Nat) (a1 : Nat) (g0 : Nat → Value) (x0 : Int32) (x1 : Int32) (e0 : ¬ x0 < (0 : Int32)) (e1 : ¬ x0 < (9 : Int32)) : vx_Met l yL_pass (Cond.codeWith yL_pass cL_pass 5 (some .int) [(0, 10, 13, 18), (0, 10, 17, 13)] :: WG) { frames := 8, cells := 1, slots := 6, locals := 126 } (zPre K [(a0, zO 9 9 g0)] sz [.ref a0, .int x0, .int x1, .ref a1]) (va_Qi (fun (r : Int32) (_ : Nat → Nat) => r = 1) (zB K (va_A [(a0, zO 9 9 g0)] sz) (fun u : Nat → Nat => [])) (va_A [(a0, zO 9 9 g0)] sz)) (vx_X (fun _ : Unit => False) (fun _ _ _ => True) (va_A [(a0, zO 9 9 g0)] sz)) 1 6 (va_A [(a0, zO 9 9 g0)] sz) := by
  refine z_hmet (Qc := fun A => (va_Qi (fun (r : Int32) (_ : Nat → Nat) => r = 1) (zB K A (fun u : Nat → Nat => [])) A)) (XC := fun A => vx_X (fun _ : Unit => False) (fun _ _ _ => True) A) (by decide +kernel) (Nat.le_of_ble_eq_true rfl) ?_
  intro p e s m args below meth c A ls H hx hb hr hg hown hlocks hml hTab hK hP hD hA hS hZ hl
  have hown : s.vm.findClass RL = some m.cls := hown
  have hl : lv_has ls 5 [(0, .ref a0), (1, .int x0), (2, .int x1), (3, .ref a1)] := hl
  refine lv_aload_n hx hb dL_pass_0 rfl (lv_at hl 3 rfl) ?_
  refine lv_iconst (v := 0) hx hb dL_pass_1 (by decide) ?_
  refine lv_aload_n hx hb dL_pass_2 rfl (lv_at hl 0 rfl) ?_
  refine lv_iload_n hx hb dL_pass_3 rfl (lv_at hl 1 rfl) ?_
  refine lv_iload_n hx hb dL_pass_4 rfl (lv_at hl 2 rfl) ?_
  refine z_xcall (EX := zIA) [(a0, zO 9 9 g0)] [0] hP hD hS hA rfl (by decide) 1 6 rfl rfl (fun hPc hDc hF => z_xrunV (As := [.int x0, .int x1]) (rest := [.int 0, .ref a1]) ⟨hx, hb, hml, hown, hg⟩ (cX11_pass_5 l hl9 K H.size a0 g0 x0 x1 e0 e1) kV_RL_70 hd_X11_pass rfl rfl ⟨(Nat.le_of_ble_eq_true rfl), (Nat.le_of_ble_eq_true rfl)⟩ hK hS hZ hPc hDc hF 0 rfl rfl rfl hl.1 rfl (Nat.le_of_ble_eq_true rfl) dL_pass_5 ⟨(Nat.le_of_ble_eq_true rfl), (Nat.le_of_ble_eq_true rfl)⟩) (fun ce q9 H locs hS hce hcv hcl => ?_)
  refine vx_catch (own := RL) (name := zIA) (E := zIA) hown [] ⟨0, 10, 13, 18⟩ [⟨0, 10, 17, 13⟩] (by rw [hTab]; rfl) (fun z hz => nomatch hz) (by decide) (by decide) (hg _ mt491) (va_Nw.use rfl hZ.1.1.2.1) hce hcv hcl ?_
  have hP : va_P K.1 classes [] H := z_P0
  have hD : va_D A [] := z_D0
  refine lv_astore (lv' := [(4, .ref q9), (0, .ref a0), (1, .int x0), (2, .int x1), (3, .ref a1)]) hx hb dL_pass_13 hl (by decide) rfl (fun ls hl => ?_)
  refine lv_iconst (v := 1) hx hb dL_pass_15 (by decide) ?_
  have hP9 : va_P K.1 classes [] H := hP.sub [] rfl
  have hD9 : va_D A [] := hD.sub [] (by decide) rfl
  exact z_iret hx hb hr (fun _ => 0) rfl hP9 hD9 hS (Nat.le_of_ble_eq_true rfl) (Nat.le_of_ble_eq_true rfl) hlocks dL_pass_16
set_option maxHeartbeats 4000000 in
set_option maxRecDepth 100000 in
theorem cX12_isIn_17 (l : Launch) (K : zK) (sz : Nat) (x0 : Int32) (e0 : ¬ x0 < (0 : Int32)) (e1 : (8 : Int32) < x0) : Met l yX12_isIn (Cond.code yX12_isIn cX12_isIn 3 (some .boolean) :: WG) { frames := 0, cells := 0, slots := 0, locals := 0 } (zPre K [] sz [.int x0, .int 0, .int 8]) (va_Qi (fun (r : Int32) (_ : Nat → Nat) => r = 0) (zB K (va_A [] sz) (fun u : Nat → Nat => [])) (va_A [] sz)) 0 0 (va_A [] sz) := by
  refine z_met (Qc := fun A => (va_Qi (fun (r : Int32) (_ : Nat → Nat) => r = 0) (zB K A (fun u : Nat → Nat => [])) A)) (by decide +kernel) (Nat.le_of_ble_eq_true rfl) ?_
  intro p e s m args below meth c A ls H hx hb hr hg hown hlocks hml hin hK hP hD hA hS hZ hl
  have hown : s.vm.findClass RX12 = some m.cls := hown
  have hl : lv_has ls 3 [(0, .int x0), (1, .int 0), (2, .int 8)] := hl
  refine lv_iload_n hx hb dX12_isIn_0 rfl (lv_at hl 0 rfl) ?_
  refine lv_iload_n hx hb dX12_isIn_1 rfl (lv_at hl 1 rfl) ?_
  refine lv_icmp_lt (tgt := 14) hx hb dX12_isIn_2 (by decide) (fun c => absurd c e0) (fun _ => ?_)
  refine lv_iload_n hx hb dX12_isIn_5 rfl (lv_at hl 0 rfl) ?_
  refine lv_iload_n hx hb dX12_isIn_6 rfl (lv_at hl 2 rfl) ?_
  refine lv_icmp_gt (tgt := 14) hx hb dX12_isIn_7 (by decide) (fun _ => ?_) (fun c => absurd e1 c)
  refine lv_iconst (v := 0) hx hb dX12_isIn_14 (by decide) ?_
  have hP9 : va_P K.1 classes [] H := hP.sub [] rfl
  have hD9 : va_D A [] := hD.sub [] (by decide) rfl
  exact z_zret hx hb hr rfl (fun _ => 0) rfl hP9 hD9 hS (Nat.le_of_ble_eq_true rfl) (Nat.le_of_ble_eq_true rfl) hlocks dX12_isIn_15
set_option maxHeartbeats 4000000 in
set_option maxRecDepth 100000 in
theorem cX12_pass_5 (l : Launch) (K : zK) (sz : Nat) (a0 : Nat) (g0 : Nat → Value) (x0 : Int32) (x1 : Int32) (e0 : ¬ x0 < (0 : Int32)) (e1 : (8 : Int32) < x0) : Met l yX12_pass (Cond.code yX12_pass cX12_pass 6 (some .int) :: WG) { frames := 1, cells := 0, slots := 0, locals := 22 } (zPre K [(a0, zO 10 83 g0)] sz [.ref a0, .int x0, .int x1]) (va_Qi (fun (r : Int32) (_ : Nat → Nat) => r = 0) (zB K (va_A [(a0, zO 10 83 g0)] sz) (fun u : Nat → Nat => [(a0, zO 10 83 (va_up g0 81 (.int 1)))])) (va_A [(a0, zO 10 83 g0)] sz)) 0 0 (va_A [(a0, zO 10 83 g0)] sz) := by
  refine z_met (Qc := fun A => (va_Qi (fun (r : Int32) (_ : Nat → Nat) => r = 0) (zB K A (fun u : Nat → Nat => [(a0, zO 10 83 (va_up g0 81 (.int 1)))])) A)) (by decide +kernel) (Nat.le_of_ble_eq_true rfl) ?_
  intro p e s m args below meth c A ls H hx hb hr hg hown hlocks hml hin hK hP hD hA hS hZ hl
  have hown : s.vm.findClass RX12 = some m.cls := hown
  have hl : lv_has ls 6 [(0, .ref a0), (1, .int x0), (2, .int x1)] := hl
  refine lv_iload_n hx hb dX12_pass_0 rfl (lv_at hl 1 rfl) ?_
  refine lv_iconst (v := 0) hx hb dX12_pass_1 (by decide) ?_
  refine lv_bipush (v := 8) hx hb dX12_pass_2 (by decide) ?_
  refine z_calli [] [(a0, zO 10 83 g0)] [] [0] hP hD hS hA rfl rfl (by decide) (by decide) (by decide +kernel) 0 0 rfl rfl (fun hPc hDc hF => z_runS (As := [.int x0, .int 0, .int 8]) (rest := []) ⟨hx, hb, hml, hown, hg⟩ (cX12_isIn_17 l K H.size x0 e0 e1) kS_RX12_175 hd_X12_isIn rfl rfl ⟨(Nat.le_of_ble_eq_true rfl), (Nat.le_of_ble_eq_true rfl)⟩ hK hS hZ hPc hDc hF rfl hl.1 rfl (Nat.le_of_ble_eq_true rfl) dX12_pass_4 ⟨(Nat.le_of_ble_eq_true rfl), (Nat.le_of_ble_eq_true rfl)⟩) (fun r3 u1 H locs w2 hP hD hS => ?_)
  subst w2
  have hP : va_P K.1 classes [(a0, zO 10 83 g0)] H := hP
  have hD : va_D A [(a0, zO 10 83 g0)] := hD
  refine lv_if_eq (tgt := 21) hx hb dX12_pass_7 (by decide) (fun _ => ?_) (fun c => absurd (by decide) c)
  refine lv_iconst (v := 0) hx hb dX12_pass_21 (by decide) ?_
  refine lv_istore_n (lv' := [(3, .int 0), (0, .ref a0), (1, .int x0), (2, .int x1)]) hx hb dX12_pass_22 rfl hl (by decide) rfl (fun ls hl => ?_)
  refine lv_aload_n hx hb dX12_pass_23 rfl (lv_at hl 1 rfl) ?_
  refine lv_iload_n hx hb dX12_pass_24 rfl (lv_at hl 0 rfl) ?_
  refine lv_if_ne (tgt := 32) hx hb dX12_pass_25 (by decide) (fun c => absurd (by decide) c) (fun _ => ?_)
  refine lv_iconst (v := 1) hx hb dX12_pass_28 (by decide) ?_
  refine lv_goto (tgt := 46) hx hb dX12_pass_29 (by decide) ?_
  refine z_calli [(a0, zO 10 83 g0)] [] [0] [] hP hD hS hA rfl rfl (by decide) (by decide) (by decide +kernel) 0 0 rfl rfl (fun hPc hDc hF => z_runV (As := [.int 1]) (rest := []) ⟨hx, hb, hml, hown, hg⟩ (cX12_can_2 l K H.size a0 g0) kV_RX12_182 hd_X12_can rfl rfl ⟨(Nat.le_of_ble_eq_true rfl), (Nat.le_of_ble_eq_true rfl)⟩ hK hS hZ hPc hDc hF 0 rfl rfl rfl hl.1 rfl (Nat.le_of_ble_eq_true rfl) dX12_pass_46 ⟨(Nat.le_of_ble_eq_true rfl), (Nat.le_of_ble_eq_true rfl)⟩) (fun r6 u4 H locs w5 hP hD hS => ?_)
  subst w5
  have hP : va_P K.1 classes [(a0, zO 10 83 (va_up g0 81 (.int 1)))] H := hP
  have hD : va_D A [(a0, zO 10 83 (va_up g0 81 (.int 1)))] := hD
  refine lv_if_ne (tgt := 54) hx hb dX12_pass_49 (by decide) (fun c => absurd (by decide) c) (fun _ => ?_)
  refine lv_iconst (v := 0) hx hb dX12_pass_52 (by decide) ?_
  have hP9 : va_P K.1 classes [(a0, zO 10 83 (va_up g0 81 (.int 1)))] H := hP.sub [0] rfl
  have hD9 : va_D A [(a0, zO 10 83 (va_up g0 81 (.int 1)))] := hD.sub [0] (by decide) rfl
  exact z_iret hx hb hr (fun _ => 0) rfl hP9 hD9 hS (Nat.le_of_ble_eq_true rfl) (Nat.le_of_ble_eq_true rfl) hlocks dX12_pass_53
