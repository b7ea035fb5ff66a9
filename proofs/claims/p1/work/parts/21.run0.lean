/-! calls of the law's cases [19] (printed by wip/p1/walk.py) -/
set_option maxHeartbeats 4000000 in
set_option maxRecDepth 100000 in
theorem cX11_checkRange_13 (l : Launch) (hl9 : l.stackTraces = false) (K : zK) (sz : Nat) (a0 : Nat) (g0 : Nat → Value) (x0 : Int32) (e0 : x0 < (0 : Int32)) : vx_Met l yX11_checkRange (Cond.code yX11_checkRange cX11_checkRange 3 none :: WG) { frames := 6, cells := 1, slots := 6, locals := 82 } (zPre K [(a0, zO 9 9 g0)] sz [.ref a0, .int x0, .int 601]) (va_Qv (fun _ : Unit => False) (fun _ _ => True) (va_A [(a0, zO 9 9 g0)] sz)) (zX (va_A [(a0, zO 9 9 g0)] sz) zIA) 1 6 (va_A [(a0, zO 9 9 g0)] sz) := by
  refine z_xmet (Qc := fun A => va_Qv (fun _ : Unit => False) (fun _ _ => True) A) (XC := fun A => zX A zIA) (by decide +kernel) (Nat.le_of_ble_eq_true rfl) ?_
  intro p e s m args below meth c A ls H hx hb hr hg hown hlocks hml hno hK hP hD hA hS hZ hl
  have hown : s.vm.findClass RX11 = some m.cls := hown
  have hl : lv_has ls 3 [(0, .ref a0), (1, .int x0), (2, .int 601)] := hl
  refine lv_iload_n hx hb dX11_checkRange_0 rfl (lv_at hl 1 rfl) ?_
  refine lv_if_lt (tgt := 9) hx hb dX11_checkRange_1 (by decide) (fun _ => ?_) (fun c => absurd e0 c)
  exact z_throw (ik := 82) (is := 183) (ic := 86) hx hb hl9 hg hown (by decide +kernel) mt500 mt16 hZ.1.2.2.1 (at_zIA hg hZ) ok_zIA hZ hS hl.1 hml dX11_checkRange_9 dX11_checkRange_12 dX11_checkRange_13 dX11_checkRange_15 dX11_checkRange_18 hno hlocks (Nat.le_of_ble_eq_true rfl) (Nat.le_of_ble_eq_true rfl) (Nat.le_of_ble_eq_true rfl) (Nat.le_of_ble_eq_true rfl) (Nat.le_of_ble_eq_true rfl) (Nat.le_of_ble_eq_true rfl)
set_option maxHeartbeats 4000000 in
set_option maxRecDepth 100000 in
theorem cX11_run_1 (l : Launch) (hl9 : l.stackTraces = false) (K : zK) (sz : Nat) (a0 : Nat) (g0 : Nat → Value) (x0 : Int32) (x1 : Int32) (x2 : Int32) (x3 : Int32) (x4 : Int32) (e0 : x4 < (0 : Int32)) : vx_Met l yX11_run (Cond.code yX11_run cX11_run 9 (some .int) :: WG) { frames := 7, cells := 1, slots := 6, locals := 104 } (zPre K [(a0, zO 9 9 g0)] sz [.ref a0, .int x0, .int x1, .int x2, .int x3, .int x4, .int 0]) (va_Qv (fun _ : Unit => False) (fun _ _ => True) (va_A [(a0, zO 9 9 g0)] sz)) (zX (va_A [(a0, zO 9 9 g0)] sz) zIA) 1 6 (va_A [(a0, zO 9 9 g0)] sz) := by
  refine z_xmet (Qc := fun A => va_Qv (fun _ : Unit => False) (fun _ _ => True) A) (XC := fun A => zX A zIA) (by decide +kernel) (Nat.le_of_ble_eq_true rfl) ?_
  intro p e s m args below meth c A ls H hx hb hr hg hown hlocks hml hno hK hP hD hA hS hZ hl
  have hown : s.vm.findClass RX11 = some m.cls := hown
  have hl : lv_has ls 9 [(0, .ref a0), (1, .int x0), (2, .int x1), (3, .int x2), (4, .int x3), (5, .int x4), (6, .int 0)] := hl
  refine lv_aload_n hx hb dX11_run_0 rfl (lv_at hl 0 rfl) ?_
  refine lv_iload hx hb dX11_run_1 (lv_at hl 5 rfl) ?_
  refine lv_sipush (v := 601) hx hb dX11_run_3 (by decide) ?_
  refine z_xcall (EX := zIA) [(a0, zO 9 9 g0)] [0] hP hD hS hA rfl (by decide) 1 6 rfl rfl (fun hPc hDc hF => z_xrunV (As := [.int x4, .int 601]) (rest := []) ⟨hx, hb, hml, hown, hg⟩ (cX11_checkRange_13 l hl9 K H.size a0 g0 x4 e0) kV_RX11_72 hd_X11_checkRange rfl rfl ⟨(Nat.le_of_ble_eq_true rfl), (Nat.le_of_ble_eq_true rfl)⟩ hK hS hZ hPc hDc hF 0 rfl rfl rfl hl.1 rfl (Nat.le_of_ble_eq_true rfl) dX11_run_6 ⟨(Nat.le_of_ble_eq_true rfl), (Nat.le_of_ble_eq_true rfl)⟩) (fun ce q9 H locs hS hce hcv hcl => ?_)
  exact z_xout hno hlocks hS hce hcv hcl (Nat.le_of_ble_eq_true rfl) (Nat.le_of_ble_eq_true rfl)
set_option maxHeartbeats 4000000 in
set_option maxRecDepth 100000 in
theorem cL_run_1 (l : Launch) (hl9 : l.stackTraces = false) (K : zK) (sz : Nat) (a0 : Nat) (a1 : Nat) (g0 : Nat → Value) (x0 : Int32) (x1 : Int32) (x2 : Int32) (x3 : Int32) (x4 : Int32) (e0 : x4 < (0 : Int32)) : vx_Met l yL_run (Cond.codeWith yL_run cL_run 9 (some .int) [(0, 18, 21, 18), (0, 18, 25, 13)] :: WG) { frames := 8, cells := 1, slots := 6, locals := 132 } (zPre K [(a0, zO 9 9 g0)] sz [.ref a0, .int x0, .int x1, .int x2, .int x3, .int x4, .int 0, .ref a1]) (va_Qi (fun (r : Int32) (_ : Nat → Nat) => r = 1) (zB K (va_A [(a0, zO 9 9 g0)] sz) (fun u : Nat → Nat => [])) (va_A [(a0, zO 9 9 g0)] sz)) (vx_X (fun _ : Unit => False) (fun _ _ _ => True) (va_A [(a0, zO 9 9 g0)] sz)) 1 6 (va_A [(a0, zO 9 9 g0)] sz) := by
  refine z_hmet (Qc := fun A => (va_Qi (fun (r : Int32) (_ : Nat → Nat) => r = 1) (zB K A (fun u : Nat → Nat => [])) A)) (XC := fun A => vx_X (fun _ : Unit => False) (fun _ _ _ => True) A) (by decide +kernel) (Nat.le_of_ble_eq_true rfl) ?_
  intro p e s m args below meth c A ls H hx hb hr hg hown hlocks hml hTab hK hP hD hA hS hZ hl
  have hown : s.vm.findClass RL = some m.cls := hown
  have hl : lv_has ls 9 [(0, .ref a0), (1, .int x0), (2, .int x1), (3, .int x2), (4, .int x3), (5, .int x4), (6, .int 0), (7, .ref a1)] := hl
  refine lv_aload hx hb dL_run_0 (lv_at hl 7 rfl) ?_
  refine lv_iconst (v := 0) hx hb dL_run_2 (by decide) ?_
  refine lv_aload_n hx hb dL_run_3 rfl (lv_at hl 0 rfl) ?_
  refine lv_iload_n hx hb dL_run_4 rfl (lv_at hl 1 rfl) ?_
  refine lv_iload_n hx hb dL_run_5 rfl (lv_at hl 2 rfl) ?_
  refine lv_iload_n hx hb dL_run_6 rfl (lv_at hl 3 rfl) ?_
  refine lv_iload hx hb dL_run_7 (lv_at hl 4 rfl) ?_
  refine lv_iload hx hb dL_run_9 (lv_at hl 5 rfl) ?_
  refine lv_iload hx hb dL_run_11 (lv_at hl 6 rfl) ?_
  refine z_xcall (EX := zIA) [(a0, zO 9 9 g0)] [0] hP hD hS hA rfl (by decide) 1 6 rfl rfl (fun hPc hDc hF => z_xrunV (As := [.int x0, .int x1, .int x2, .int x3, .int x4, .int 0]) (rest := [.int 0, .ref a1]) ⟨hx, hb, hml, hown, hg⟩ (cX11_run_1 l hl9 K H.size a0 g0 x0 x1 x2 x3 x4 e0) kV_RL_73 hd_X11_run rfl rfl ⟨(Nat.le_of_ble_eq_true rfl), (Nat.le_of_ble_eq_true rfl)⟩ hK hS hZ hPc hDc hF 0 rfl rfl rfl hl.1 rfl (Nat.le_of_ble_eq_true rfl) dL_run_13 ⟨(Nat.le_of_ble_eq_true rfl), (Nat.le_of_ble_eq_true rfl)⟩) (fun ce q9 H locs hS hce hcv hcl => ?_)
  refine vx_catch (own := RL) (name := zIA) (E := zIA) hown [] ⟨0, 18, 21, 18⟩ [⟨0, 18, 25, 13⟩] (by rw [hTab]; rfl) (fun z hz => nomatch hz) (by decide) (by decide) (hg _ mt491) (va_Nw.use rfl hZ.1.1.2.1) hce hcv hcl ?_
  have hP : va_P K.1 classes [] H := z_P0
  have hD : va_D A [] := z_D0
  refine lv_astore (lv' := [(8, .ref q9), (0, .ref a0), (1, .int x0), (2, .int x1), (3, .int x2), (4, .int x3), (5, .int x4), (6, .int 0), (7, .ref a1)]) hx hb dL_run_21 hl (by decide) rfl (fun ls hl => ?_)
  refine lv_iconst (v := 1) hx hb dL_run_23 (by decide) ?_
  have hP9 : va_P K.1 classes [] H := hP.sub [] rfl
  have hD9 : va_D A [] := hD.sub [] (by decide) rfl
  exact z_iret hx hb hr (fun _ => 0) rfl hP9 hD9 hS (Nat.le_of_ble_eq_true rfl) (Nat.le_of_ble_eq_true rfl) hlocks dL_run_24
set_option maxHeartbeats 4000000 in
set_option maxRecDepth 100000 in
theorem cX12_isIn_18 (l : Launch) (K : zK) (sz : Nat) (x0 : Int32) (e0 : x0 < (0 : Int32)) : Met l yX12_isIn (Cond.code yX12_isIn cX12_isIn 3 (some .boolean) :: WG) { frames := 0, cells := 0, slots := 0, locals := 0 } (zPre K [] sz [.int x0, .int 0, .int 600]) (va_Qi (fun (r : Int32) (_ : Nat → Nat) => r = 0) (zB K (va_A [] sz) (fun u : Nat → Nat => [])) (va_A [] sz)) 0 0 (va_A [] sz) := by
  refine z_met (Qc := fun A => (va_Qi (fun (r : Int32) (_ : Nat → Nat) => r = 0) (zB K A (fun u : Nat → Nat => [])) A)) (by decide +kernel) (Nat.le_of_ble_eq_true rfl) ?_
  intro p e s m args below meth c A ls H hx hb hr hg hown hlocks hml hin hK hP hD hA hS hZ hl
  have hown : s.vm.findClass RX12 = some m.cls := hown
  have hl : lv_has ls 3 [(0, .int x0), (1, .int 0), (2, .int 600)] := hl
  refine lv_iload_n hx hb dX12_isIn_0 rfl (lv_at hl 0 rfl) ?_
  refine lv_iload_n hx hb dX12_isIn_1 rfl (lv_at hl 1 rfl) ?_
  refine lv_icmp_lt (tgt := 14) hx hb dX12_isIn_2 (by decide) (fun _ => ?_) (fun c => absurd e0 c)
  refine lv_iconst (v := 0) hx hb dX12_isIn_14 (by decide) ?_
  have hP9 : va_P K.1 classes [] H := hP.sub [] rfl
  have hD9 : va_D A [] := hD.sub [] (by decide) rfl
  exact z_zret hx hb hr rfl (fun _ => 0) rfl hP9 hD9 hS (Nat.le_of_ble_eq_true rfl) (Nat.le_of_ble_eq_true rfl) hlocks dX12_isIn_15
set_option maxHeartbeats 4000000 in
set_option maxRecDepth 100000 in
theorem cX12_mayRun_1 (l : Launch) (K : zK) (sz : Nat) (a0 : Nat) (g0 : Nat → Value) (x0 : Int32) (x1 : Int32) (e0 : x0 < (0 : Int32)) : Met l yX12_mayRun (Cond.code yX12_mayRun cX12_mayRun 5 (some .boolean) :: WG) { frames := 2, cells := 0, slots := 0, locals := 42 } (zPre K [(a0, zO 10 83 g0)] sz [.ref a0, .int x0, .int x1, .int 0, .int 0]) (va_Qi (fun (r : Int32) (_ : Nat → Nat) => r = 0) (zB K (va_A [(a0, zO 10 83 g0)] sz) (fun u : Nat → Nat => [(a0, zO 10 83 (va_up g0 81 (.int 1)))])) (va_A [(a0, zO 10 83 g0)] sz)) 0 0 (va_A [(a0, zO 10 83 g0)] sz) := by
  refine z_met (Qc := fun A => (va_Qi (fun (r : Int32) (_ : Nat → Nat) => r = 0) (zB K A (fun u : Nat → Nat => [(a0, zO 10 83 (va_up g0 81 (.int 1)))])) A)) (by decide +kernel) (Nat.le_of_ble_eq_true rfl) ?_
  intro p e s m args below meth c A ls H hx hb hr hg hown hlocks hml hin hK hP hD hA hS hZ hl
  have hown : s.vm.findClass RX12 = some m.cls := hown
  have hl : lv_has ls 5 [(0, .ref a0), (1, .int x0), (2, .int x1), (3, .int 0), (4, .int 0)] := hl
  refine lv_aload_n hx hb dX12_mayRun_0 rfl (lv_at hl 0 rfl) ?_
  refine lv_iload_n hx hb dX12_mayRun_1 rfl (lv_at hl 1 rfl) ?_
  refine z_calli [] [(a0, zO 10 83 g0)] [] [0] hP hD hS hA rfl rfl (by decide) (by decide) (by decide +kernel) 0 0 rfl rfl (fun hPc hDc hF => z_runS (As := [.int x0]) (rest := [.ref a0]) ⟨hx, hb, hml, hown, hg⟩ (cX12_isGlobal_1 l K H.size x0 e0) kS_RX12_197 hd_X12_isGlobal rfl rfl ⟨(Nat.le_of_ble_eq_true rfl), (Nat.le_of_ble_eq_true rfl)⟩ hK hS hZ hPc hDc hF rfl hl.1 rfl (Nat.le_of_ble_eq_true rfl) dX12_mayRun_2 ⟨(Nat.le_of_ble_eq_true rfl), (Nat.le_of_ble_eq_true rfl)⟩) (fun r3 u1 H locs w2 hP hD hS => ?_)
  subst w2
  have hP : va_P K.1 classes [(a0, zO 10 83 g0)] H := hP
  have hD : va_D A [(a0, zO 10 83 g0)] := hD
  refine lv_if_eq (tgt := 21) hx hb dX12_mayRun_5 (by decide) (fun _ => ?_) (fun c => absurd (by decide) c)
  refine lv_iconst (v := 1) hx hb dX12_mayRun_21 (by decide) ?_
  refine lv_goto (tgt := 42) hx hb dX12_mayRun_22 (by decide) ?_
  refine z_calli [(a0, zO 10 83 g0)] [] [0] [] hP hD hS hA rfl rfl (by decide) (by decide) (by decide +kernel) 0 0 rfl rfl (fun hPc hDc hF => z_runV (As := [.int 1]) (rest := []) ⟨hx, hb, hml, hown, hg⟩ (cX12_can_2 l K H.size a0 g0) kV_RX12_182 hd_X12_can rfl rfl ⟨(Nat.le_of_ble_eq_true rfl), (Nat.le_of_ble_eq_true rfl)⟩ hK hS hZ hPc hDc hF 0 rfl rfl rfl hl.1 rfl (Nat.le_of_ble_eq_true rfl) dX12_mayRun_42 ⟨(Nat.le_of_ble_eq_true rfl), (Nat.le_of_ble_eq_true rfl)⟩) (fun r6 u4 H locs w5 hP hD hS => ?_)
  subst w5
  have hP : va_P K.1 classes [(a0, zO 10 83 (va_up g0 81 (.int 1)))] H := hP
  have hD : va_D A [(a0, zO 10 83 (va_up g0 81 (.int 1)))] := hD
  have hP9 : va_P K.1 classes [(a0, zO 10 83 (va_up g0 81 (.int 1)))] H := hP.sub [0] rfl
  have hD9 : va_D A [(a0, zO 10 83 (va_up g0 81 (.int 1)))] := hD.sub [0] (by decide) rfl
  exact z_zret hx hb hr rfl (fun _ => 0) rfl hP9 hD9 hS (Nat.le_of_ble_eq_true rfl) (Nat.le_of_ble_eq_true rfl) hlocks dX12_mayRun_45
set_option maxHeartbeats 4000000 in
set_option maxRecDepth 100000 in
theorem cX12_run_1 (l : Launch) (K : zK) (sz : Nat) (a0 : Nat) (g0 : Nat → Value) (x0 : Int32) (x1 : Int32) (x2 : Int32) (x3 : Int32) (x4 : Int32) (e0 : x4 < (0 : Int32)) (e1 : x0 < (0 : Int32)) : Met l yX12_run (Cond.code yX12_run cX12_run 7 (some .int) :: WG) { frames := 3, cells := 0, slots := 0, locals := 66 } (zPre K [(a0, zO 10 83 g0)] sz [.ref a0, .int x0, .int x1, .int x2, .int x3, .int x4, .int 0]) (va_Qi (fun (r : Int32) (_ : Nat → Nat) => r = 0) (zB K (va_A [(a0, zO 10 83 g0)] sz) (fun u : Nat → Nat => [(a0, zO 10 83 (va_up g0 81 (.int 1)))])) (va_A [(a0, zO 10 83 g0)] sz)) 0 0 (va_A [(a0, zO 10 83 g0)] sz) := by
  refine z_met (Qc := fun A => (va_Qi (fun (r : Int32) (_ : Nat → Nat) => r = 0) (zB K A (fun u : Nat → Nat => [(a0, zO 10 83 (va_up g0 81 (.int 1)))])) A)) (by decide +kernel) (Nat.le_of_ble_eq_true rfl) ?_
  intro p e s m args below meth c A ls H hx hb hr hg hown hlocks hml hin hK hP hD hA hS hZ hl
  have hown : s.vm.findClass RX12 = some m.cls := hown
  have hl : lv_has ls 7 [(0, .ref a0), (1, .int x0), (2, .int x1), (3, .int x2), (4, .int x3), (5, .int x4), (6, .int 0)] := hl
  refine lv_aload_n hx hb dX12_run_0 rfl (lv_at hl 0 rfl) ?_
  refine lv_iload_n hx hb dX12_run_1 rfl (lv_at hl 1 rfl) ?_
  refine lv_iload_n hx hb dX12_run_2 rfl (lv_at hl 2 rfl) ?_
  refine lv_iload hx hb dX12_run_3 (lv_at hl 5 rfl) ?_
  refine lv_iconst (v := 0) hx hb dX12_run_5 (by decide) ?_
  refine lv_sipush (v := 600) hx hb dX12_run_6 (by decide) ?_
  refine z_calli [] [(a0, zO 10 83 g0)] [] [0] hP hD hS hA rfl rfl (by decide) (by decide) (by decide +kernel) 0 0 rfl rfl (fun hPc hDc hF => z_runS (As := [.int x4, .int 0, .int 600]) (rest := [.int x1, .int x0, .ref a0]) ⟨hx, hb, hml, hown, hg⟩ (cX12_isIn_18 l K H.size x4 e0) kS_RX12_175 hd_X12_isIn rfl rfl ⟨(Nat.le_of_ble_eq_true rfl), (Nat.le_of_ble_eq_true rfl)⟩ hK hS hZ hPc hDc hF rfl hl.1 rfl (Nat.le_of_ble_eq_true rfl) dX12_run_9 ⟨(Nat.le_of_ble_eq_true rfl), (Nat.le_of_ble_eq_true rfl)⟩) (fun r3 u1 H locs w2 hP hD hS => ?_)
  subst w2
  have hP : va_P K.1 classes [(a0, zO 10 83 g0)] H := hP
  have hD : va_D A [(a0, zO 10 83 g0)] := hD
  refine lv_iload hx hb dX12_run_12 (lv_at hl 6 rfl) ?_
  refine z_calli [(a0, zO 10 83 g0)] [] [0] [] hP hD hS hA rfl rfl (by decide) (by decide) (by decide +kernel) 0 0 rfl rfl (fun hPc hDc hF => z_runV (As := [.int x0, .int x1, .int 0, .int 0]) (rest := []) ⟨hx, hb, hml, hown, hg⟩ (cX12_mayRun_1 l K H.size a0 g0 x0 x1 e1) kV_RX12_492 hd_X12_mayRun rfl rfl ⟨(Nat.le_of_ble_eq_true rfl), (Nat.le_of_ble_eq_true rfl)⟩ hK hS hZ hPc hDc hF 0 rfl rfl rfl hl.1 rfl (Nat.le_of_ble_eq_true rfl) dX12_run_14 ⟨(Nat.le_of_ble_eq_true rfl), (Nat.le_of_ble_eq_true rfl)⟩) (fun r6 u4 H locs w5 hP hD hS => ?_)
  subst w5
  have hP : va_P K.1 classes [(a0, zO 10 83 (va_up g0 81 (.int 1)))] H := hP
  have hD : va_D A [(a0, zO 10 83 (va_up g0 81 (.int 1)))] := hD
  refine lv_if_ne (tgt := 22) hx hb dX12_run_17 (by decide) (fun c => absurd (by decide) c) (fun _ => ?_)
  refine lv_iconst (v := 0) hx hb dX12_run_20 (by decide) ?_
  have hP9 : va_P K.1 classes [(a0, zO 10 83 (va_up g0 81 (.int 1)))] H := hP.sub [0] rfl
  have hD9 : va_D A [(a0, zO 10 83 (va_up g0 81 (.int 1)))] := hD.sub [0] (by decide) rfl
  exact z_iret hx hb hr (fun _ => 0) rfl hP9 hD9 hS (Nat.le_of_ble_eq_true rfl) (Nat.le_of_ble_eq_true rfl) hlocks dX12_run_21
set_option maxHeartbeats 4000000 in
set_option maxRecDepth 100000 in
theorem cX11_run_2 (l : Launch) (hl9 : l.stackTraces = false) (K : zK) (sz : Nat) (a0 : Nat) (g0 : Nat → Value) (j0 : Nat) (hj0 : j0 < 8) (x1 : Int32) (x2 : Int32) (x3 : Int32) (x4 : Int32) (e0 : x4 < (0 : Int32)) : vx_Met l yX11_run (Cond.code yX11_run cX11_run 9 (some .int) :: WG) { frames := 7, cells := 1, slots := 6, locals := 104 } (zPre K [(a0, zO 9 9 g0)] sz [.ref a0, .int (nI j0), .int x1, .int x2, .int x3, .int x4, .int 0]) (va_Qv (fun _ : Unit => False) (fun _ _ => True) (va_A [(a0, zO 9 9 g0)] sz)) (zX (va_A [(a0, zO 9 9 g0)] sz) zIA) 1 6 (va_A [(a0, zO 9 9 g0)] sz) := by
  refine z_xmet (Qc := fun A => va_Qv (fun _ : Unit => False) (fun _ _ => True) A) (XC := fun A => zX A zIA) (by decide +kernel) (Nat.le_of_ble_eq_true rfl) ?_
  intro p e s m args below meth c A ls H hx hb hr hg hown hlocks hml hno hK hP hD hA hS hZ hl
  have hown : s.vm.findClass RX11 = some m.cls := hown
  have hl : lv_has ls 9 [(0, .ref a0), (1, .int (nI j0)), (2, .int x1), (3, .int x2), (4, .int x3), (5, .int x4), (6, .int 0)] := hl
  refine lv_aload_n hx hb dX11_run_0 rfl (lv_at hl 0 rfl) ?_
  refine lv_iload hx hb dX11_run_1 (lv_at hl 5 rfl) ?_
  refine lv_sipush (v := 601) hx hb dX11_run_3 (by decide) ?_
  refine z_xcall (EX := zIA) [(a0, zO 9 9 g0)] [0] hP hD hS hA rfl (by decide) 1 6 rfl rfl (fun hPc hDc hF => z_xrunV (As := [.int x4, .int 601]) (rest := []) ⟨hx, hb, hml, hown, hg⟩ (cX11_checkRange_13 l hl9 K H.size a0 g0 x4 e0) kV_RX11_72 hd_X11_checkRange rfl rfl ⟨(Nat.le_of_ble_eq_true rfl), (Nat.le_of_ble_eq_true rfl)⟩ hK hS hZ hPc hDc hF 0 rfl rfl rfl hl.1 rfl (Nat.le_of_ble_eq_true rfl) dX11_run_6 ⟨(Nat.le_of_ble_eq_true rfl), (Nat.le_of_ble_eq_true rfl)⟩) (fun ce q9 H locs hS hce hcv hcl => ?_)
  exact z_xout hno hlocks hS hce hcv hcl (Nat.le_of_ble_eq_true rfl) (Nat.le_of_ble_eq_true rfl)
set_option maxHeartbeats 4000000 in
set_option maxRecDepth 100000 in
theorem cL_run_2 (l : Launch) (hl9 : l.stackTraces = false) (K : zK) (sz : Nat) (a0 : Nat) (a1 : Nat) (g0 : Nat → Value) (j0 : Nat) (hj0 : j0 < 8) (x1 : Int32) (x2 : Int32) (x3 : Int32) (x4 : Int32) (e0 : x4 < (0 : Int32)) : vx_Met l yL_run (Cond.codeWith yL_run cL_run 9 (some .int) [(0, 18, 21, 18), (0, 18, 25, 13)] :: WG) { frames := 8, cells := 1, slots := 6, locals := 132 } (zPre K [(a0, zO 9 9 g0)] sz [.ref a0, .int (nI j0), .int x1, .int x2, .int x3, .int x4, .int 0, .ref a1]) (va_Qi (fun (r : Int32) (_ : Nat → Nat) => r = 1) (zB K (va_A [(a0, zO 9 9 g0)] sz) (fun u : Nat → Nat => [])) (va_A [(a0, zO 9 9 g0)] sz)) (vx_X (fun _ : Unit => False) (fun _ _ _ => True) (va_A [(a0, zO 9 9 g0)] sz)) 1 6 (va_A [(a0, zO 9 9 g0)] sz) := by
  refine z_hmet (Qc := fun A => (va_Qi (fun (r : Int32) (_ : Nat → Nat) => r = 1) (zB K A (fun u : Nat → Nat => [])) A)) (XC := fun A => vx_X (fun _ : Unit => False) (fun _ _ _ => True) A) (by decide +kernel) (Nat.le_of_ble_eq_true rfl) ?_
  intro p e s m args below meth c A ls H hx hb hr hg hown hlocks hml hTab hK hP hD hA hS hZ hl
  have hown : s.vm.findClass RL = some m.cls := hown
  have hl : lv_has ls 9 [(0, .ref a0), (1, .int (nI j0)), (2, .int x1), (3, .int x2), (4, .int x3), (5, .int x4), (6, .int 0), (7, .ref a1)] := hl
  refine lv_aload hx hb dL_run_0 (lv_at hl 7 rfl) ?_
  refine lv_iconst (v := 0) hx hb dL_run_2 (by decide) ?_
  refine lv_aload_n hx hb dL_run_3 rfl (lv_at hl 0 rfl) ?_
  refine lv_iload_n hx hb dL_run_4 rfl (lv_at hl 1 rfl) ?_
  refine lv_iload_n hx hb dL_run_5 rfl (lv_at hl 2 rfl) ?_
  refine lv_iload_n hx hb dL_run_6 rfl (lv_at hl 3 rfl) ?_
  refine lv_iload hx hb dL_run_7 (lv_at hl 4 rfl) ?_
  refine lv_iload hx hb dL_run_9 (lv_at hl 5 rfl) ?_
  refine lv_iload hx hb dL_run_11 (lv_at hl 6 rfl) ?_
  refine z_xcall (EX := zIA) [(a0, zO 9 9 g0)] [0] hP hD hS hA rfl (by decide) 1 6 rfl rfl (fun hPc hDc hF => z_xrunV (As := [.int (nI j0), .int x1, .int x2, .int x3, .int x4, .int 0]) (rest := [.int 0, .ref a1]) ⟨hx, hb, hml, hown, hg⟩ (cX11_run_2 l hl9 K H.size a0 g0 j0 hj0 x1 x2 x3 x4 e0) kV_RL_73 hd_X11_run rfl rfl ⟨(Nat.le_of_ble_eq_true rfl), (Nat.le_of_ble_eq_true rfl)⟩ hK hS hZ hPc hDc hF 0 rfl rfl rfl hl.1 rfl (Nat.le_of_ble_eq_true rfl) dL_run_13 ⟨(Nat.le_of_ble_eq_true rfl), (Nat.le_of_ble_eq_true rfl)⟩) (fun ce q9 H locs hS hce hcv hcl => ?_)
  refine vx_catch (own := RL) (name := zIA) (E := zIA) hown [] ⟨0, 18, 21, 18⟩ [⟨0, 18, 25, 13⟩] (by rw [hTab]; rfl) (fun z hz => nomatch hz) (by decide) (by decide) (hg _ mt491) (va_Nw.use rfl hZ.1.1.2.1) hce hcv hcl ?_
  have hP : va_P K.1 classes [] H := z_P0
  have hD : va_D A [] := z_D0
  refine lv_astore (lv' := [(8, .ref q9), (0, .ref a0), (1, .int (nI j0)), (2, .int x1), (3, .int x2), (4, .int x3), (5, .int x4), (6, .int 0), (7, .ref a1)]) hx hb dL_run_21 hl (by decide) rfl (fun ls hl => ?_)
  refine lv_iconst (v := 1) hx hb dL_run_23 (by decide) ?_
  have hP9 : va_P K.1 classes [] H := hP.sub [] rfl
  have hD9 : va_D A [] := hD.sub [] (by decide) rfl
  exact z_iret hx hb hr (fun _ => 0) rfl hP9 hD9 hS (Nat.le_of_ble_eq_true rfl) (Nat.le_of_ble_eq_true rfl) hlocks dL_run_24
set_option maxHeartbeats 4000000 in
set_option maxRecDepth 100000 in
theorem cX12_isIn_19 (l : Launch) (K : zK) (sz : Nat) (x0 : Int32) (e0 : x0 < (0 : Int32)) : Met l yX12_isIn (Cond.code yX12_isIn cX12_isIn 3 (some .boolean) :: WG) { frames := 0, cells := 0, slots := 0, locals := 0 } (zPre K [] sz [.int x0, .int 0, .int 2]) (va_Qi (fun (r : Int32) (_ : Nat → Nat) => r = 0) (zB K (va_A [] sz) (fun u : Nat → Nat => [])) (va_A [] sz)) 0 0 (va_A [] sz) := by
  refine z_met (Qc := fun A => (va_Qi (fun (r : Int32) (_ : Nat → Nat) => r = 0) (zB K A (fun u : Nat → Nat => [])) A)) (by decide +kernel) (Nat.le_of_ble_eq_true rfl) ?_
  intro p e s m args below meth c A ls H hx hb hr hg hown hlocks hml hin hK hP hD hA hS hZ hl
  have hown : s.vm.findClass RX12 = some m.cls := hown
  have hl : lv_has ls 3 [(0, .int x0), (1, .int 0), (2, .int 2)] := hl
  refine lv_iload_n hx hb dX12_isIn_0 rfl (lv_at hl 0 rfl) ?_
  refine lv_iload_n hx hb dX12_isIn_1 rfl (lv_at hl 1 rfl) ?_
  refine lv_icmp_lt (tgt := 14) hx hb dX12_isIn_2 (by decide) (fun _ => ?_) (fun c => absurd e0 c)
  refine lv_iconst (v := 0) hx hb dX12_isIn_14 (by decide) ?_
  have hP9 : va_P K.1 classes [] H := hP.sub [] rfl
  have hD9 : va_D A [] := hD.sub [] (by decide) rfl
  exact z_zret hx hb hr rfl (fun _ => 0) rfl hP9 hD9 hS (Nat.le_of_ble_eq_true rfl) (Nat.le_of_ble_eq_true rfl) hlocks dX12_isIn_15
set_option maxHeartbeats 4000000 in
set_option maxRecDepth 100000 in
theorem cX12_mayRun_2 (l : Launch) (K : zK) (sz : Nat) (a0 : Nat) (g0 : Nat → Value) (j0 : Nat) (hj0 : j0 < 8) (x1 : Int32) (e0 : x1 < (0 : Int32)) : Met l yX12_mayRun (Cond.code yX12_mayRun cX12_mayRun 5 (some .boolean) :: WG) { frames := 2, cells := 0, slots := 0, locals := 42 } (zPre K [(a0, zO 10 83 g0)] sz [.ref a0, .int (nI j0), .int x1, .int 0, .int 0]) (va_Qi (fun (r : Int32) (_ : Nat → Nat) => r = 0) (zB K (va_A [(a0, zO 10 83 g0)] sz) (fun u : Nat → Nat => [(a0, zO 10 83 (va_up g0 81 (.int 1)))])) (va_A [(a0, zO 10 83 g0)] sz)) 0 0 (va_A [(a0, zO 10 83 g0)] sz) := by
  refine z_met (Qc := fun A => (va_Qi (fun (r : Int32) (_ : Nat → Nat) => r = 0) (zB K A (fun u : Nat → Nat => [(a0, zO 10 83 (va_up g0 81 (.int 1)))])) A)) (by decide +kernel) (Nat.le_of_ble_eq_true rfl) ?_
  intro p e s m args below meth c A ls H hx hb hr hg hown hlocks hml hin hK hP hD hA hS hZ hl
  have hown : s.vm.findClass RX12 = some m.cls := hown
  have hl : lv_has ls 5 [(0, .ref a0), (1, .int (nI j0)), (2, .int x1), (3, .int 0), (4, .int 0)] := hl
  refine lv_aload_n hx hb dX12_mayRun_0 rfl (lv_at hl 0 rfl) ?_
  refine lv_iload_n hx hb dX12_mayRun_1 rfl (lv_at hl 1 rfl) ?_
  refine z_calli [] [(a0, zO 10 83 g0)] [] [0] hP hD hS hA rfl rfl (by decide) (by decide) (by decide +kernel) 0 0 rfl rfl (fun hPc hDc hF => z_runS (As := [.int (nI j0)]) (rest := [.ref a0]) ⟨hx, hb, hml, hown, hg⟩ (cX12_isGlobal_2 l K H.size j0 hj0) kS_RX12_197 hd_X12_isGlobal rfl rfl ⟨(Nat.le_of_ble_eq_true rfl), (Nat.le_of_ble_eq_true rfl)⟩ hK hS hZ hPc hDc hF rfl hl.1 rfl (Nat.le_of_ble_eq_true rfl) dX12_mayRun_2 ⟨(Nat.le_of_ble_eq_true rfl), (Nat.le_of_ble_eq_true rfl)⟩) (fun r3 u1 H locs w2 hP hD hS => ?_)
  subst w2
  have hP : va_P K.1 classes [(a0, zO 10 83 g0)] H := hP
  have hD : va_D A [(a0, zO 10 83 g0)] := hD
  refine lv_if_eq (tgt := 21) hx hb dX12_mayRun_5 (by decide) (fun c => absurd c (by decide)) (fun _ => ?_)
  refine lv_iload_n hx hb dX12_mayRun_8 rfl (lv_at hl 2 rfl) ?_
  refine lv_iconst (v := 0) hx hb dX12_mayRun_9 (by decide) ?_
  refine lv_iconst (v := 2) hx hb dX12_mayRun_10 (by decide) ?_
  refine z_calli [] [(a0, zO 10 83 g0)] [] [0] hP hD hS hA rfl rfl (by decide) (by decide) (by decide +kernel) 0 0 rfl rfl (fun hPc hDc hF => z_runS (As := [.int x1, .int 0, .int 2]) (rest := [.ref a0]) ⟨hx, hb, hml, hown, hg⟩ (cX12_isIn_19 l K H.size x1 e0) kS_RX12_175 hd_X12_isIn rfl rfl ⟨(Nat.le_of_ble_eq_true rfl), (Nat.le_of_ble_eq_true rfl)⟩ hK hS hZ hPc hDc hF rfl hl.1 rfl (Nat.le_of_ble_eq_true rfl) dX12_mayRun_11 ⟨(Nat.le_of_ble_eq_true rfl), (Nat.le_of_ble_eq_true rfl)⟩) (fun r6 u4 H locs w5 hP hD hS => ?_)
  subst w5
  have hP : va_P K.1 classes [(a0, zO 10 83 g0)] H := hP
  have hD : va_D A [(a0, zO 10 83 g0)] := hD
  refine lv_if_eq (tgt := 21) hx hb dX12_mayRun_14 (by decide) (fun _ => ?_) (fun c => absurd (by decide) c)
  refine lv_iconst (v := 1) hx hb dX12_mayRun_21 (by decide) ?_
  refine lv_goto (tgt := 42) hx hb dX12_mayRun_22 (by decide) ?_
  refine z_calli [(a0, zO 10 83 g0)] [] [0] [] hP hD hS hA rfl rfl (by decide) (by decide) (by decide +kernel) 0 0 rfl rfl (fun hPc hDc hF => z_runV (As := [.int 1]) (rest := []) ⟨hx, hb, hml, hown, hg⟩ (cX12_can_2 l K H.size a0 g0) kV_RX12_182 hd_X12_can rfl rfl ⟨(Nat.le_of_ble_eq_true rfl), (Nat.le_of_ble_eq_true rfl)⟩ hK hS hZ hPc hDc hF 0 rfl rfl rfl hl.1 rfl (Nat.le_of_ble_eq_true rfl) dX12_mayRun_42 ⟨(Nat.le_of_ble_eq_true rfl), (Nat.le_of_ble_eq_true rfl)⟩) (fun r9 u7 H locs w8 hP hD hS => ?_)
  subst w8
  have hP : va_P K.1 classes [(a0, zO 10 83 (va_up g0 81 (.int 1)))] H := hP
  have hD : va_D A [(a0, zO 10 83 (va_up g0 81 (.int 1)))] := hD
  have hP9 : va_P K.1 classes [(a0, zO 10 83 (va_up g0 81 (.int 1)))] H := hP.sub [0] rfl
  have hD9 : va_D A [(a0, zO 10 83 (va_up g0 81 (.int 1)))] := hD.sub [0] (by decide) rfl
  exact z_zret hx hb hr rfl (fun _ => 0) rfl hP9 hD9 hS (Nat.le_of_ble_eq_true rfl) (Nat.le_of_ble_eq_true rfl) hlocks dX12_mayRun_45
set_option maxHeartbeats 4000000 in
set_option maxRecDepth 100000 in
theorem cX12_run_2 (l : Launch) (K : zK) (sz : Nat) (a0 : Nat) (g0 : Nat → Value) (j0 : Nat) (hj0 : j0 < 8) (x1 : Int32) (x2 : Int32) (x3 : Int32) (x4 : Int32) (e0 : x4 < (0 : Int32)) (e1 : x1 < (0 : Int32)) : Met l yX12_run (Cond.code yX12_run cX12_run 7 (some .int) :: WG) { frames := 3, cells := 0, slots := 0, locals := 66 } (zPre K [(a0, zO 10 83 g0)] sz [.ref a0, .int (nI j0), .int x1, .int x2, .int x3, .int x4, .int 0]) (va_Qi (fun (r : Int32) (_ : Nat → Nat) => r = 0) (zB K (va_A [(a0, zO 10 83 g0)] sz) (fun u : Nat → Nat => [(a0, zO 10 83 (va_up g0 81 (.int 1)))])) (va_A [(a0, zO 10 83 g0)] sz)) 0 0 (va_A [(a0, zO 10 83 g0)] sz) := by
  refine z_met (Qc := fun A => (va_Qi (fun (r : Int32) (_ : Nat → Nat) => r = 0) (zB K A (fun u : Nat → Nat => [(a0, zO 10 83 (va_up g0 81 (.int 1)))])) A)) (by decide +kernel) (Nat.le_of_ble_eq_true rfl) ?_
  intro p e s m args below meth c A ls H hx hb hr hg hown hlocks hml hin hK hP hD hA hS hZ hl
  have hown : s.vm.findClass RX12 = some m.cls := hown
  have hl : lv_has ls 7 [(0, .ref a0), (1, .int (nI j0)), (2, .int x1), (3, .int x2), (4, .int x3), (5, .int x4), (6, .int 0)] := hl
  refine lv_aload_n hx hb dX12_run_0 rfl (lv_at hl 0 rfl) ?_
  refine lv_iload_n hx hb dX12_run_1 rfl (lv_at hl 1 rfl) ?_
  refine lv_iload_n hx hb dX12_run_2 rfl (lv_at hl 2 rfl) ?_
  refine lv_iload hx hb dX12_run_3 (lv_at hl 5 rfl) ?_
  refine lv_iconst (v := 0) hx hb dX12_run_5 (by decide) ?_
  refine lv_sipush (v := 600) hx hb dX12_run_6 (by decide) ?_
  refine z_calli [] [(a0, zO 10 83 g0)] [] [0] hP hD hS hA rfl rfl (by decide) (by decide) (by decide +kernel) 0 0 rfl rfl (fun hPc hDc hF => z_runS (As := [.int x4, .int 0, .int 600]) (rest := [.int x1, .int (nI j0), .ref a0]) ⟨hx, hb, hml, hown, hg⟩ (cX12_isIn_18 l K H.size x4 e0) kS_RX12_175 hd_X12_isIn rfl rfl ⟨(Nat.le_of_ble_eq_true rfl), (Nat.le_of_ble_eq_true rfl)⟩ hK hS hZ hPc hDc hF rfl hl.1 rfl (Nat.le_of_ble_eq_true rfl) dX12_run_9 ⟨(Nat.le_of_ble_eq_true rfl), (Nat.le_of_ble_eq_true rfl)⟩) (fun r3 u1 H locs w2 hP hD hS => ?_)
  subst w2
  have hP : va_P K.1 classes [(a0, zO 10 83 g0)] H := hP
  have hD : va_D A [(a0, zO 10 83 g0)] := hD
  refine lv_iload hx hb dX12_run_12 (lv_at hl 6 rfl) ?_
  refine z_calli [(a0, zO 10 83 g0)] [] [0] [] hP hD hS hA rfl rfl (by decide) (by decide) (by decide +kernel) 0 0 rfl rfl (fun hPc hDc hF => z_runV (As := [.int (nI j0), .int x1, .int 0, .int 0]) (rest := []) ⟨hx, hb, hml, hown, hg⟩ (cX12_mayRun_2 l K H.size a0 g0 j0 hj0 x1 e1) kV_RX12_492 hd_X12_mayRun rfl rfl ⟨(Nat.le_of_ble_eq_true rfl), (Nat.le_of_ble_eq_true rfl)⟩ hK hS hZ hPc hDc hF 0 rfl rfl rfl hl.1 rfl (Nat.le_of_ble_eq_true rfl) dX12_run_14 ⟨(Nat.le_of_ble_eq_true rfl), (Nat.le_of_ble_eq_true rfl)⟩) (fun r6 u4 H locs w5 hP hD hS => ?_)
  subst w5
  have hP : va_P K.1 classes [(a0, zO 10 83 (va_up g0 81 (.int 1)))] H := hP
  have hD : va_D A [(a0, zO 10 83 (va_up g0 81 (.int 1)))] := hD
  refine lv_if_ne (tgt := 22) hx hb dX12_run_17 (by decide) (fun c => absurd (by decide) c) (fun _ => ?_)
  refine lv_iconst (v := 0) hx hb dX12_run_20 (by decide) ?_
  have hP9 : va_P K.1 classes [(a0, zO 10 83 (va_up g0 81 (.int 1)))] H := hP.sub [0] rfl
  have hD9 : va_D A [(a0, zO 10 83 (va_up g0 81 (.int 1)))] := hD.sub [0] (by decide) rfl
  exact z_iret hx hb hr (fun _ => 0) rfl hP9 hD9 hS (Nat.le_of_ble_eq_true rfl) (Nat.le_of_ble_eq_true rfl) hlocks dX12_run_21
set_option maxHeartbeats 4000000 in
set_option maxRecDepth 100000 in
theorem cX11_run_3 (l : Launch) (hl9 : l.stackTraces = false) (K : zK) (sz : Nat) (a0 : Nat) (g0 : Nat → Value) (j0 : Nat) (hj0 : j0 < 8) (j1 : Nat) (hj1 : j1 < 3) (x2 : Int32) (x3 : Int32) (x4 : Int32) (e0 : x4 < (0 : Int32)) : vx_Met l yX11_run (Cond.code yX11_run cX11_run 9 (some .int) :: WG) { frames := 7, cells := 1, slots := 6, locals := 104 } (zPre K [(a0, zO 9 9 g0)] sz [.ref a0, .int (nI j0), .int (nI j1), .int x2, .int x3, .int x4, .int 0]) (va_Qv (fun _ : Unit => False) (fun _ _ => True) (va_A [(a0, zO 9 9 g0)] sz)) (zX (va_A [(a0, zO 9 9 g0)] sz) zIA) 1 6 (va_A [(a0, zO 9 9 g0)] sz) := by
  refine z_xmet (Qc := fun A => va_Qv (fun _ : Unit => False) (fun _ _ => True) A) (XC := fun A => zX A zIA) (by decide +kernel) (Nat.le_of_ble_eq_true rfl) ?_
  intro p e s m args below meth c A ls H hx hb hr hg hown hlocks hml hno hK hP hD hA hS hZ hl
  have hown : s.vm.findClass RX11 = some m.cls := hown
  have hl : lv_has ls 9 [(0, .ref a0), (1, .int (nI j0)), (2, .int (nI j1)), (3, .int x2), (4, .int x3), (5, .int x4), (6, .int 0)] := hl
  refine lv_aload_n hx hb dX11_run_0 rfl (lv_at hl 0 rfl) ?_
  refine lv_iload hx hb dX11_run_1 (lv_at hl 5 rfl) ?_
  refine lv_sipush (v := 601) hx hb dX11_run_3 (by decide) ?_
  refine z_xcall (EX := zIA) [(a0, zO 9 9 g0)] [0] hP hD hS hA rfl (by decide) 1 6 rfl rfl (fun hPc hDc hF => z_xrunV (As := [.int x4, .int 601]) (rest := []) ⟨hx, hb, hml, hown, hg⟩ (cX11_checkRange_13 l hl9 K H.size a0 g0 x4 e0) kV_RX11_72 hd_X11_checkRange rfl rfl ⟨(Nat.le_of_ble_eq_true rfl), (Nat.le_of_ble_eq_true rfl)⟩ hK hS hZ hPc hDc hF 0 rfl rfl rfl hl.1 rfl (Nat.le_of_ble_eq_true rfl) dX11_run_6 ⟨(Nat.le_of_ble_eq_true rfl), (Nat.le_of_ble_eq_true rfl)⟩) (fun ce q9 H locs hS hce hcv hcl => ?_)
  exact z_xout hno hlocks hS hce hcv hcl (Nat.le_of_ble_eq_true rfl) (Nat.le_of_ble_eq_true rfl)
set_option maxHeartbeats 4000000 in
set_option maxRecDepth 100000 in
theorem cL_run_3 (l : Launch) (hl9 : l.stackTraces = false) (K : zK) (sz : Nat) (a0 : Nat) (a1 : Nat) (g0 : Nat → Value) (j0 : Nat) (hj0 : j0 < 8) (j1 : Nat) (hj1 : j1 < 3) (x2 : Int32) (x3 : Int32) (x4 : Int32) (e0 : x4 < (0 : Int32)) : vx_Met l yL_run (Cond.codeWith yL_run cL_run 9 (some .int) [(0, 18, 21, 18), (0, 18, 25, 13)] :: WG) { frames := 8, cells := 1, slots := 6, locals := 132 } (zPre K [(a0, zO 9 9 g0)] sz [.ref a0, .int (nI j0), .int (nI j1), .int x2, .int x3, .int x4, .int 0, .ref a1]) (va_Qi (fun (r : Int32) (_ : Nat → Nat) => r = 1) (zB K (va_A [(a0, zO 9 9 g0)] sz) (fun u : Nat → Nat => [])) (va_A [(a0, zO 9 9 g0)] sz)) (vx_X (fun _ : Unit => False) (fun _ _ _ => True) (va_A [(a0, zO 9 9 g0)] sz)) 1 6 (va_A [(a0, zO 9 9 g0)] sz) := by
  refine z_hmet (Qc := fun A => (va_Qi (fun (r : Int32) (_ : Nat → Nat) => r = 1) (zB K A (fun u : Nat → Nat => [])) A)) (XC := fun A => vx_X (fun _ : Unit => False) (fun _ _ _ => True) A) (by decide +kernel) (Nat.le_of_ble_eq_true rfl) ?_
  intro p e s m args below meth c A ls H hx hb hr hg hown hlocks hml hTab hK hP hD hA hS hZ hl
  have hown : s.vm.findClass RL = some m.cls := hown
  have hl : lv_has ls 9 [(0, .ref a0), (1, .int (nI j0)), (2, .int (nI j1)), (3, .int x2), (4, .int x3), (5, .int x4), (6, .int 0), (7, .ref a1)] := hl
  refine lv_aload hx hb dL_run_0 (lv_at hl 7 rfl) ?_
  refine lv_iconst (v := 0) hx hb dL_run_2 (by decide) ?_
  refine lv_aload_n hx hb dL_run_3 rfl (lv_at hl 0 rfl) ?_
  refine lv_iload_n hx hb dL_run_4 rfl (lv_at hl 1 rfl) ?_
  refine lv_iload_n hx hb dL_run_5 rfl (lv_at hl 2 rfl) ?_
  refine lv_iload_n hx hb dL_run_6 rfl (lv_at hl 3 rfl) ?_
  refine lv_iload hx hb dL_run_7 (lv_at hl 4 rfl) ?_
  refine lv_iload hx hb dL_run_9 (lv_at hl 5 rfl) ?_
  refine lv_iload hx hb dL_run_11 (lv_at hl 6 rfl) ?_
  refine z_xcall (EX := zIA) [(a0, zO 9 9 g0)] [0] hP hD hS hA rfl (by decide) 1 6 rfl rfl (fun hPc hDc hF => z_xrunV (As := [.int (nI j0), .int (nI j1), .int x2, .int x3, .int x4, .int 0]) (rest := [.int 0, .ref a1]) ⟨hx, hb, hml, hown, hg⟩ (cX11_run_3 l hl9 K H.size a0 g0 j0 hj0 j1 hj1 x2 x3 x4 e0) kV_RL_73 hd_X11_run rfl rfl ⟨(Nat.le_of_ble_eq_true rfl), (Nat.le_of_ble_eq_true rfl)⟩ hK hS hZ hPc hDc hF 0 rfl rfl rfl hl.1 rfl (Nat.le_of_ble_eq_true rfl) dL_run_13 ⟨(Nat.le_of_ble_eq_true rfl), (Nat.le_of_ble_eq_true rfl)⟩) (fun ce q9 H locs hS hce hcv hcl => ?_)
  refine vx_catch (own := RL) (name := zIA) (E := zIA) hown [] ⟨0, 18, 21, 18⟩ [⟨0, 18, 25, 13⟩] (by rw [hTab]; rfl) (fun z hz => nomatch hz) (by decide) (by decide) (hg _ mt491) (va_Nw.use rfl hZ.1.1.2.1) hce hcv hcl ?_
  have hP : va_P K.1 classes [] H := z_P0
  have hD : va_D A [] := z_D0
  refine lv_astore (lv' := [(8, .ref q9), (0, .ref a0), (1, .int (nI j0)), (2, .int (nI j1)), (3, .int x2), (4, .int x3), (5, .int x4), (6, .int 0), (7, .ref a1)]) hx hb dL_run_21 hl (by decide) rfl (fun ls hl => ?_)
  refine lv_iconst (v := 1) hx hb dL_run_23 (by decide) ?_
  have hP9 : va_P K.1 classes [] H := hP.sub [] rfl
  have hD9 : va_D A [] := hD.sub [] (by decide) rfl
  exact z_iret hx hb hr (fun _ => 0) rfl hP9 hD9 hS (Nat.le_of_ble_eq_true rfl) (Nat.le_of_ble_eq_true rfl) hlocks dL_run_24
set_option maxHeartbeats 4000000 in
set_option maxRecDepth 100000 in
theorem cX12_isIn_20 (l : Launch) (K : zK) (sz : Nat) (j0 : Nat) (hj0 : j0 < 3) : Met l yX12_isIn (Cond.code yX12_isIn cX12_isIn 3 (some .boolean) :: WG) { frames := 0, cells := 0, slots := 0, locals := 0 } (zPre K [] sz [.int (nI j0), .int 0, .int 2]) (va_Qi (fun (r : Int32) (_ : Nat → Nat) => r = 1) (zB K (va_A [] sz) (fun u : Nat → Nat => [])) (va_A [] sz)) 0 0 (va_A [] sz) := by
  refine z_met (Qc := fun A => (va_Qi (fun (r : Int32) (_ : Nat → Nat) => r = 1) (zB K A (fun u : Nat → Nat => [])) A)) (by decide +kernel) (Nat.le_of_ble_eq_true rfl) ?_
  intro p e s m args below meth c A ls H hx hb hr hg hown hlocks hml hin hK hP hD hA hS hZ hl
  have hown : s.vm.findClass RX12 = some m.cls := hown
  have hl : lv_has ls 3 [(0, .int (nI j0)), (1, .int 0), (2, .int 2)] := hl
  refine lv_iload_n hx hb dX12_isIn_0 rfl (lv_at hl 0 rfl) ?_
  refine lv_iload_n hx hb dX12_isIn_1 rfl (lv_at hl 1 rfl) ?_
  refine lv_icmp_lt (tgt := 14) hx hb dX12_isIn_2 (by decide) (fun c => absurd c ((by decide : ∀ j, j < 3 → ¬ ((nI j) < (0 : Int32))) j0 hj0)) (fun _ => ?_)
  refine lv_iload_n hx hb dX12_isIn_5 rfl (lv_at hl 0 rfl) ?_
  refine lv_iload_n hx hb dX12_isIn_6 rfl (lv_at hl 2 rfl) ?_
  refine lv_icmp_gt (tgt := 14) hx hb dX12_isIn_7 (by decide) (fun c => absurd c ((by decide : ∀ j, j < 3 → ¬ ((2 : Int32) < (nI j))) j0 hj0)) (fun _ => ?_)
  refine lv_iconst (v := 1) hx hb dX12_isIn_10 (by decide) ?_
  refine lv_goto (tgt := 15) hx hb dX12_isIn_11 (by decide) ?_
  have hP9 : va_P K.1 classes [] H := hP.sub [] rfl
  have hD9 : va_D A [] := hD.sub [] (by decide) rfl
  exact z_zret hx hb hr rfl (fun _ => 0) rfl hP9 hD9 hS (Nat.le_of_ble_eq_true rfl) (Nat.le_of_ble_eq_true rfl) hlocks dX12_isIn_15
set_option maxHeartbeats 4000000 in
set_option maxRecDepth 100000 in
theorem cX12_mayRun_3 (l : Launch) (K : zK) (sz : Nat) (a0 : Nat) (g0 : Nat → Value) (j0 : Nat) (hj0 : j0 < 8) (j1 : Nat) (hj1 : j1 < 3) : Met l yX12_mayRun (Cond.code yX12_mayRun cX12_mayRun 5 (some .boolean) :: WG) { frames := 2, cells := 0, slots := 0, locals := 42 } (zPre K [(a0, zO 10 83 g0)] sz [.ref a0, .int (nI j0), .int (nI j1), .int 0, .int 0]) (va_Qi (fun (r : Int32) (_ : Nat → Nat) => r = 0) (zB K (va_A [(a0, zO 10 83 g0)] sz) (fun u : Nat → Nat => [(a0, zO 10 83 (va_up g0 81 (.int 1)))])) (va_A [(a0, zO 10 83 g0)] sz)) 0 0 (va_A [(a0, zO 10 83 g0)] sz) := by
  refine z_met (Qc := fun A => (va_Qi (fun (r : Int32) (_ : Nat → Nat) => r = 0) (zB K A (fun u : Nat → Nat => [(a0, zO 10 83 (va_up g0 81 (.int 1)))])) A)) (by decide +kernel) (Nat.le_of_ble_eq_true rfl) ?_
  intro p e s m args below meth c A ls H hx hb hr hg hown hlocks hml hin hK hP hD hA hS hZ hl
  have hown : s.vm.findClass RX12 = some m.cls := hown
  have hl : lv_has ls 5 [(0, .ref a0), (1, .int (nI j0)), (2, .int (nI j1)), (3, .int 0), (4, .int 0)] := hl
  refine lv_aload_n hx hb dX12_mayRun_0 rfl (lv_at hl 0 rfl) ?_
  refine lv_iload_n hx hb dX12_mayRun_1 rfl (lv_at hl 1 rfl) ?_
  refine z_calli [] [(a0, zO 10 83 g0)] [] [0] hP hD hS hA rfl rfl (by decide) (by decide) (by decide +kernel) 0 0 rfl rfl (fun hPc hDc hF => z_runS (As := [.int (nI j0)]) (rest := [.ref a0]) ⟨hx, hb, hml, hown, hg⟩ (cX12_isGlobal_2 l K H.size j0 hj0) kS_RX12_197 hd_X12_isGlobal rfl rfl ⟨(Nat.le_of_ble_eq_true rfl), (Nat.le_of_ble_eq_true rfl)⟩ hK hS hZ hPc hDc hF rfl hl.1 rfl (Nat.le_of_ble_eq_true rfl) dX12_mayRun_2 ⟨(Nat.le_of_ble_eq_true rfl), (Nat.le_of_ble_eq_true rfl)⟩) (fun r3 u1 H locs w2 hP hD hS => ?_)
  subst w2
  have hP : va_P K.1 classes [(a0, zO 10 83 g0)] H := hP
  have hD : va_D A [(a0, zO 10 83 g0)] := hD
  refine lv_if_eq (tgt := 21) hx hb dX12_mayRun_5 (by decide) (fun c => absurd c (by decide)) (fun _ => ?_)
  refine lv_iload_n hx hb dX12_mayRun_8 rfl (lv_at hl 2 rfl) ?_
  refine lv_iconst (v := 0) hx hb dX12_mayRun_9 (by decide) ?_
  refine lv_iconst (v := 2) hx hb dX12_mayRun_10 (by decide) ?_
  refine z_calli [] [(a0, zO 10 83 g0)] [] [0] hP hD hS hA rfl rfl (by decide) (by decide) (by decide +kernel) 0 0 rfl rfl (fun hPc hDc hF => z_runS (As := [.int (nI j1), .int 0, .int 2]) (rest := [.ref a0]) ⟨hx, hb, hml, hown, hg⟩ (cX12_isIn_20 l K H.size j1 hj1) kS_RX12_175 hd_X12_isIn rfl rfl ⟨(Nat.le_of_ble_eq_true rfl), (Nat.le_of_ble_eq_true rfl)⟩ hK hS hZ hPc hDc hF rfl hl.1 rfl (Nat.le_of_ble_eq_true rfl) dX12_mayRun_11 ⟨(Nat.le_of_ble_eq_true rfl), (Nat.le_of_ble_eq_true rfl)⟩) (fun r6 u4 H locs w5 hP hD hS => ?_)
  subst w5
  have hP : va_P K.1 classes [(a0, zO 10 83 g0)] H := hP
  have hD : va_D A [(a0, zO 10 83 g0)] := hD
  refine lv_if_eq (tgt := 21) hx hb dX12_mayRun_14 (by decide) (fun c => absurd c (by decide)) (fun _ => ?_)
  refine lv_iload_n hx hb dX12_mayRun_17 rfl (lv_at hl 3 rfl) ?_
  refine lv_if_ne (tgt := 25) hx hb dX12_mayRun_18 (by decide) (fun c => absurd (by decide) c) (fun _ => ?_)
  refine lv_iconst (v := 1) hx hb dX12_mayRun_21 (by decide) ?_
  refine lv_goto (tgt := 42) hx hb dX12_mayRun_22 (by decide) ?_
  refine z_calli [(a0, zO 10 83 g0)] [] [0] [] hP hD hS hA rfl rfl (by decide) (by decide) (by decide +kernel) 0 0 rfl rfl (fun hPc hDc hF => z_runV (As := [.int 1]) (rest := []) ⟨hx, hb, hml, hown, hg⟩ (cX12_can_2 l K H.size a0 g0) kV_RX12_182 hd_X12_can rfl rfl ⟨(Nat.le_of_ble_eq_true rfl), (Nat.le_of_ble_eq_true rfl)⟩ hK hS hZ hPc hDc hF 0 rfl rfl rfl hl.1 rfl (Nat.le_of_ble_eq_true rfl) dX12_mayRun_42 ⟨(Nat.le_of_ble_eq_true rfl), (Nat.le_of_ble_eq_true rfl)⟩) (fun r9 u7 H locs w8 hP hD hS => ?_)
  subst w8
  have hP : va_P K.1 classes [(a0, zO 10 83 (va_up g0 81 (.int 1)))] H := hP
  have hD : va_D A [(a0, zO 10 83 (va_up g0 81 (.int 1)))] := hD
  have hP9 : va_P K.1 classes [(a0, zO 10 83 (va_up g0 81 (.int 1)))] H := hP.sub [0] rfl
  have hD9 : va_D A [(a0, zO 10 83 (va_up g0 81 (.int 1)))] := hD.sub [0] (by decide) rfl
  exact z_zret hx hb hr rfl (fun _ => 0) rfl hP9 hD9 hS (Nat.le_of_ble_eq_true rfl) (Nat.le_of_ble_eq_true rfl) hlocks dX12_mayRun_45
set_option maxHeartbeats 4000000 in
set_option maxRecDepth 100000 in
theorem cX12_run_3 (l : Launch) (K : zK) (sz : Nat) (a0 : Nat) (g0 : Nat → Value) (j0 : Nat) (hj0 : j0 < 8) (j1 : Nat) (hj1 : j1 < 3) (x2 : Int32) (x3 : Int32) (x4 : Int32) (e0 : x4 < (0 : Int32)) : Met l yX12_run (Cond.code yX12_run cX12_run 7 (some .int) :: WG) { frames := 3, cells := 0, slots := 0, locals := 66 } (zPre K [(a0, zO 10 83 g0)] sz [.ref a0, .int (nI j0), .int (nI j1), .int x2, .int x3, .int x4, .int 0]) (va_Qi (fun (r : Int32) (_ : Nat → Nat) => r = 0) (zB K (va_A [(a0, zO 10 83 g0)] sz) (fun u : Nat → Nat => [(a0, zO 10 83 (va_up g0 81 (.int 1)))])) (va_A [(a0, zO 10 83 g0)] sz)) 0 0 (va_A [(a0, zO 10 83 g0)] sz) := by
  refine z_met (Qc := fun A => (va_Qi (fun (r : Int32) (_ : Nat → Nat) => r = 0) (zB K A (fun u : Nat → Nat => [(a0, zO 10 83 (va_up g0 81 (.int 1)))])) A)) (by decide +kernel) (Nat.le_of_ble_eq_true rfl) ?_
  intro p e s m args below meth c A ls H hx hb hr hg hown hlocks hml hin hK hP hD hA hS hZ hl
  have hown : s.vm.findClass RX12 = some m.cls := hown
  have hl : lv_has ls 7 [(0, .ref a0), (1, .int (nI j0)), (2, .int (nI j1)), (3, .int x2), (4, .int x3), (5, .int x4), (6, .int 0)] := hl
  refine lv_aload_n hx hb dX12_run_0 rfl (lv_at hl 0 rfl) ?_
  refine lv_iload_n hx hb dX12_run_1 rfl (lv_at hl 1 rfl) ?_
  refine lv_iload_n hx hb dX12_run_2 rfl (lv_at hl 2 rfl) ?_
  refine lv_iload hx hb dX12_run_3 (lv_at hl 5 rfl) ?_
  refine lv_iconst (v := 0) hx hb dX12_run_5 (by decide) ?_
  refine lv_sipush (v := 600) hx hb dX12_run_6 (by decide) ?_
  refine z_calli [] [(a0, zO 10 83 g0)] [] [0] hP hD hS hA rfl rfl (by decide) (by decide) (by decide +kernel) 0 0 rfl rfl (fun hPc hDc hF => z_runS (As := [.int x4, .int 0, .int 600]) (rest := [.int (nI j1), .int (nI j0), .ref a0]) ⟨hx, hb, hml, hown, hg⟩ (cX12_isIn_18 l K H.size x4 e0) kS_RX12_175 hd_X12_isIn rfl rfl ⟨(Nat.le_of_ble_eq_true rfl), (Nat.le_of_ble_eq_true rfl)⟩ hK hS hZ hPc hDc hF rfl hl.1 rfl (Nat.le_of_ble_eq_true rfl) dX12_run_9 ⟨(Nat.le_of_ble_eq_true rfl), (Nat.le_of_ble_eq_true rfl)⟩) (fun r3 u1 H locs w2 hP hD hS => ?_)
  subst w2
  have hP : va_P K.1 classes [(a0, zO 10 83 g0)] H := hP
  have hD : va_D A [(a0, zO 10 83 g0)] := hD
  refine lv_iload hx hb dX12_run_12 (lv_at hl 6 rfl) ?_
  refine z_calli [(a0, zO 10 83 g0)] [] [0] [] hP hD hS hA rfl rfl (by decide) (by decide) (by decide +kernel) 0 0 rfl rfl (fun hPc hDc hF => z_runV (As := [.int (nI j0), .int (nI j1), .int 0, .int 0]) (rest := []) ⟨hx, hb, hml, hown, hg⟩ (cX12_mayRun_3 l K H.size a0 g0 j0 hj0 j1 hj1) kV_RX12_492 hd_X12_mayRun rfl rfl ⟨(Nat.le_of_ble_eq_true rfl), (Nat.le_of_ble_eq_true rfl)⟩ hK hS hZ hPc hDc hF 0 rfl rfl rfl hl.1 rfl (Nat.le_of_ble_eq_true rfl) dX12_run_14 ⟨(Nat.le_of_ble_eq_true rfl), (Nat.le_of_ble_eq_true rfl)⟩) (fun r6 u4 H locs w5 hP hD hS => ?_)
  subst w5
  have hP : va_P K.1 classes [(a0, zO 10 83 (va_up g0 81 (.int 1)))] H := hP
  have hD : va_D A [(a0, zO 10 83 (va_up g0 81 (.int 1)))] := hD
  refine lv_if_ne (tgt := 22) hx hb dX12_run_17 (by decide) (fun c => absurd (by decide) c) (fun _ => ?_)
  refine lv_iconst (v := 0) hx hb dX12_run_20 (by decide) ?_
  have hP9 : va_P K.1 classes [(a0, zO 10 83 (va_up g0 81 (.int 1)))] H := hP.sub [0] rfl
  have hD9 : va_D A [(a0, zO 10 83 (va_up g0 81 (.int 1)))] := hD.sub [0] (by decide) rfl
  exact z_iret hx hb hr (fun _ => 0) rfl hP9 hD9 hS (Nat.le_of_ble_eq_true rfl) (Nat.le_of_ble_eq_true rfl) hlocks dX12_run_21
set_option maxHeartbeats 4000000 in
set_option maxRecDepth 100000 in
theorem cX12_isIn_21 (l : Launch) (K : zK) (sz : Nat) (x0 : Int32) (e0 : ¬ x0 < (0 : Int32)) (e1 : (2 : Int32) < x0) : Met l yX12_isIn (Cond.code yX12_isIn cX12_isIn 3 (some .boolean) :: WG) { frames := 0, cells := 0, slots := 0, locals := 0 } (zPre K [] sz [.int x0, .int 0, .int 2]) (va_Qi (fun (r : Int32) (_ : Nat → Nat) => r = 0) (zB K (va_A [] sz) (fun u : Nat → Nat => [])) (va_A [] sz)) 0 0 (va_A [] sz) := by
  refine z_met (Qc := fun A => (va_Qi (fun (r : Int32) (_ : Nat → Nat) => r = 0) (zB K A (fun u : Nat → Nat => [])) A)) (by decide +kernel) (Nat.le_of_ble_eq_true rfl) ?_
  intro p e s m args below meth c A ls H hx hb hr hg hown hlocks hml hin hK hP hD hA hS hZ hl
  have hown : s.vm.findClass RX12 = some m.cls := hown
  have hl : lv_has ls 3 [(0, .int x0), (1, .int 0), (2, .int 2)] := hl
  refine lv_iload_n hx hb dX12_isIn_0 rfl (lv_at hl 0 rfl) ?_
  refine lv_iload_n hx hb dX12_isIn_1 rfl (lv_at hl 1 rfl) ?_
  refine lv_icmp_lt (tgt := 14) hx hb dX12_isIn_2 (by decide) (fun c => absurd c e0) (fun _ => ?_)
  refine lv_iload_n hx hb dX12_isIn_5 rfl (lv_at hl 0 rfl) ?_
  refine lv_iload_n hx hb dX12_isIn_6 rfl (lv_at hl 2 rfl) ?_
  refine lv_icmp_gt (tgt := 14) hx hb dX12_isIn_7 (by decide) (fun _ => ?_) (fun c => absurd e1 c)
  refine lv_iconst (v := 0) hx hb dX12_isIn_14 (by decide) ?_
  have hP9 : va_P K.1 classes [] H := hP.sub [] rfl
  have hD9 : va_D A [] := hD.sub [] (by decide) rfl
  exact z_zret hx hb hr rfl (fun _ => 0) rfl hP9 hD9 hS (Nat.le_of_ble_eq_true rfl) (Nat.le_of_ble_eq_true rfl) hlocks dX12_isIn_15
set_option maxHeartbeats 4000000 in
set_option maxRecDepth 100000 in
theorem cX12_mayRun_4 (l : Launch) (K : zK) (sz : Nat) (a0 : Nat) (g0 : Nat → Value) (j0 : Nat) (hj0 : j0 < 8) (x1 : Int32) (e0 : ¬ x1 < (0 : Int32)) (e1 : (2 : Int32) < x1) : Met l yX12_mayRun (Cond.code yX12_mayRun cX12_mayRun 5 (some .boolean) :: WG) { frames := 2, cells := 0, slots := 0, locals := 42 } (zPre K [(a0, zO 10 83 g0)] sz [.ref a0, .int (nI j0), .int x1, .int 0, .int 0]) (va_Qi (fun (r : Int32) (_ : Nat → Nat) => r = 0) (zB K (va_A [(a0, zO 10 83 g0)] sz) (fun u : Nat → Nat => [(a0, zO 10 83 (va_up g0 81 (.int 1)))])) (va_A [(a0, zO 10 83 g0)] sz)) 0 0 (va_A [(a0, zO 10 83 g0)] sz) := by
  refine z_met (Qc := fun A => (va_Qi (fun (r : Int32) (_ : Nat → Nat) => r = 0) (zB K A (fun u : Nat → Nat => [(a0, zO 10 83 (va_up g0 81 (.int 1)))])) A)) (by decide +kernel) (Nat.le_of_ble_eq_true rfl) ?_
  intro p e s m args below meth c A ls H hx hb hr hg hown hlocks hml hin hK hP hD hA hS hZ hl
  have hown : s.vm.findClass RX12 = some m.cls := hown
  have hl : lv_has ls 5 [(0, .ref a0), (1, .int (nI j0)), (2, .int x1), (3, .int 0), (4, .int 0)] := hl
  refine lv_aload_n hx hb dX12_mayRun_0 rfl (lv_at hl 0 rfl) ?_
  refine lv_iload_n hx hb dX12_mayRun_1 rfl (lv_at hl 1 rfl) ?_
  refine z_calli [] [(a0, zO 10 83 g0)] [] [0] hP hD hS hA rfl rfl (by decide) (by decide) (by decide +kernel) 0 0 rfl rfl (fun hPc hDc hF => z_runS (As := [.int (nI j0)]) (rest := [.ref a0]) ⟨hx, hb, hml, hown, hg⟩ (cX12_isGlobal_2 l K H.size j0 hj0) kS_RX12_197 hd_X12_isGlobal rfl rfl ⟨(Nat.le_of_ble_eq_true rfl), (Nat.le_of_ble_eq_true rfl)⟩ hK hS hZ hPc hDc hF rfl hl.1 rfl (Nat.le_of_ble_eq_true rfl) dX12_mayRun_2 ⟨(Nat.le_of_ble_eq_true rfl), (Nat.le_of_ble_eq_true rfl)⟩) (fun r3 u1 H locs w2 hP hD hS => ?_)
  subst w2
  have hP : va_P K.1 classes [(a0, zO 10 83 g0)] H := hP
  have hD : va_D A [(a0, zO 10 83 g0)] := hD
  refine lv_if_eq (tgt := 21) hx hb dX12_mayRun_5 (by decide) (fun c => absurd c (by decide)) (fun _ => ?_)
  refine lv_iload_n hx hb dX12_mayRun_8 rfl (lv_at hl 2 rfl) ?_
  refine lv_iconst (v := 0) hx hb dX12_mayRun_9 (by decide) ?_
  refine lv_iconst (v := 2) hx hb dX12_mayRun_10 (by decide) ?_
  refine z_calli [] [(a0, zO 10 83 g0)] [] [0] hP hD hS hA rfl rfl (by decide) (by decide) (by decide +kernel) 0 0 rfl rfl (fun hPc hDc hF => z_runS (As := [.int x1, .int 0, .int 2]) (rest := [.ref a0]) ⟨hx, hb, hml, hown, hg⟩ (cX12_isIn_21 l K H.size x1 e0 e1) kS_RX12_175 hd_X12_isIn rfl rfl ⟨(Nat.le_of_ble_eq_true rfl), (Nat.le_of_ble_eq_true rfl)⟩ hK hS hZ hPc hDc hF rfl hl.1 rfl (Nat.le_of_ble_eq_true rfl) dX12_mayRun_11 ⟨(Nat.le_of_ble_eq_true rfl), (Nat.le_of_ble_eq_true rfl)⟩) (fun r6 u4 H locs w5 hP hD hS => ?_)
  subst w5
  have hP : va_P K.1 classes [(a0, zO 10 83 g0)] H := hP
  have hD : va_D A [(a0, zO 10 83 g0)] := hD
  refine lv_if_eq (tgt := 21) hx hb dX12_mayRun_14 (by decide) (fun _ => ?_) (fun c => absurd (by decide) c)
  refine lv_iconst (v := 1) hx hb dX12_mayRun_21 (by decide) ?_
  refine lv_goto (tgt := 42) hx hb dX12_mayRun_22 (by decide) ?_
  refine z_calli [(a0, zO 10 83 g0)] [] [0] [] hP hD hS hA rfl rfl (by decide) (by decide) (by decide +kernel) 0 0 rfl rfl (fun hPc hDc hF => z_runV (As := [.int 1]) (rest := []) ⟨hx, hb, hml, hown, hg⟩ (cX12_can_2 l K H.size a0 g0) kV_RX12_182 hd_X12_can rfl rfl ⟨(Nat.le_of_ble_eq_true rfl), (Nat.le_of_ble_eq_true rfl)⟩ hK hS hZ hPc hDc hF 0 rfl rfl rfl hl.1 rfl (Nat.le_of_ble_eq_true rfl) dX12_mayRun_42 ⟨(Nat.le_of_ble_eq_true rfl), (Nat.le_of_ble_eq_true rfl)⟩) (fun r9 u7 H locs w8 hP hD hS => ?_)
  subst w8
  have hP : va_P K.1 classes [(a0, zO 10 83 (va_up g0 81 (.int 1)))] H := hP
  have hD : va_D A [(a0, zO 10 83 (va_up g0 81 (.int 1)))] := hD
  have hP9 : va_P K.1 classes [(a0, zO 10 83 (va_up g0 81 (.int 1)))] H := hP.sub [0] rfl
  have hD9 : va_D A [(a0, zO 10 83 (va_up g0 81 (.int 1)))] := hD.sub [0] (by decide) rfl
  exact z_zret hx hb hr rfl (fun _ => 0) rfl hP9 hD9 hS (Nat.le_of_ble_eq_true rfl) (Nat.le_of_ble_eq_true rfl) hlocks dX12_mayRun_45
set_option maxHeartbeats 4000000 in
set_option maxRecDepth 100000 in
theorem cX12_run_4 (l : Launch) (K : zK) (sz : Nat) (a0 : Nat) (g0 : Nat → Value) (j0 : Nat) (hj0 : j0 < 8) (x1 : Int32) (x2 : Int32) (x3 : Int32) (x4 : Int32) (e0 : x4 < (0 : Int32)) (e1 : ¬ x1 < (0 : Int32)) (e2 : (2 : Int32) < x1) : Met l yX12_run (Cond.code yX12_run cX12_run 7 (some .int) :: WG) { frames := 3, cells := 0, slots := 0, locals := 66 } (zPre K [(a0, zO 10 83 g0)] sz [.ref a0, .int (nI j0), .int x1, .int x2, .int x3, .int x4, .int 0]) (va_Qi (fun (r : Int32) (_ : Nat → Nat) => r = 0) (zB K (va_A [(a0, zO 10 83 g0)] sz) (fun u : Nat → Nat => [(a0, zO 10 83 (va_up g0 81 (.int 1)))])) (va_A [(a0, zO 10 83 g0)] sz)) 0 0 (va_A [(a0, zO 10 83 g0)] sz) := by
  refine z_met (Qc := fun A => (va_Qi (fun (r : Int32) (_ : Nat → Nat) => r = 0) (zB K A (fun u : Nat → Nat => [(a0, zO 10 83 (va_up g0 81 (.int 1)))])) A)) (by decide +kernel) (Nat.le_of_ble_eq_true rfl) ?_
  intro p e s m args below meth c A ls H hx hb hr hg hown hlocks hml hin hK hP hD hA hS hZ hl
  have hown : s.vm.findClass RX12 = some m.cls := hown
  have hl : lv_has ls 7 [(0, .ref a0), (1, .int (nI j0)), (2, .int x1), (3, .int x2), (4, .int x3), (5, .int x4), (6, .int 0)] := hl
  refine lv_aload_n hx hb dX12_run_0 rfl (lv_at hl 0 rfl) ?_
  refine lv_iload_n hx hb dX12_run_1 rfl (lv_at hl 1 rfl) ?_
  refine lv_iload_n hx hb dX12_run_2 rfl (lv_at hl 2 rfl) ?_
  refine lv_iload hx hb dX12_run_3 (lv_at hl 5 rfl) ?_
  refine lv_iconst (v := 0) hx hb dX12_run_5 (by decide) ?_
  refine lv_sipush (v := 600) hx hb dX12_run_6 (by decide) ?_
  refine z_calli [] [(a0, zO 10 83 g0)] [] [0] hP hD hS hA rfl rfl (by decide) (by decide) (by decide +kernel) 0 0 rfl rfl (fun hPc hDc hF => z_runS (As := [.int x4, .int 0, .int 600]) (rest := [.int x1, .int (nI j0), .ref a0]) ⟨hx, hb, hml, hown, hg⟩ (cX12_isIn_18 l K H.size x4 e0) kS_RX12_175 hd_X12_isIn rfl rfl ⟨(Nat.le_of_ble_eq_true rfl), (Nat.le_of_ble_eq_true rfl)⟩ hK hS hZ hPc hDc hF rfl hl.1 rfl (Nat.le_of_ble_eq_true rfl) dX12_run_9 ⟨(Nat.le_of_ble_eq_true rfl), (Nat.le_of_ble_eq_true rfl)⟩) (fun r3 u1 H locs w2 hP hD hS => ?_)
  subst w2
  have hP : va_P K.1 classes [(a0, zO 10 83 g0)] H := hP
  have hD : va_D A [(a0, zO 10 83 g0)] := hD
  refine lv_iload hx hb dX12_run_12 (lv_at hl 6 rfl) ?_
  refine z_calli [(a0, zO 10 83 g0)] [] [0] [] hP hD hS hA rfl rfl (by decide) (by decide) (by decide +kernel) 0 0 rfl rfl (fun hPc hDc hF => z_runV (As := [.int (nI j0), .int x1, .int 0, .int 0]) (rest := []) ⟨hx, hb, hml, hown, hg⟩ (cX12_mayRun_4 l K H.size a0 g0 j0 hj0 x1 e1 e2) kV_RX12_492 hd_X12_mayRun rfl rfl ⟨(Nat.le_of_ble_eq_true rfl), (Nat.le_of_ble_eq_true rfl)⟩ hK hS hZ hPc hDc hF 0 rfl rfl rfl hl.1 rfl (Nat.le_of_ble_eq_true rfl) dX12_run_14 ⟨(Nat.le_of_ble_eq_true rfl), (Nat.le_of_ble_eq_true rfl)⟩) (fun r6 u4 H locs w5 hP hD hS => ?_)
  subst w5
  have hP : va_P K.1 classes [(a0, zO 10 83 (va_up g0 81 (.int 1)))] H := hP
  have hD : va_D A [(a0, zO 10 83 (va_up g0 81 (.int 1)))] := hD
  refine lv_if_ne (tgt := 22) hx hb dX12_run_17 (by decide) (fun c => absurd (by decide) c) (fun _ => ?_)
  refine lv_iconst (v := 0) hx hb dX12_run_20 (by decide) ?_
  have hP9 : va_P K.1 classes [(a0, zO 10 83 (va_up g0 81 (.int 1)))] H := hP.sub [0] rfl
  have hD9 : va_D A [(a0, zO 10 83 (va_up g0 81 (.int 1)))] := hD.sub [0] (by decide) rfl
  exact z_iret hx hb hr (fun _ => 0) rfl hP9 hD9 hS (Nat.le_of_ble_eq_true rfl) (Nat.le_of_ble_eq_true rfl) hlocks dX12_run_21
set_option maxHeartbeats 4000000 in
set_option maxRecDepth 100000 in
theorem cX12_mayRun_5 (l : Launch) (K : zK) (sz : Nat) (a0 : Nat) (g0 : Nat → Value) (x0 : Int32) (x1 : Int32) (e0 : ¬ x0 < (0 : Int32)) (e1 : (7 : Int32) < x0) : Met l yX12_mayRun (Cond.code yX12_mayRun cX12_mayRun 5 (some .boolean) :: WG) { frames := 2, cells := 0, slots := 0, locals := 42 } (zPre K [(a0, zO 10 83 g0)] sz [.ref a0, .int x0, .int x1, .int 0, .int 0]) (va_Qi (fun (r : Int32) (_ : Nat → Nat) => r = 0) (zB K (va_A [(a0, zO 10 83 g0)] sz) (fun u : Nat → Nat => [(a0, zO 10 83 (va_up g0 81 (.int 1)))])) (va_A [(a0, zO 10 83 g0)] sz)) 0 0 (va_A [(a0, zO 10 83 g0)] sz) := by
  refine z_met (Qc := fun A => (va_Qi (fun (r : Int32) (_ : Nat → Nat) => r = 0) (zB K A (fun u : Nat → Nat => [(a0, zO 10 83 (va_up g0 81 (.int 1)))])) A)) (by decide +kernel) (Nat.le_of_ble_eq_true rfl) ?_
  intro p e s m args below meth c A ls H hx hb hr hg hown hlocks hml hin hK hP hD hA hS hZ hl
  have hown : s.vm.findClass RX12 = some m.cls := hown
  have hl : lv_has ls 5 [(0, .ref a0), (1, .int x0), (2, .int x1), (3, .int 0), (4, .int 0)] := hl
  refine lv_aload_n hx hb dX12_mayRun_0 rfl (lv_at hl 0 rfl) ?_
  refine lv_iload_n hx hb dX12_mayRun_1 rfl (lv_at hl 1 rfl) ?_
  refine z_calli [] [(a0, zO 10 83 g0)] [] [0] hP hD hS hA rfl rfl (by decide) (by decide) (by decide +kernel) 0 0 rfl rfl (fun hPc hDc hF => z_runS (As := [.int x0]) (rest := [.ref a0]) ⟨hx, hb, hml, hown, hg⟩ (cX12_isGlobal_3 l K H.size x0 e0 e1) kS_RX12_197 hd_X12_isGlobal rfl rfl ⟨(Nat.le_of_ble_eq_true rfl), (Nat.le_of_ble_eq_true rfl)⟩ hK hS hZ hPc hDc hF rfl hl.1 rfl (Nat.le_of_ble_eq_true rfl) dX12_mayRun_2 ⟨(Nat.le_of_ble_eq_true rfl), (Nat.le_of_ble_eq_true rfl)⟩) (fun r3 u1 H locs w2 hP hD hS => ?_)
  subst w2
  have hP : va_P K.1 classes [(a0, zO 10 83 g0)] H := hP
  have hD : va_D A [(a0, zO 10 83 g0)] := hD
  refine lv_if_eq (tgt := 21) hx hb dX12_mayRun_5 (by decide) (fun _ => ?_) (fun c => absurd (by decide) c)
  refine lv_iconst (v := 1) hx hb dX12_mayRun_21 (by decide) ?_
  refine lv_goto (tgt := 42) hx hb dX12_mayRun_22 (by decide) ?_
  refine z_calli [(a0, zO 10 83 g0)] [] [0] [] hP hD hS hA rfl rfl (by decide) (by decide) (by decide +kernel) 0 0 rfl rfl (fun hPc hDc hF => z_runV (As := [.int 1]) (rest := []) ⟨hx, hb, hml, hown, hg⟩ (cX12_can_2 l K H.size a0 g0) kV_RX12_182 hd_X12_can rfl rfl ⟨(Nat.le_of_ble_eq_true rfl), (Nat.le_of_ble_eq_true rfl)⟩ hK hS hZ hPc hDc hF 0 rfl rfl rfl hl.1 rfl (Nat.le_of_ble_eq_true rfl) dX12_mayRun_42 ⟨(Nat.le_of_ble_eq_true rfl), (Nat.le_of_ble_eq_true rfl)⟩) (fun r6 u4 H locs w5 hP hD hS => ?_)
  subst w5
  have hP : va_P K.1 classes [(a0, zO 10 83 (va_up g0 81 (.int 1)))] H := hP
  have hD : va_D A [(a0, zO 10 83 (va_up g0 81 (.int 1)))] := hD
  have hP9 : va_P K.1 classes [(a0, zO 10 83 (va_up g0 81 (.int 1)))] H := hP.sub [0] rfl
  have hD9 : va_D A [(a0, zO 10 83 (va_up g0 81 (.int 1)))] := hD.sub [0] (by decide) rfl
  exact z_zret hx hb hr rfl (fun _ => 0) rfl hP9 hD9 hS (Nat.le_of_ble_eq_true rfl) (Nat.le_of_ble_eq_true rfl) hlocks dX12_mayRun_45
set_option maxHeartbeats 4000000 in
set_option maxRecDepth 100000 in
theorem cX12_run_5 (l : Launch) (K : zK) (sz : Nat) (a0 : Nat) (g0 : Nat → Value) (x0 : Int32) (x1 : Int32) (x2 : Int32) (x3 : Int32) (x4 : Int32) (e0 : x4 < (0 : Int32)) (e1 : ¬ x0 < (0 : Int32)) (e2 : (7 : Int32) < x0) : Met l yX12_run (Cond.code yX12_run cX12_run 7 (some .int) :: WG) { frames := 3, cells := 0, slots := 0, locals := 66 } (zPre K [(a0, zO 10 83 g0)] sz [.ref a0, .int x0, .int x1, .int x2, .int x3, .int x4, .int 0]) (va_Qi (fun (r : Int32) (_ : Nat → Nat) => r = 0) (zB K (va_A [(a0, zO 10 83 g0)] sz) (fun u : Nat → Nat => [(a0, zO 10 83 (va_up g0 81 (.int 1)))])) (va_A [(a0, zO 10 83 g0)] sz)) 0 0 (va_A [(a0, zO 10 83 g0)] sz) := by
  refine z_met (Qc := fun A => (va_Qi (fun (r : Int32) (_ : Nat → Nat) => r = 0) (zB K A (fun u : Nat → Nat => [(a0, zO 10 83 (va_up g0 81 (.int 1)))])) A)) (by decide +kernel) (Nat.le_of_ble_eq_true rfl) ?_
  intro p e s m args below meth c A ls H hx hb hr hg hown hlocks hml hin hK hP hD hA hS hZ hl
  have hown : s.vm.findClass RX12 = some m.cls := hown
  have hl : lv_has ls 7 [(0, .ref a0), (1, .int x0), (2, .int x1), (3, .int x2), (4, .int x3), (5, .int x4), (6, .int 0)] := hl
  refine lv_aload_n hx hb dX12_run_0 rfl (lv_at hl 0 rfl) ?_
  refine lv_iload_n hx hb dX12_run_1 rfl (lv_at hl 1 rfl) ?_
  refine lv_iload_n hx hb dX12_run_2 rfl (lv_at hl 2 rfl) ?_
  refine lv_iload hx hb dX12_run_3 (lv_at hl 5 rfl) ?_
  refine lv_iconst (v := 0) hx hb dX12_run_5 (by decide) ?_
  refine lv_sipush (v := 600) hx hb dX12_run_6 (by decide) ?_
  refine z_calli [] [(a0, zO 10 83 g0)] [] [0] hP hD hS hA rfl rfl (by decide) (by decide) (by decide +kernel) 0 0 rfl rfl (fun hPc hDc hF => z_runS (As := [.int x4, .int 0, .int 600]) (rest := [.int x1, .int x0, .ref a0]) ⟨hx, hb, hml, hown, hg⟩ (cX12_isIn_18 l K H.size x4 e0) kS_RX12_175 hd_X12_isIn rfl rfl ⟨(Nat.le_of_ble_eq_true rfl), (Nat.le_of_ble_eq_true rfl)⟩ hK hS hZ hPc hDc hF rfl hl.1 rfl (Nat.le_of_ble_eq_true rfl) dX12_run_9 ⟨(Nat.le_of_ble_eq_true rfl), (Nat.le_of_ble_eq_true rfl)⟩) (fun r3 u1 H locs w2 hP hD hS => ?_)
  subst w2
  have hP : va_P K.1 classes [(a0, zO 10 83 g0)] H := hP
  have hD : va_D A [(a0, zO 10 83 g0)] := hD
  refine lv_iload hx hb dX12_run_12 (lv_at hl 6 rfl) ?_
  refine z_calli [(a0, zO 10 83 g0)] [] [0] [] hP hD hS hA rfl rfl (by decide) (by decide) (by decide +kernel) 0 0 rfl rfl (fun hPc hDc hF => z_runV (As := [.int x0, .int x1, .int 0, .int 0]) (rest := []) ⟨hx, hb, hml, hown, hg⟩ (cX12_mayRun_5 l K H.size a0 g0 x0 x1 e1 e2) kV_RX12_492 hd_X12_mayRun rfl rfl ⟨(Nat.le_of_ble_eq_true rfl), (Nat.le_of_ble_eq_true rfl)⟩ hK hS hZ hPc hDc hF 0 rfl rfl rfl hl.1 rfl (Nat.le_of_ble_eq_true rfl) dX12_run_14 ⟨(Nat.le_of_ble_eq_true rfl), (Nat.le_of_ble_eq_true rfl)⟩) (fun r6 u4 H locs w5 hP hD hS => ?_)
  subst w5
  have hP : va_P K.1 classes [(a0, zO 10 83 (va_up g0 81 (.int 1)))] H := hP
  have hD : va_D A [(a0, zO 10 83 (va_up g0 81 (.int 1)))] := hD
  refine lv_if_ne (tgt := 22) hx hb dX12_run_17 (by decide) (fun c => absurd (by decide) c) (fun _ => ?_)
  refine lv_iconst (v := 0) hx hb dX12_run_20 (by decide) ?_
  have hP9 : va_P K.1 classes [(a0, zO 10 83 (va_up g0 81 (.int 1)))] H := hP.sub [0] rfl
  have hD9 : va_D A [(a0, zO 10 83 (va_up g0 81 (.int 1)))] := hD.sub [0] (by decide) rfl
  exact z_iret hx hb hr (fun _ => 0) rfl hP9 hD9 hS (Nat.le_of_ble_eq_true rfl) (Nat.le_of_ble_eq_true rfl) hlocks dX12_run_21
set_option maxHeartbeats 4000000 in
set_option maxRecDepth 100000 in
theorem cX11_checkRange_14 (l : Launch) (K : zK) (sz : Nat) (a0 : Nat) (g0 : Nat → Value) (x0 : Int32) (e0 : ¬ x0 < (0 : Int32)) (e1 : x0 < (601 : Int32)) : Met l yX11_checkRange (Cond.code yX11_checkRange cX11_checkRange 3 none :: WG) { frames := 0, cells := 0, slots := 0, locals := 0 } (zPre K [(a0, zO 9 9 g0)] sz [.ref a0, .int x0, .int 601]) (va_Qv (fun _ : Nat → Nat => True) (zB K (va_A [(a0, zO 9 9 g0)] sz) (fun u : Nat → Nat => [(a0, zO 9 9 g0)])) (va_A [(a0, zO 9 9 g0)] sz)) 0 0 (va_A [(a0, zO 9 9 g0)] sz) := by
  refine z_met (Qc := fun A => (va_Qv (fun _ : Nat → Nat => True) (zB K A (fun u : Nat → Nat => [(a0, zO 9 9 g0)])) A)) (by decide +kernel) (Nat.le_of_ble_eq_true rfl) ?_
  intro p e s m args below meth c A ls H hx hb hr hg hown hlocks hml hin hK hP hD hA hS hZ hl
  have hown : s.vm.findClass RX11 = some m.cls := hown
  have hl : lv_has ls 3 [(0, .ref a0), (1, .int x0), (2, .int 601)] := hl
  refine lv_iload_n hx hb dX11_checkRange_0 rfl (lv_at hl 1 rfl) ?_
  refine lv_if_lt (tgt := 9) hx hb dX11_checkRange_1 (by decide) (fun c => absurd c e0) (fun _ => ?_)
  refine lv_iload_n hx hb dX11_checkRange_4 rfl (lv_at hl 1 rfl) ?_
  refine lv_iload_n hx hb dX11_checkRange_5 rfl (lv_at hl 2 rfl) ?_
  refine lv_icmp_lt (tgt := 19) hx hb dX11_checkRange_6 (by decide) (fun _ => ?_) (fun c => absurd e1 c)
  have hP9 : va_P K.1 classes [(a0, zO 9 9 g0)] H := hP.sub [0] rfl
  have hD9 : va_D A [(a0, zO 9 9 g0)] := hD.sub [0] (by decide) rfl
  exact z_vret hx hb hr (fun _ => 0) trivial hP9 hD9 hS (Nat.le_of_ble_eq_true rfl) (Nat.le_of_ble_eq_true rfl) hlocks dX11_checkRange_19
set_option maxHeartbeats 4000000 in
set_option maxRecDepth 100000 in
theorem cX11_programToRun_1 (l : Launch) (hl9 : l.stackTraces = false) (K : zK) (sz : Nat) (a0 : Nat) (g0 : Nat → Value) (x0 : Int32) (x1 : Int32) (e0 : x0 < (0 : Int32)) : vx_Met l yX11_programToRun (Cond.code yX11_programToRun cX11_programToRun 4 (some (.object "LazyLoom$Program")) :: WG) { frames := 7, cells := 1, slots := 6, locals := 104 } (zPre K [(a0, zO 9 9 g0)] sz [.ref a0, .int x0, .int x1, .int 0]) (va_Qv (fun _ : Unit => False) (fun _ _ => True) (va_A [(a0, zO 9 9 g0)] sz)) (zX (va_A [(a0, zO 9 9 g0)] sz) zIA) 1 6 (va_A [(a0, zO 9 9 g0)] sz) := by
  refine z_xmet (Qc := fun A => va_Qv (fun _ : Unit => False) (fun _ _ => True) A) (XC := fun A => zX A zIA) (by decide +kernel) (Nat.le_of_ble_eq_true rfl) ?_
  intro p e s m args below meth c A ls H hx hb hr hg hown hlocks hml hno hK hP hD hA hS hZ hl
  have hown : s.vm.findClass RX11 = some m.cls := hown
  have hl : lv_has ls 4 [(0, .ref a0), (1, .int x0), (2, .int x1), (3, .int 0)] := hl
  refine lv_aload_n hx hb dX11_programToRun_0 rfl (lv_at hl 0 rfl) ?_
  refine lv_iload_n hx hb dX11_programToRun_1 rfl (lv_at hl 1 rfl) ?_
  refine lv_bipush (v := 8) hx hb dX11_programToRun_2 (by decide) ?_
  refine z_xcall (EX := zIA) [(a0, zO 9 9 g0)] [0] hP hD hS hA rfl (by decide) 1 6 rfl rfl (fun hPc hDc hF => z_xrunV (As := [.int x0, .int 8]) (rest := []) ⟨hx, hb, hml, hown, hg⟩ (cX11_checkRange_4 l hl9 K H.size a0 g0 x0 e0) kV_RX11_72 hd_X11_checkRange rfl rfl ⟨(Nat.le_of_ble_eq_true rfl), (Nat.le_of_ble_eq_true rfl)⟩ hK hS hZ hPc hDc hF 0 rfl rfl rfl hl.1 rfl (Nat.le_of_ble_eq_true rfl) dX11_programToRun_4 ⟨(Nat.le_of_ble_eq_true rfl), (Nat.le_of_ble_eq_true rfl)⟩) (fun ce q9 H locs hS hce hcv hcl => ?_)
  exact z_xout hno hlocks hS hce hcv hcl (Nat.le_of_ble_eq_true rfl) (Nat.le_of_ble_eq_true rfl)
set_option maxHeartbeats 4000000 in
set_option maxRecDepth 100000 in
theorem cX11_run_4 (l : Launch) (hl9 : l.stackTraces = false) (K : zK) (sz : Nat) (a0 : Nat) (g0 : Nat → Value) (x0 : Int32) (x1 : Int32) (x2 : Int32) (x3 : Int32) (x4 : Int32) (e0 : ¬ x4 < (0 : Int32)) (e1 : x4 < (601 : Int32)) (e2 : x0 < (0 : Int32)) : vx_Met l yX11_run (Cond.code yX11_run cX11_run 9 (some .int) :: WG) { frames := 8, cells := 1, slots := 6, locals := 127 } (zPre K [(a0, zO 9 9 g0)] sz [.ref a0, .int x0, .int x1, .int x2, .int x3, .int x4, .int 0]) (va_Qv (fun _ : Unit => False) (fun _ _ => True) (va_A [(a0, zO 9 9 g0)] sz)) (zX (va_A [(a0, zO 9 9 g0)] sz) zIA) 1 6 (va_A [(a0, zO 9 9 g0)] sz) := by
  refine z_xmet (Qc := fun A => va_Qv (fun _ : Unit => False) (fun _ _ => True) A) (XC := fun A => zX A zIA) (by decide +kernel) (Nat.le_of_ble_eq_true rfl) ?_
  intro p e s m args below meth c A ls H hx hb hr hg hown hlocks hml hno hK hP hD hA hS hZ hl
  have hown : s.vm.findClass RX11 = some m.cls := hown
  have hl : lv_has ls 9 [(0, .ref a0), (1, .int x0), (2, .int x1), (3, .int x2), (4, .int x3), (5, .int x4), (6, .int 0)] := hl
  refine lv_aload_n hx hb dX11_run_0 rfl (lv_at hl 0 rfl) ?_
  refine lv_iload hx hb dX11_run_1 (lv_at hl 5 rfl) ?_
  refine lv_sipush (v := 601) hx hb dX11_run_3 (by decide) ?_
  refine z_callv [(a0, zO 9 9 g0)] [] [0] [] hP hD hS hA rfl rfl (by decide) (by decide) (by decide +kernel) 0 0 rfl rfl (fun hPc hDc hF => z_runV (As := [.int x4, .int 601]) (rest := []) ⟨hx, hb, hml, hown, hg⟩ (cX11_checkRange_14 l K H.size a0 g0 x4 e0 e1) kV_RX11_72 hd_X11_checkRange rfl rfl ⟨(Nat.le_of_ble_eq_true rfl), (Nat.le_of_ble_eq_true rfl)⟩ hK hS hZ hPc hDc hF 0 rfl rfl rfl hl.1 rfl (Nat.le_of_ble_eq_true rfl) dX11_run_6 ⟨(Nat.le_of_ble_eq_true rfl), (Nat.le_of_ble_eq_true rfl)⟩) (fun u1 H locs w2 hP hD hS => ?_)
  have hP : va_P K.1 classes [(a0, zO 9 9 g0)] H := hP
  have hD : va_D A [(a0, zO 9 9 g0)] := hD
  refine lv_aload_n hx hb dX11_run_9 rfl (lv_at hl 0 rfl) ?_
  refine lv_iload_n hx hb dX11_run_10 rfl (lv_at hl 1 rfl) ?_
  refine lv_iload_n hx hb dX11_run_11 rfl (lv_at hl 2 rfl) ?_
  refine lv_iload hx hb dX11_run_12 (lv_at hl 6 rfl) ?_
  refine z_xcall (EX := zIA) [(a0, zO 9 9 g0)] [0] hP hD hS hA rfl (by decide) 1 6 rfl rfl (fun hPc hDc hF => z_xrunV (As := [.int x0, .int x1, .int 0]) (rest := []) ⟨hx, hb, hml, hown, hg⟩ (cX11_programToRun_1 l hl9 K H.size a0 g0 x0 x1 e2) kV_RX11_130 hd_X11_programToRun rfl rfl ⟨(Nat.le_of_ble_eq_true rfl), (Nat.le_of_ble_eq_true rfl)⟩ hK hS hZ hPc hDc hF 0 rfl rfl rfl hl.1 rfl (Nat.le_of_ble_eq_true rfl) dX11_run_14 ⟨(Nat.le_of_ble_eq_true rfl), (Nat.le_of_ble_eq_true rfl)⟩) (fun ce q9 H locs hS hce hcv hcl => ?_)
  exact z_xout hno hlocks hS hce hcv hcl (Nat.le_of_ble_eq_true rfl) (Nat.le_of_ble_eq_true rfl)
set_option maxHeartbeats 4000000 in
set_option maxRecDepth 100000 in
theorem cL_run_4 (l : Launch) (hl9 : l.stackTraces = false) (K : zK) (sz : Nat) (a0 : Nat) (a1 : Nat) (g0 : Nat → Value) (x0 : Int32) (x1 : Int32) (x2 : Int32) (x3 : Int32) (x4 : Int32) (e0 : ¬ x4 < (0 : Int32)) (e1 : x4 < (601 : Int32)) (e2 : x0 < (0 : Int32)) : vx_Met l yL_run (Cond.codeWith yL_run cL_run 9 (some .int) [(0, 18, 21, 18), (0, 18, 25, 13)] :: WG) { frames := 9, cells := 1, slots := 6, locals := 155 } (zPre K [(a0, zO 9 9 g0)] sz [.ref a0, .int x0, .int x1, .int x2, .int x3, .int x4, .int 0, .ref a1]) (va_Qi (fun (r : Int32) (_ : Nat → Nat) => r = 1) (zB K (va_A [(a0, zO 9 9 g0)] sz) (fun u : Nat → Nat => [])) (va_A [(a0, zO 9 9 g0)] sz)) (vx_X (fun _ : Unit => False) (fun _ _ _ => True) (va_A [(a0, zO 9 9 g0)] sz)) 1 6 (va_A [(a0, zO 9 9 g0)] sz) := by
  refine z_hmet (Qc := fun A => (va_Qi (fun (r : Int32) (_ : Nat → Nat) => r = 1) (zB K A (fun u : Nat → Nat => [])) A)) (XC := fun A => vx_X (fun _ : Unit => False) (fun _ _ _ => True) A) (by decide +kernel) (Nat.le_of_ble_eq_true rfl) ?_
  intro p e s m args below meth c A ls H hx hb hr hg hown hlocks hml hTab hK hP hD hA hS hZ hl
  have hown : s.vm.findClass RL = some m.cls := hown
  have hl : lv_has ls 9 [(0, .ref a0), (1, .int x0), (2, .int x1), (3, .int x2), (4, .int x3), (5, .int x4), (6, .int 0), (7, .ref a1)] := hl
  refine lv_aload hx hb dL_run_0 (lv_at hl 7 rfl) ?_
  refine lv_iconst (v := 0) hx hb dL_run_2 (by decide) ?_
  refine lv_aload_n hx hb dL_run_3 rfl (lv_at hl 0 rfl) ?_
  refine lv_iload_n hx hb dL_run_4 rfl (lv_at hl 1 rfl) ?_
  refine lv_iload_n hx hb dL_run_5 rfl (lv_at hl 2 rfl) ?_
  refine lv_iload_n hx hb dL_run_6 rfl (lv_at hl 3 rfl) ?_
  refine lv_iload hx hb dL_run_7 (lv_at hl 4 rfl) ?_
  refine lv_iload hx hb dL_run_9 (lv_at hl 5 rfl) ?_
  refine lv_iload hx hb dL_run_11 (lv_at hl 6 rfl) ?_
  refine z_xcall (EX := zIA) [(a0, zO 9 9 g0)] [0] hP hD hS hA rfl (by decide) 1 6 rfl rfl (fun hPc hDc hF => z_xrunV (As := [.int x0, .int x1, .int x2, .int x3, .int x4, .int 0]) (rest := [.int 0, .ref a1]) ⟨hx, hb, hml, hown, hg⟩ (cX11_run_4 l hl9 K H.size a0 g0 x0 x1 x2 x3 x4 e0 e1 e2) kV_RL_73 hd_X11_run rfl rfl ⟨(Nat.le_of_ble_eq_true rfl), (Nat.le_of_ble_eq_true rfl)⟩ hK hS hZ hPc hDc hF 0 rfl rfl rfl hl.1 rfl (Nat.le_of_ble_eq_true rfl) dL_run_13 ⟨(Nat.le_of_ble_eq_true rfl), (Nat.le_of_ble_eq_true rfl)⟩) (fun ce q9 H locs hS hce hcv hcl => ?_)
  refine vx_catch (own := RL) (name := zIA) (E := zIA) hown [] ⟨0, 18, 21, 18⟩ [⟨0, 18, 25, 13⟩] (by rw [hTab]; rfl) (fun z hz => nomatch hz) (by decide) (by decide) (hg _ mt491) (va_Nw.use rfl hZ.1.1.2.1) hce hcv hcl ?_
  have hP : va_P K.1 classes [] H := z_P0
  have hD : va_D A [] := z_D0
  refine lv_astore (lv' := [(8, .ref q9), (0, .ref a0), (1, .int x0), (2, .int x1), (3, .int x2), (4, .int x3), (5, .int x4), (6, .int 0), (7, .ref a1)]) hx hb dL_run_21 hl (by decide) rfl (fun ls hl => ?_)
  refine lv_iconst (v := 1) hx hb dL_run_23 (by decide) ?_
  have hP9 : va_P K.1 classes [] H := hP.sub [] rfl
  have hD9 : va_D A [] := hD.sub [] (by decide) rfl
  exact z_iret hx hb hr (fun _ => 0) rfl hP9 hD9 hS (Nat.le_of_ble_eq_true rfl) (Nat.le_of_ble_eq_true rfl) hlocks dL_run_24
set_option maxHeartbeats 4000000 in
set_option maxRecDepth 100000 in
theorem cX12_isIn_22 (l : Launch) (K : zK) (sz : Nat) (x0 : Int32) (e0 : ¬ x0 < (0 : Int32)) (e1 : ¬ (600 : Int32) < x0) : Met l yX12_isIn (Cond.code yX12_isIn cX12_isIn 3 (some .boolean) :: WG) { frames := 0, cells := 0, slots := 0, locals := 0 } (zPre K [] sz [.int x0, .int 0, .int 600]) (va_Qi (fun (r : Int32) (_ : Nat → Nat) => r = 1) (zB K (va_A [] sz) (fun u : Nat → Nat => [])) (va_A [] sz)) 0 0 (va_A [] sz) := by
  refine z_met (Qc := fun A => (va_Qi (fun (r : Int32) (_ : Nat → Nat) => r = 1) (zB K A (fun u : Nat → Nat => [])) A)) (by decide +kernel) (Nat.le_of_ble_eq_true rfl) ?_
  intro p e s m args below meth c A ls H hx hb hr hg hown hlocks hml hin hK hP hD hA hS hZ hl
  have hown : s.vm.findClass RX12 = some m.cls := hown
  have hl : lv_has ls 3 [(0, .int x0), (1, .int 0), (2, .int 600)] := hl
  refine lv_iload_n hx hb dX12_isIn_0 rfl (lv_at hl 0 rfl) ?_
  refine lv_iload_n hx hb dX12_isIn_1 rfl (lv_at hl 1 rfl) ?_
  refine lv_icmp_lt (tgt := 14) hx hb dX12_isIn_2 (by decide) (fun c => absurd c e0) (fun _ => ?_)
  refine lv_iload_n hx hb dX12_isIn_5 rfl (lv_at hl 0 rfl) ?_
  refine lv_iload_n hx hb dX12_isIn_6 rfl (lv_at hl 2 rfl) ?_
  refine lv_icmp_gt (tgt := 14) hx hb dX12_isIn_7 (by decide) (fun c => absurd c e1) (fun _ => ?_)
  refine lv_iconst (v := 1) hx hb dX12_isIn_10 (by decide) ?_
  refine lv_goto (tgt := 15) hx hb dX12_isIn_11 (by decide) ?_
  have hP9 : va_P K.1 classes [] H := hP.sub [] rfl
  have hD9 : va_D A [] := hD.sub [] (by decide) rfl
  exact z_zret hx hb hr rfl (fun _ => 0) rfl hP9 hD9 hS (Nat.le_of_ble_eq_true rfl) (Nat.le_of_ble_eq_true rfl) hlocks dX12_isIn_15
set_option maxHeartbeats 4000000 in
set_option maxRecDepth 100000 in
theorem cX12_mayRun_6 (l : Launch) (K : zK) (sz : Nat) (a0 : Nat) (g0 : Nat → Value) (x0 : Int32) (x1 : Int32) (e0 : x0 < (0 : Int32)) : Met l yX12_mayRun (Cond.code yX12_mayRun cX12_mayRun 5 (some .boolean) :: WG) { frames := 2, cells := 0, slots := 0, locals := 42 } (zPre K [(a0, zO 10 83 g0)] sz [.ref a0, .int x0, .int x1, .int 1, .int 0]) (va_Qi (fun (r : Int32) (_ : Nat → Nat) => r = 0) (zB K (va_A [(a0, zO 10 83 g0)] sz) (fun u : Nat → Nat => [(a0, zO 10 83 (va_up g0 81 (.int 1)))])) (va_A [(a0, zO 10 83 g0)] sz)) 0 0 (va_A [(a0, zO 10 83 g0)] sz) := by
  refine z_met (Qc := fun A => (va_Qi (fun (r : Int32) (_ : Nat → Nat) => r = 0) (zB K A (fun u : Nat → Nat => [(a0, zO 10 83 (va_up g0 81 (.int 1)))])) A)) (by decide +kernel) (Nat.le_of_ble_eq_true rfl) ?_
  intro p e s m args below meth c A ls H hx hb hr hg hown hlocks hml hin hK hP hD hA hS hZ hl
  have hown : s.vm.findClass RX12 = some m.cls := hown
  have hl : lv_has ls 5 [(0, .ref a0), (1, .int x0), (2, .int x1), (3, .int 1), (4, .int 0)] := hl
  refine lv_aload_n hx hb dX12_mayRun_0 rfl (lv_at hl 0 rfl) ?_
  refine lv_iload_n hx hb dX12_mayRun_1 rfl (lv_at hl 1 rfl) ?_
  refine z_calli [] [(a0, zO 10 83 g0)] [] [0] hP hD hS hA rfl rfl (by decide) (by decide) (by decide +kernel) 0 0 rfl rfl (fun hPc hDc hF => z_runS (As := [.int x0]) (rest := [.ref a0]) ⟨hx, hb, hml, hown, hg⟩ (cX12_isGlobal_1 l K H.size x0 e0) kS_RX12_197 hd_X12_isGlobal rfl rfl ⟨(Nat.le_of_ble_eq_true rfl), (Nat.le_of_ble_eq_true rfl)⟩ hK hS hZ hPc hDc hF rfl hl.1 rfl (Nat.le_of_ble_eq_true rfl) dX12_mayRun_2 ⟨(Nat.le_of_ble_eq_true rfl), (Nat.le_of_ble_eq_true rfl)⟩) (fun r3 u1 H locs w2 hP hD hS => ?_)
  subst w2
  have hP : va_P K.1 classes [(a0, zO 10 83 g0)] H := hP
  have hD : va_D A [(a0, zO 10 83 g0)] := hD
  refine lv_if_eq (tgt := 21) hx hb dX12_mayRun_5 (by decide) (fun _ => ?_) (fun c => absurd (by decide) c)
  refine lv_iconst (v := 1) hx hb dX12_mayRun_21 (by decide) ?_
  refine lv_goto (tgt := 42) hx hb dX12_mayRun_22 (by decide) ?_
  refine z_calli [(a0, zO 10 83 g0)] [] [0] [] hP hD hS hA rfl rfl (by decide) (by decide) (by decide +kernel) 0 0 rfl rfl (fun hPc hDc hF => z_runV (As := [.int 1]) (rest := []) ⟨hx, hb, hml, hown, hg⟩ (cX12_can_2 l K H.size a0 g0) kV_RX12_182 hd_X12_can rfl rfl ⟨(Nat.le_of_ble_eq_true rfl), (Nat.le_of_ble_eq_true rfl)⟩ hK hS hZ hPc hDc hF 0 rfl rfl rfl hl.1 rfl (Nat.le_of_ble_eq_true rfl) dX12_mayRun_42 ⟨(Nat.le_of_ble_eq_true rfl), (Nat.le_of_ble_eq_true rfl)⟩) (fun r6 u4 H locs w5 hP hD hS => ?_)
  subst w5
  have hP : va_P K.1 classes [(a0, zO 10 83 (va_up g0 81 (.int 1)))] H := hP
  have hD : va_D A [(a0, zO 10 83 (va_up g0 81 (.int 1)))] := hD
  have hP9 : va_P K.1 classes [(a0, zO 10 83 (va_up g0 81 (.int 1)))] H := hP.sub [0] rfl
  have hD9 : va_D A [(a0, zO 10 83 (va_up g0 81 (.int 1)))] := hD.sub [0] (by decide) rfl
  exact z_zret hx hb hr rfl (fun _ => 0) rfl hP9 hD9 hS (Nat.le_of_ble_eq_true rfl) (Nat.le_of_ble_eq_true rfl) hlocks dX12_mayRun_45
set_option maxHeartbeats 4000000 in
set_option maxRecDepth 100000 in
theorem cX12_run_6 (l : Launch) (K : zK) (sz : Nat) (a0 : Nat) (g0 : Nat → Value) (x0 : Int32) (x1 : Int32) (x2 : Int32) (x3 : Int32) (x4 : Int32) (e0 : ¬ x4 < (0 : Int32)) (e1 : ¬ (600 : Int32) < x4) (e2 : x0 < (0 : Int32)) : Met l yX12_run (Cond.code yX12_run cX12_run 7 (some .int) :: WG) { frames := 3, cells := 0, slots := 0, locals := 66 } (zPre K [(a0, zO 10 83 g0)] sz [.ref a0, .int x0, .int x1, .int x2, .int x3, .int x4, .int 0]) (va_Qi (fun (r : Int32) (_ : Nat → Nat) => r = 0) (zB K (va_A [(a0, zO 10 83 g0)] sz) (fun u : Nat → Nat => [(a0, zO 10 83 (va_up g0 81 (.int 1)))])) (va_A [(a0, zO 10 83 g0)] sz)) 0 0 (va_A [(a0, zO 10 83 g0)] sz) := by
  refine z_met (Qc := fun A => (va_Qi (fun (r : Int32) (_ : Nat → Nat) => r = 0) (zB K A (fun u : Nat → Nat => [(a0, zO 10 83 (va_up g0 81 (.int 1)))])) A)) (by decide +kernel) (Nat.le_of_ble_eq_true rfl) ?_
  intro p e s m args below meth c A ls H hx hb hr hg hown hlocks hml hin hK hP hD hA hS hZ hl
  have hown : s.vm.findClass RX12 = some m.cls := hown
  have hl : lv_has ls 7 [(0, .ref a0), (1, .int x0), (2, .int x1), (3, .int x2), (4, .int x3), (5, .int x4), (6, .int 0)] := hl
  refine lv_aload_n hx hb dX12_run_0 rfl (lv_at hl 0 rfl) ?_
  refine lv_iload_n hx hb dX12_run_1 rfl (lv_at hl 1 rfl) ?_
  refine lv_iload_n hx hb dX12_run_2 rfl (lv_at hl 2 rfl) ?_
  refine lv_iload hx hb dX12_run_3 (lv_at hl 5 rfl) ?_
  refine lv_iconst (v := 0) hx hb dX12_run_5 (by decide) ?_
  refine lv_sipush (v := 600) hx hb dX12_run_6 (by decide) ?_
  refine z_calli [] [(a0, zO 10 83 g0)] [] [0] hP hD hS hA rfl rfl (by decide) (by decide) (by decide +kernel) 0 0 rfl rfl (fun hPc hDc hF => z_runS (As := [.int x4, .int 0, .int 600]) (rest := [.int x1, .int x0, .ref a0]) ⟨hx, hb, hml, hown, hg⟩ (cX12_isIn_22 l K H.size x4 e0 e1) kS_RX12_175 hd_X12_isIn rfl rfl ⟨(Nat.le_of_ble_eq_true rfl), (Nat.le_of_ble_eq_true rfl)⟩ hK hS hZ hPc hDc hF rfl hl.1 rfl (Nat.le_of_ble_eq_true rfl) dX12_run_9 ⟨(Nat.le_of_ble_eq_true rfl), (Nat.le_of_ble_eq_true rfl)⟩) (fun r3 u1 H locs w2 hP hD hS => ?_)
  subst w2
  have hP : va_P K.1 classes [(a0, zO 10 83 g0)] H := hP
  have hD : va_D A [(a0, zO 10 83 g0)] := hD
  refine lv_iload hx hb dX12_run_12 (lv_at hl 6 rfl) ?_
  refine z_calli [(a0, zO 10 83 g0)] [] [0] [] hP hD hS hA rfl rfl (by decide) (by decide) (by decide +kernel) 0 0 rfl rfl (fun hPc hDc hF => z_runV (As := [.int x0, .int x1, .int 1, .int 0]) (rest := []) ⟨hx, hb, hml, hown, hg⟩ (cX12_mayRun_6 l K H.size a0 g0 x0 x1 e2) kV_RX12_492 hd_X12_mayRun rfl rfl ⟨(Nat.le_of_ble_eq_true rfl), (Nat.le_of_ble_eq_true rfl)⟩ hK hS hZ hPc hDc hF 0 rfl rfl rfl hl.1 rfl (Nat.le_of_ble_eq_true rfl) dX12_run_14 ⟨(Nat.le_of_ble_eq_true rfl), (Nat.le_of_ble_eq_true rfl)⟩) (fun r6 u4 H locs w5 hP hD hS => ?_)
  subst w5
  have hP : va_P K.1 classes [(a0, zO 10 83 (va_up g0 81 (.int 1)))] H := hP
  have hD : va_D A [(a0, zO 10 83 (va_up g0 81 (.int 1)))] := hD
  refine lv_if_ne (tgt := 22) hx hb dX12_run_17 (by decide) (fun c => absurd (by decide) c) (fun _ => ?_)
  refine lv_iconst (v := 0) hx hb dX12_run_20 (by decide) ?_
  have hP9 : va_P K.1 classes [(a0, zO 10 83 (va_up g0 81 (.int 1)))] H := hP.sub [0] rfl
  have hD9 : va_D A [(a0, zO 10 83 (va_up g0 81 (.int 1)))] := hD.sub [0] (by decide) rfl
  exact z_iret hx hb hr (fun _ => 0) rfl hP9 hD9 hS (Nat.le_of_ble_eq_true rfl) (Nat.le_of_ble_eq_true rfl) hlocks dX12_run_21
set_option maxHeartbeats 4000000 in
set_option maxRecDepth 100000 in
theorem cX11_checkRange_15 (l : Launch) (hl9 : l.stackTraces = false) (K : zK) (sz : Nat) (a0 : Nat) (g0 : Nat → Value) (x0 : Int32) (e0 : x0 < (0 : Int32)) : vx_Met l yX11_checkRange (Cond.code yX11_checkRange cX11_checkRange 3 none :: WG) { frames := 6, cells := 1, slots := 6, locals := 82 } (zPre K [(a0, zO 9 9 g0)] sz [.ref a0, .int x0, .int 3]) (va_Qv (fun _ : Unit => False) (fun _ _ => True) (va_A [(a0, zO 9 9 g0)] sz)) (zX (va_A [(a0, zO 9 9 g0)] sz) zIA) 1 6 (va_A [(a0, zO 9 9 g0)] sz) := by
  refine z_xmet (Qc := fun A => va_Qv (fun _ : Unit => False) (fun _ _ => True) A) (XC := fun A => zX A zIA) (by decide +kernel) (Nat.le_of_ble_eq_true rfl) ?_
  intro p e s m args below meth c A ls H hx hb hr hg hown hlocks hml hno hK hP hD hA hS hZ hl
  have hown : s.vm.findClass RX11 = some m.cls := hown
  have hl : lv_has ls 3 [(0, .ref a0), (1, .int x0), (2, .int 3)] := hl
  refine lv_iload_n hx hb dX11_checkRange_0 rfl (lv_at hl 1 rfl) ?_
  refine lv_if_lt (tgt := 9) hx hb dX11_checkRange_1 (by decide) (fun _ => ?_) (fun c => absurd e0 c)
  exact z_throw (ik := 82) (is := 183) (ic := 86) hx hb hl9 hg hown (by decide +kernel) mt500 mt16 hZ.1.2.2.1 (at_zIA hg hZ) ok_zIA hZ hS hl.1 hml dX11_checkRange_9 dX11_checkRange_12 dX11_checkRange_13 dX11_checkRange_15 dX11_checkRange_18 hno hlocks (Nat.le_of_ble_eq_true rfl) (Nat.le_of_ble_eq_true rfl) (Nat.le_of_ble_eq_true rfl) (Nat.le_of_ble_eq_true rfl) (Nat.le_of_ble_eq_true rfl) (Nat.le_of_ble_eq_true rfl)
set_option maxHeartbeats 4000000 in
set_option maxRecDepth 100000 in
theorem cX11_programToRun_2 (l : Launch) (hl9 : l.stackTraces = false) (K : zK) (sz : Nat) (a0 : Nat) (g0 : Nat → Value) (j0 : Nat) (hj0 : j0 < 8) (x1 : Int32) (e0 : x1 < (0 : Int32)) : vx_Met l yX11_programToRun (Cond.code yX11_programToRun cX11_programToRun 4 (some (.object "LazyLoom$Program")) :: WG) { frames := 7, cells := 1, slots := 6, locals := 104 } (zPre K [(a0, zO 9 9 g0)] sz [.ref a0, .int (nI j0), .int x1, .int 0]) (va_Qv (fun _ : Unit => False) (fun _ _ => True) (va_A [(a0, zO 9 9 g0)] sz)) (zX (va_A [(a0, zO 9 9 g0)] sz) zIA) 1 6 (va_A [(a0, zO 9 9 g0)] sz) := by
  refine z_xmet (Qc := fun A => va_Qv (fun _ : Unit => False) (fun _ _ => True) A) (XC := fun A => zX A zIA) (by decide +kernel) (Nat.le_of_ble_eq_true rfl) ?_
  intro p e s m args below meth c A ls H hx hb hr hg hown hlocks hml hno hK hP hD hA hS hZ hl
  have hown : s.vm.findClass RX11 = some m.cls := hown
  have hl : lv_has ls 4 [(0, .ref a0), (1, .int (nI j0)), (2, .int x1), (3, .int 0)] := hl
  refine lv_aload_n hx hb dX11_programToRun_0 rfl (lv_at hl 0 rfl) ?_
  refine lv_iload_n hx hb dX11_programToRun_1 rfl (lv_at hl 1 rfl) ?_
  refine lv_bipush (v := 8) hx hb dX11_programToRun_2 (by decide) ?_
  refine z_callv [(a0, zO 9 9 g0)] [] [0] [] hP hD hS hA rfl rfl (by decide) (by decide) (by decide +kernel) 0 0 rfl rfl (fun hPc hDc hF => z_runV (As := [.int (nI j0), .int 8]) (rest := []) ⟨hx, hb, hml, hown, hg⟩ (cX11_checkRange_5 l K H.size a0 g0 j0 hj0) kV_RX11_72 hd_X11_checkRange rfl rfl ⟨(Nat.le_of_ble_eq_true rfl), (Nat.le_of_ble_eq_true rfl)⟩ hK hS hZ hPc hDc hF 0 rfl rfl rfl hl.1 rfl (Nat.le_of_ble_eq_true rfl) dX11_programToRun_4 ⟨(Nat.le_of_ble_eq_true rfl), (Nat.le_of_ble_eq_true rfl)⟩) (fun u1 H locs w2 hP hD hS => ?_)
  have hP : va_P K.1 classes [(a0, zO 9 9 g0)] H := hP
  have hD : va_D A [(a0, zO 9 9 g0)] := hD
  refine lv_aload_n hx hb dX11_programToRun_7 rfl (lv_at hl 0 rfl) ?_
  refine lv_iload_n hx hb dX11_programToRun_8 rfl (lv_at hl 2 rfl) ?_
  refine lv_iconst (v := 3) hx hb dX11_programToRun_9 (by decide) ?_
  refine z_xcall (EX := zIA) [(a0, zO 9 9 g0)] [0] hP hD hS hA rfl (by decide) 1 6 rfl rfl (fun hPc hDc hF => z_xrunV (As := [.int x1, .int 3]) (rest := []) ⟨hx, hb, hml, hown, hg⟩ (cX11_checkRange_15 l hl9 K H.size a0 g0 x1 e0) kV_RX11_72 hd_X11_checkRange rfl rfl ⟨(Nat.le_of_ble_eq_true rfl), (Nat.le_of_ble_eq_true rfl)⟩ hK hS hZ hPc hDc hF 0 rfl rfl rfl hl.1 rfl (Nat.le_of_ble_eq_true rfl) dX11_programToRun_10 ⟨(Nat.le_of_ble_eq_true rfl), (Nat.le_of_ble_eq_true rfl)⟩) (fun ce q9 H locs hS hce hcv hcl => ?_)
  exact z_xout hno hlocks hS hce hcv hcl (Nat.le_of_ble_eq_true rfl) (Nat.le_of_ble_eq_true rfl)
set_option maxHeartbeats 4000000 in
set_option maxRecDepth 100000 in
theorem cX11_run_5 (l : Launch) (hl9 : l.stackTraces = false) (K : zK) (sz : Nat) (a0 : Nat) (g0 : Nat → Value) (j0 : Nat) (hj0 : j0 < 8) (x1 : Int32) (x2 : Int32) (x3 : Int32) (x4 : Int32) (e0 : ¬ x4 < (0 : Int32)) (e1 : x4 < (601 : Int32)) (e2 : x1 < (0 : Int32)) : vx_Met l yX11_run (Cond.code yX11_run cX11_run 9 (some .int) :: WG) { frames := 8, cells := 1, slots := 6, locals := 127 } (zPre K [(a0, zO 9 9 g0)] sz [.ref a0, .int (nI j0), .int x1, .int x2, .int x3, .int x4, .int 0]) (va_Qv (fun _ : Unit => False) (fun _ _ => True) (va_A [(a0, zO 9 9 g0)] sz)) (zX (va_A [(a0, zO 9 9 g0)] sz) zIA) 1 6 (va_A [(a0, zO 9 9 g0)] sz) := by
  refine z_xmet (Qc := fun A => va_Qv (fun _ : Unit => False) (fun _ _ => True) A) (XC := fun A => zX A zIA) (by decide +kernel) (Nat.le_of_ble_eq_true rfl) ?_
  intro p e s m args below meth c A ls H hx hb hr hg hown hlocks hml hno hK hP hD hA hS hZ hl
  have hown : s.vm.findClass RX11 = some m.cls := hown
  have hl : lv_has ls 9 [(0, .ref a0), (1, .int (nI j0)), (2, .int x1), (3, .int x2), (4, .int x3), (5, .int x4), (6, .int 0)] := hl
  refine lv_aload_n hx hb dX11_run_0 rfl (lv_at hl 0 rfl) ?_
  refine lv_iload hx hb dX11_run_1 (lv_at hl 5 rfl) ?_
  refine lv_sipush (v := 601) hx hb dX11_run_3 (by decide) ?_
  refine z_callv [(a0, zO 9 9 g0)] [] [0] [] hP hD hS hA rfl rfl (by decide) (by decide) (by decide +kernel) 0 0 rfl rfl (fun hPc hDc hF => z_runV (As := [.int x4, .int 601]) (rest := []) ⟨hx, hb, hml, hown, hg⟩ (cX11_checkRange_14 l K H.size a0 g0 x4 e0 e1) kV_RX11_72 hd_X11_checkRange rfl rfl ⟨(Nat.le_of_ble_eq_true rfl), (Nat.le_of_ble_eq_true rfl)⟩ hK hS hZ hPc hDc hF 0 rfl rfl rfl hl.1 rfl (Nat.le_of_ble_eq_true rfl) dX11_run_6 ⟨(Nat.le_of_ble_eq_true rfl), (Nat.le_of_ble_eq_true rfl)⟩) (fun u1 H locs w2 hP hD hS => ?_)
  have hP : va_P K.1 classes [(a0, zO 9 9 g0)] H := hP
  have hD : va_D A [(a0, zO 9 9 g0)] := hD
  refine lv_aload_n hx hb dX11_run_9 rfl (lv_at hl 0 rfl) ?_
  refine lv_iload_n hx hb dX11_run_10 rfl (lv_at hl 1 rfl) ?_
  refine lv_iload_n hx hb dX11_run_11 rfl (lv_at hl 2 rfl) ?_
  refine lv_iload hx hb dX11_run_12 (lv_at hl 6 rfl) ?_
  refine z_xcall (EX := zIA) [(a0, zO 9 9 g0)] [0] hP hD hS hA rfl (by decide) 1 6 rfl rfl (fun hPc hDc hF => z_xrunV (As := [.int (nI j0), .int x1, .int 0]) (rest := []) ⟨hx, hb, hml, hown, hg⟩ (cX11_programToRun_2 l hl9 K H.size a0 g0 j0 hj0 x1 e2) kV_RX11_130 hd_X11_programToRun rfl rfl ⟨(Nat.le_of_ble_eq_true rfl), (Nat.le_of_ble_eq_true rfl)⟩ hK hS hZ hPc hDc hF 0 rfl rfl rfl hl.1 rfl (Nat.le_of_ble_eq_true rfl) dX11_run_14 ⟨(Nat.le_of_ble_eq_true rfl), (Nat.le_of_ble_eq_true rfl)⟩) (fun ce q9 H locs hS hce hcv hcl => ?_)
  exact z_xout hno hlocks hS hce hcv hcl (Nat.le_of_ble_eq_true rfl) (Nat.le_of_ble_eq_true rfl)
set_option maxHeartbeats 4000000 in
set_option maxRecDepth 100000 in
theorem cL_run_5 (l : Launch) (hl9 : l.stackTraces = false) (K : zK) (sz : Nat) (a0 : Nat) (a1 : Nat) (g0 : Nat → Value) (j0 : Nat) (hj0 : j0 < 8) (x1 : Int32) (x2 : Int32) (x3 : Int32) (x4 : Int32) (e0 : ¬ x4 < (0 : Int32)) (e1 : x4 < (601 : Int32)) (e2 : x1 < (0 : Int32)) : vx_Met l yL_run (Cond.codeWith yL_run cL_run 9 (some .int) [(0, 18, 21, 18), (0, 18, 25, 13)] :: WG) { frames := 9, cells := 1, slots := 6, locals := 155 } (zPre K [(a0, zO 9 9 g0)] sz [.ref a0, .int (nI j0), .int x1, .int x2, .int x3, .int x4, .int 0, .ref a1]) (va_Qi (fun (r : Int32) (_ : Nat → Nat) => r = 1) (zB K (va_A [(a0, zO 9 9 g0)] sz) (fun u : Nat → Nat => [])) (va_A [(a0, zO 9 9 g0)] sz)) (vx_X (fun _ : Unit => False) (fun _ _ _ => True) (va_A [(a0, zO 9 9 g0)] sz)) 1 6 (va_A [(a0, zO 9 9 g0)] sz) := by
  refine z_hmet (Qc := fun A => (va_Qi (fun (r : Int32) (_ : Nat → Nat) => r = 1) (zB K A (fun u : Nat → Nat => [])) A)) (XC := fun A => vx_X (fun _ : Unit => False) (fun _ _ _ => True) A) (by decide +kernel) (Nat.le_of_ble_eq_true rfl) ?_
  intro p e s m args below meth c A ls H hx hb hr hg hown hlocks hml hTab hK hP hD hA hS hZ hl
  have hown : s.vm.findClass RL = some m.cls := hown
  have hl : lv_has ls 9 [(0, .ref a0), (1, .int (nI j0)), (2, .int x1), (3, .int x2), (4, .int x3), (5, .int x4), (6, .int 0), (7, .ref a1)] := hl
  refine lv_aload hx hb dL_run_0 (lv_at hl 7 rfl) ?_
  refine lv_iconst (v := 0) hx hb dL_run_2 (by decide) ?_
  refine lv_aload_n hx hb dL_run_3 rfl (lv_at hl 0 rfl) ?_
  refine lv_iload_n hx hb dL_run_4 rfl (lv_at hl 1 rfl) ?_
  refine lv_iload_n hx hb dL_run_5 rfl (lv_at hl 2 rfl) ?_
  refine lv_iload_n hx hb dL_run_6 rfl (lv_at hl 3 rfl) ?_
  refine lv_iload hx hb dL_run_7 (lv_at hl 4 rfl) ?_
  refine lv_iload hx hb dL_run_9 (lv_at hl 5 rfl) ?_
  refine lv_iload hx hb dL_run_11 (lv_at hl 6 rfl) ?_
  refine z_xcall (EX := zIA) [(a0, zO 9 9 g0)] [0] hP hD hS hA rfl (by decide) 1 6 rfl rfl (fun hPc hDc hF => z_xrunV (As := [.int (nI j0), .int x1, .int x2, .int x3, .int x4, .int 0]) (rest := [.int 0, .ref a1]) ⟨hx, hb, hml, hown, hg⟩ (cX11_run_5 l hl9 K H.size a0 g0 j0 hj0 x1 x2 x3 x4 e0 e1 e2) kV_RL_73 hd_X11_run rfl rfl ⟨(Nat.le_of_ble_eq_true rfl), (Nat.le_of_ble_eq_true rfl)⟩ hK hS hZ hPc hDc hF 0 rfl rfl rfl hl.1 rfl (Nat.le_of_ble_eq_true rfl) dL_run_13 ⟨(Nat.le_of_ble_eq_true rfl), (Nat.le_of_ble_eq_true rfl)⟩) (fun ce q9 H locs hS hce hcv hcl => ?_)
  refine vx_catch (own := RL) (name := zIA) (E := zIA) hown [] ⟨0, 18, 21, 18⟩ [⟨0, 18, 25, 13⟩] (by rw [hTab]; rfl) (fun z hz => nomatch hz) (by decide) (by decide) (hg _ mt491) (va_Nw.use rfl hZ.1.1.2.1) hce hcv hcl ?_
  have hP : va_P K.1 classes [] H := z_P0
  have hD : va_D A [] := z_D0
  refine lv_astore (lv' := [(8, .ref q9), (0, .ref a0), (1, .int (nI j0)), (2, .int x1), (3, .int x2), (4, .int x3), (5, .int x4), (6, .int 0), (7, .ref a1)]) hx hb dL_run_21 hl (by decide) rfl (fun ls hl => ?_)
  refine lv_iconst (v := 1) hx hb dL_run_23 (by decide) ?_
  have hP9 : va_P K.1 classes [] H := hP.sub [] rfl
  have hD9 : va_D A [] := hD.sub [] (by decide) rfl
  exact z_iret hx hb hr (fun _ => 0) rfl hP9 hD9 hS (Nat.le_of_ble_eq_true rfl) (Nat.le_of_ble_eq_true rfl) hlocks dL_run_24
set_option maxHeartbeats 4000000 in
set_option maxRecDepth 100000 in
theorem cX12_mayRun_7 (l : Launch) (K : zK) (sz : Nat) (a0 : Nat) (g0 : Nat → Value) (j0 : Nat) (hj0 : j0 < 8) (x1 : Int32) (e0 : x1 < (0 : Int32)) : Met l yX12_mayRun (Cond.code yX12_mayRun cX12_mayRun 5 (some .boolean) :: WG) { frames := 2, cells := 0, slots := 0, locals := 42 } (zPre K [(a0, zO 10 83 g0)] sz [.ref a0, .int (nI j0), .int x1, .int 1, .int 0]) (va_Qi (fun (r : Int32) (_ : Nat → Nat) => r = 0) (zB K (va_A [(a0, zO 10 83 g0)] sz) (fun u : Nat → Nat => [(a0, zO 10 83 (va_up g0 81 (.int 1)))])) (va_A [(a0, zO 10 83 g0)] sz)) 0 0 (va_A [(a0, zO 10 83 g0)] sz) := by
  refine z_met (Qc := fun A => (va_Qi (fun (r : Int32) (_ : Nat → Nat) => r = 0) (zB K A (fun u : Nat → Nat => [(a0, zO 10 83 (va_up g0 81 (.int 1)))])) A)) (by decide +kernel) (Nat.le_of_ble_eq_true rfl) ?_
  intro p e s m args below meth c A ls H hx hb hr hg hown hlocks hml hin hK hP hD hA hS hZ hl
  have hown : s.vm.findClass RX12 = some m.cls := hown
  have hl : lv_has ls 5 [(0, .ref a0), (1, .int (nI j0)), (2, .int x1), (3, .int 1), (4, .int 0)] := hl
  refine lv_aload_n hx hb dX12_mayRun_0 rfl (lv_at hl 0 rfl) ?_
  refine lv_iload_n hx hb dX12_mayRun_1 rfl (lv_at hl 1 rfl) ?_
  refine z_calli [] [(a0, zO 10 83 g0)] [] [0] hP hD hS hA rfl rfl (by decide) (by decide) (by decide +kernel) 0 0 rfl rfl (fun hPc hDc hF => z_runS (As := [.int (nI j0)]) (rest := [.ref a0]) ⟨hx, hb, hml, hown, hg⟩ (cX12_isGlobal_2 l K H.size j0 hj0) kS_RX12_197 hd_X12_isGlobal rfl rfl ⟨(Nat.le_of_ble_eq_true rfl), (Nat.le_of_ble_eq_true rfl)⟩ hK hS hZ hPc hDc hF rfl hl.1 rfl (Nat.le_of_ble_eq_true rfl) dX12_mayRun_2 ⟨(Nat.le_of_ble_eq_true rfl), (Nat.le_of_ble_eq_true rfl)⟩) (fun r3 u1 H locs w2 hP hD hS => ?_)
  subst w2
  have hP : va_P K.1 classes [(a0, zO 10 83 g0)] H := hP
  have hD : va_D A [(a0, zO 10 83 g0)] := hD
  refine lv_if_eq (tgt := 21) hx hb dX12_mayRun_5 (by decide) (fun c => absurd c (by decide)) (fun _ => ?_)
  refine lv_iload_n hx hb dX12_mayRun_8 rfl (lv_at hl 2 rfl) ?_
  refine lv_iconst (v := 0) hx hb dX12_mayRun_9 (by decide) ?_
  refine lv_iconst (v := 2) hx hb dX12_mayRun_10 (by decide) ?_
  refine z_calli [] [(a0, zO 10 83 g0)] [] [0] hP hD hS hA rfl rfl (by decide) (by decide) (by decide +kernel) 0 0 rfl rfl (fun hPc hDc hF => z_runS (As := [.int x1, .int 0, .int 2]) (rest := [.ref a0]) ⟨hx, hb, hml, hown, hg⟩ (cX12_isIn_19 l K H.size x1 e0) kS_RX12_175 hd_X12_isIn rfl rfl ⟨(Nat.le_of_ble_eq_true rfl), (Nat.le_of_ble_eq_true rfl)⟩ hK hS hZ hPc hDc hF rfl hl.1 rfl (Nat.le_of_ble_eq_true rfl) dX12_mayRun_11 ⟨(Nat.le_of_ble_eq_true rfl), (Nat.le_of_ble_eq_true rfl)⟩) (fun r6 u4 H locs w5 hP hD hS => ?_)
  subst w5
  have hP : va_P K.1 classes [(a0, zO 10 83 g0)] H := hP
  have hD : va_D A [(a0, zO 10 83 g0)] := hD
  refine lv_if_eq (tgt := 21) hx hb dX12_mayRun_14 (by decide) (fun _ => ?_) (fun c => absurd (by decide) c)
  refine lv_iconst (v := 1) hx hb dX12_mayRun_21 (by decide) ?_
  refine lv_goto (tgt := 42) hx hb dX12_mayRun_22 (by decide) ?_
  refine z_calli [(a0, zO 10 83 g0)] [] [0] [] hP hD hS hA rfl rfl (by decide) (by decide) (by decide +kernel) 0 0 rfl rfl (fun hPc hDc hF => z_runV (As := [.int 1]) (rest := []) ⟨hx, hb, hml, hown, hg⟩ (cX12_can_2 l K H.size a0 g0) kV_RX12_182 hd_X12_can rfl rfl ⟨(Nat.le_of_ble_eq_true rfl), (Nat.le_of_ble_eq_true rfl)⟩ hK hS hZ hPc hDc hF 0 rfl rfl rfl hl.1 rfl (Nat.le_of_ble_eq_true rfl) dX12_mayRun_42 ⟨(Nat.le_of_ble_eq_true rfl), (Nat.le_of_ble_eq_true rfl)⟩) (fun r9 u7 H locs w8 hP hD hS => ?_)
  subst w8
  have hP : va_P K.1 classes [(a0, zO 10 83 (va_up g0 81 (.int 1)))] H := hP
  have hD : va_D A [(a0, zO 10 83 (va_up g0 81 (.int 1)))] := hD
  have hP9 : va_P K.1 classes [(a0, zO 10 83 (va_up g0 81 (.int 1)))] H := hP.sub [0] rfl
  have hD9 : va_D A [(a0, zO 10 83 (va_up g0 81 (.int 1)))] := hD.sub [0] (by decide) rfl
  exact z_zret hx hb hr rfl (fun _ => 0) rfl hP9 hD9 hS (Nat.le_of_ble_eq_true rfl) (Nat.le_of_ble_eq_true rfl) hlocks dX12_mayRun_45
set_option maxHeartbeats 4000000 in
set_option maxRecDepth 100000 in
theorem cX12_run_7 (l : Launch) (K : zK) (sz : Nat) (a0 : Nat) (g0 : Nat → Value) (j0 : Nat) (hj0 : j0 < 8) (x1 : Int32) (x2 : Int32) (x3 : Int32) (x4 : Int32) (e0 : ¬ x4 < (0 : Int32)) (e1 : ¬ (600 : Int32) < x4) (e2 : x1 < (0 : Int32)) : Met l yX12_run (Cond.code yX12_run cX12_run 7 (some .int) :: WG) { frames := 3, cells := 0, slots := 0, locals := 66 } (zPre K [(a0, zO 10 83 g0)] sz [.ref a0, .int (nI j0), .int x1, .int x2, .int x3, .int x4, .int 0]) (va_Qi (fun (r : Int32) (_ : Nat → Nat) => r = 0) (zB K (va_A [(a0, zO 10 83 g0)] sz) (fun u : Nat → Nat => [(a0, zO 10 83 (va_up g0 81 (.int 1)))])) (va_A [(a0, zO 10 83 g0)] sz)) 0 0 (va_A [(a0, zO 10 83 g0)] sz) := by
  refine z_met (Qc := fun A => (va_Qi (fun (r : Int32) (_ : Nat → Nat) => r = 0) (zB K A (fun u : Nat → Nat => [(a0, zO 10 83 (va_up g0 81 (.int 1)))])) A)) (by decide +kernel) (Nat.le_of_ble_eq_true rfl) ?_
  intro p e s m args below meth c A ls H hx hb hr hg hown hlocks hml hin hK hP hD hA hS hZ hl
  have hown : s.vm.findClass RX12 = some m.cls := hown
  have hl : lv_has ls 7 [(0, .ref a0), (1, .int (nI j0)), (2, .int x1), (3, .int x2), (4, .int x3), (5, .int x4), (6, .int 0)] := hl
  refine lv_aload_n hx hb dX12_run_0 rfl (lv_at hl 0 rfl) ?_
  refine lv_iload_n hx hb dX12_run_1 rfl (lv_at hl 1 rfl) ?_
  refine lv_iload_n hx hb dX12_run_2 rfl (lv_at hl 2 rfl) ?_
  refine lv_iload hx hb dX12_run_3 (lv_at hl 5 rfl) ?_
  refine lv_iconst (v := 0) hx hb dX12_run_5 (by decide) ?_
  refine lv_sipush (v := 600) hx hb dX12_run_6 (by decide) ?_
  refine z_calli [] [(a0, zO 10 83 g0)] [] [0] hP hD hS hA rfl rfl (by decide) (by decide) (by decide +kernel) 0 0 rfl rfl (fun hPc hDc hF => z_runS (As := [.int x4, .int 0, .int 600]) (rest := [.int x1, .int (nI j0), .ref a0]) ⟨hx, hb, hml, hown, hg⟩ (cX12_isIn_22 l K H.size x4 e0 e1) kS_RX12_175 hd_X12_isIn rfl rfl ⟨(Nat.le_of_ble_eq_true rfl), (Nat.le_of_ble_eq_true rfl)⟩ hK hS hZ hPc hDc hF rfl hl.1 rfl (Nat.le_of_ble_eq_true rfl) dX12_run_9 ⟨(Nat.le_of_ble_eq_true rfl), (Nat.le_of_ble_eq_true rfl)⟩) (fun r3 u1 H locs w2 hP hD hS => ?_)
  subst w2
  have hP : va_P K.1 classes [(a0, zO 10 83 g0)] H := hP
  have hD : va_D A [(a0, zO 10 83 g0)] := hD
  refine lv_iload hx hb dX12_run_12 (lv_at hl 6 rfl) ?_
  refine z_calli [(a0, zO 10 83 g0)] [] [0] [] hP hD hS hA rfl rfl (by decide) (by decide) (by decide +kernel) 0 0 rfl rfl (fun hPc hDc hF => z_runV (As := [.int (nI j0), .int x1, .int 1, .int 0]) (rest := []) ⟨hx, hb, hml, hown, hg⟩ (cX12_mayRun_7 l K H.size a0 g0 j0 hj0 x1 e2) kV_RX12_492 hd_X12_mayRun rfl rfl ⟨(Nat.le_of_ble_eq_true rfl), (Nat.le_of_ble_eq_true rfl)⟩ hK hS hZ hPc hDc hF 0 rfl rfl rfl hl.1 rfl (Nat.le_of_ble_eq_true rfl) dX12_run_14 ⟨(Nat.le_of_ble_eq_true rfl), (Nat.le_of_ble_eq_true rfl)⟩) (fun r6 u4 H locs w5 hP hD hS => ?_)
  subst w5
  have hP : va_P K.1 classes [(a0, zO 10 83 (va_up g0 81 (.int 1)))] H := hP
  have hD : va_D A [(a0, zO 10 83 (va_up g0 81 (.int 1)))] := hD
  refine lv_if_ne (tgt := 22) hx hb dX12_run_17 (by decide) (fun c => absurd (by decide) c) (fun _ => ?_)
  refine lv_iconst (v := 0) hx hb dX12_run_20 (by decide) ?_
  have hP9 : va_P K.1 classes [(a0, zO 10 83 (va_up g0 81 (.int 1)))] H := hP.sub [0] rfl
  have hD9 : va_D A [(a0, zO 10 83 (va_up g0 81 (.int 1)))] := hD.sub [0] (by decide) rfl
  exact z_iret hx hb hr (fun _ => 0) rfl hP9 hD9 hS (Nat.le_of_ble_eq_true rfl) (Nat.le_of_ble_eq_true rfl) hlocks dX12_run_21
set_option maxHeartbeats 4000000 in
set_option maxRecDepth 100000 in
theorem cX11_checkRange_16 (l : Launch) (K : zK) (sz : Nat) (a0 : Nat) (g0 : Nat → Value) (j0 : Nat) (hj0 : j0 < 3) : Met l yX11_checkRange (Cond.code yX11_checkRange cX11_checkRange 3 none :: WG) { frames := 0, cells := 0, slots := 0, locals := 0 } (zPre K [(a0, zO 9 9 g0)] sz [.ref a0, .int (nI j0), .int 3]) (va_Qv (fun _ : Nat → Nat => True) (zB K (va_A [(a0, zO 9 9 g0)] sz) (fun u : Nat → Nat => [(a0, zO 9 9 g0)])) (va_A [(a0, zO 9 9 g0)] sz)) 0 0 (va_A [(a0, zO 9 9 g0)] sz) := by
  refine z_met (Qc := fun A => (va_Qv (fun _ : Nat → Nat => True) (zB K A (fun u : Nat → Nat => [(a0, zO 9 9 g0)])) A)) (by decide +kernel) (Nat.le_of_ble_eq_true rfl) ?_
  intro p e s m args below meth c A ls H hx hb hr hg hown hlocks hml hin hK hP hD hA hS hZ hl
  have hown : s.vm.findClass RX11 = some m.cls := hown
  have hl : lv_has ls 3 [(0, .ref a0), (1, .int (nI j0)), (2, .int 3)] := hl
  refine lv_iload_n hx hb dX11_checkRange_0 rfl (lv_at hl 1 rfl) ?_
  refine lv_if_lt (tgt := 9) hx hb dX11_checkRange_1 (by decide) (fun c => absurd c ((by decide : ∀ j, j < 3 → ¬ ((nI j) < (0 : Int32))) j0 hj0)) (fun _ => ?_)
  refine lv_iload_n hx hb dX11_checkRange_4 rfl (lv_at hl 1 rfl) ?_
  refine lv_iload_n hx hb dX11_checkRange_5 rfl (lv_at hl 2 rfl) ?_
  refine lv_icmp_lt (tgt := 19) hx hb dX11_checkRange_6 (by decide) (fun _ => ?_) (fun c => absurd ((by decide : ∀ j, j < 3 → ((nI j) < (3 : Int32))) j0 hj0) c)
  have hP9 : va_P K.1 classes [(a0, zO 9 9 g0)] H := hP.sub [0] rfl
  have hD9 : va_D A [(a0, zO 9 9 g0)] := hD.sub [0] (by decide) rfl
  exact z_vret hx hb hr (fun _ => 0) trivial hP9 hD9 hS (Nat.le_of_ble_eq_true rfl) (Nat.le_of_ble_eq_true rfl) hlocks dX11_checkRange_19
set_option maxHeartbeats 4000000 in
set_option maxRecDepth 100000 in
theorem cX11_programOf_1 (l : Launch) (K : zK) (sz : Nat) (a0 : Nat) (a1 : Nat) (g0 : Nat → Value) (e0 : g0 3 = (.ref a1)) : Met l yX11_programOf (Cond.code yX11_programOf cX11_programOf 2 (some (.object "LazyLoom$Program")) :: WG) { frames := 0, cells := 0, slots := 0, locals := 0 } (zPre K [(a0, zO 9 9 g0)] sz [.ref a0, .int 0]) (va_Qr (fun _ : Nat → Nat => True) (fun (u : Nat → Nat) (a : Nat) (t : State) => a = (fun u : Nat → Nat => a1) u ∧ zB K (va_A [(a0, zO 9 9 g0)] sz) (fun u : Nat → Nat => [(a0, zO 9 9 g0)]) u t) (va_A [(a0, zO 9 9 g0)] sz)) 0 0 (va_A [(a0, zO 9 9 g0)] sz) := by
  refine z_met (Qc := fun A => (va_Qr (fun _ : Nat → Nat => True) (fun (u : Nat → Nat) (a : Nat) (t : State) => a = (fun u : Nat → Nat => a1) u ∧ zB K A (fun u : Nat → Nat => [(a0, zO 9 9 g0)]) u t) A)) (by decide +kernel) (Nat.le_of_ble_eq_true rfl) ?_
  intro p e s m args below meth c A ls H hx hb hr hg hown hlocks hml hin hK hP hD hA hS hZ hl
  have hown : s.vm.findClass RX11 = some m.cls := hown
  have hl : lv_has ls 2 [(0, .ref a0), (1, .int 0)] := hl
  refine lv_iload_n hx hb dX11_programOf_0 rfl (lv_at hl 1 rfl) ?_
  refine lv_if_ne (tgt := 9) hx hb dX11_programOf_1 (by decide) (fun c => absurd (by decide) c) (fun _ => ?_)
  refine lv_aload_n hx hb dX11_programOf_4 rfl (lv_at hl 0 rfl) ?_
  refine z_get (v := .ref a1) hx hb hg hown hK hP i_X11 rfl 0 rfl 3 (by decide) mt307 e0 dX11_programOf_5 ?_
  have hP9 : va_P K.1 classes [(a0, zO 9 9 g0)] H := hP.sub [0] rfl
  have hD9 : va_D A [(a0, zO 9 9 g0)] := hD.sub [0] (by decide) rfl
  exact z_aret hx hb hr (fun _ => 0) trivial hP9 hD9 hS (Nat.le_of_ble_eq_true rfl) (Nat.le_of_ble_eq_true rfl) hlocks dX11_programOf_8
set_option maxHeartbeats 4000000 in
set_option maxRecDepth 100000 in
theorem cX11_programToRun_3 (l : Launch) (K : zK) (sz : Nat) (a0 : Nat) (a1 : Nat) (g0 : Nat → Value) (j0 : Nat) (hj0 : j0 < 8) (j1 : Nat) (hj1 : j1 < 3) (e0 : g0 3 = (.ref a1)) : Met l yX11_programToRun (Cond.code yX11_programToRun cX11_programToRun 4 (some (.object "LazyLoom$Program")) :: WG) { frames := 1, cells := 0, slots := 0, locals := 22 } (zPre K [(a0, zO 9 9 g0)] sz [.ref a0, .int (nI j0), .int (nI j1), .int 0]) (va_Qr (fun _ : Nat → Nat => True) (fun (u : Nat → Nat) (a : Nat) (t : State) => a = (fun u : Nat → Nat => a1) u ∧ zB K (va_A [(a0, zO 9 9 g0)] sz) (fun u : Nat → Nat => [(a0, zO 9 9 g0)]) u t) (va_A [(a0, zO 9 9 g0)] sz)) 0 0 (va_A [(a0, zO 9 9 g0)] sz) := by
  refine z_met (Qc := fun A => (va_Qr (fun _ : Nat → Nat => True) (fun (u : Nat → Nat) (a : Nat) (t : State) => a = (fun u : Nat → Nat => a1) u ∧ zB K A (fun u : Nat → Nat => [(a0, zO 9 9 g0)]) u t) A)) (by decide +kernel) (Nat.le_of_ble_eq_true rfl) ?_
  intro p e s m args below meth c A ls H hx hb hr hg hown hlocks hml hin hK hP hD hA hS hZ hl
  have hown : s.vm.findClass RX11 = some m.cls := hown
  have hl : lv_has ls 4 [(0, .ref a0), (1, .int (nI j0)), (2, .int (nI j1)), (3, .int 0)] := hl
  refine lv_aload_n hx hb dX11_programToRun_0 rfl (lv_at hl 0 rfl) ?_
  refine lv_iload_n hx hb dX11_programToRun_1 rfl (lv_at hl 1 rfl) ?_
  refine lv_bipush (v := 8) hx hb dX11_programToRun_2 (by decide) ?_
  refine z_callv [(a0, zO 9 9 g0)] [] [0] [] hP hD hS hA rfl rfl (by decide) (by decide) (by decide +kernel) 0 0 rfl rfl (fun hPc hDc hF => z_runV (As := [.int (nI j0), .int 8]) (rest := []) ⟨hx, hb, hml, hown, hg⟩ (cX11_checkRange_5 l K H.size a0 g0 j0 hj0) kV_RX11_72 hd_X11_checkRange rfl rfl ⟨(Nat.le_of_ble_eq_true rfl), (Nat.le_of_ble_eq_true rfl)⟩ hK hS hZ hPc hDc hF 0 rfl rfl rfl hl.1 rfl (Nat.le_of_ble_eq_true rfl) dX11_programToRun_4 ⟨(Nat.le_of_ble_eq_true rfl), (Nat.le_of_ble_eq_true rfl)⟩) (fun u1 H locs w2 hP hD hS => ?_)
  have hP : va_P K.1 classes [(a0, zO 9 9 g0)] H := hP
  have hD : va_D A [(a0, zO 9 9 g0)] := hD
  refine lv_aload_n hx hb dX11_programToRun_7 rfl (lv_at hl 0 rfl) ?_
  refine lv_iload_n hx hb dX11_programToRun_8 rfl (lv_at hl 2 rfl) ?_
  refine lv_iconst (v := 3) hx hb dX11_programToRun_9 (by decide) ?_
  refine z_callv [(a0, zO 9 9 g0)] [] [0] [] hP hD hS hA rfl rfl (by decide) (by decide) (by decide +kernel) 0 0 rfl rfl (fun hPc hDc hF => z_runV (As := [.int (nI j1), .int 3]) (rest := []) ⟨hx, hb, hml, hown, hg⟩ (cX11_checkRange_16 l K H.size a0 g0 j1 hj1) kV_RX11_72 hd_X11_checkRange rfl rfl ⟨(Nat.le_of_ble_eq_true rfl), (Nat.le_of_ble_eq_true rfl)⟩ hK hS hZ hPc hDc hF 0 rfl rfl rfl hl.1 rfl (Nat.le_of_ble_eq_true rfl) dX11_programToRun_10 ⟨(Nat.le_of_ble_eq_true rfl), (Nat.le_of_ble_eq_true rfl)⟩) (fun u4 H locs w5 hP hD hS => ?_)
  have hP : va_P K.1 classes [(a0, zO 9 9 g0)] H := hP
  have hD : va_D A [(a0, zO 9 9 g0)] := hD
  refine lv_aload_n hx hb dX11_programToRun_13 rfl (lv_at hl 0 rfl) ?_
  refine lv_iload_n hx hb dX11_programToRun_14 rfl (lv_at hl 3 rfl) ?_
  refine z_callr [(a0, zO 9 9 g0)] [] [0] [] hP hD hS hA rfl rfl (by decide) (by decide) (by decide +kernel) 0 0 rfl rfl (fun hPc hDc hF => z_runV (As := [.int 0]) (rest := []) ⟨hx, hb, hml, hown, hg⟩ (cX11_programOf_1 l K H.size a0 a1 g0 e0) kV_RX11_157 hd_X11_programOf rfl rfl ⟨(Nat.le_of_ble_eq_true rfl), (Nat.le_of_ble_eq_true rfl)⟩ hK hS hZ hPc hDc hF 0 rfl rfl rfl hl.1 rfl (Nat.le_of_ble_eq_true rfl) dX11_programToRun_15 ⟨(Nat.le_of_ble_eq_true rfl), (Nat.le_of_ble_eq_true rfl)⟩) (fun u7 H locs w8 hP hD hS => ?_)
  have hP : va_P K.1 classes [(a0, zO 9 9 g0)] H := hP
  have hD : va_D A [(a0, zO 9 9 g0)] := hD
  refine W.eq (g2 := F0 m 18 ls [.ref a1]) rfl ?_
  have hP9 : va_P K.1 classes [(a0, zO 9 9 g0)] H := hP.sub [0] rfl
  have hD9 : va_D A [(a0, zO 9 9 g0)] := hD.sub [0] (by decide) rfl
  exact z_aret hx hb hr (fun _ => 0) trivial hP9 hD9 hS (Nat.le_of_ble_eq_true rfl) (Nat.le_of_ble_eq_true rfl) hlocks dX11_programToRun_18
set_option maxHeartbeats 4000000 in
set_option maxRecDepth 100000 in
theorem cX9_has_4 (l : Launch) (K : zK) (sz : Nat) (a0 : Nat) (g0 : Nat → Value) (e0 : g0 5 = (.int 645)) : Met l yX9_has (Cond.code yX9_has cX9_has 2 (some .boolean) :: WG) { frames := 0, cells := 0, slots := 0, locals := 0 } (zPre K [(a0, zO 7 6 g0)] sz [.ref a0, .int 640]) (va_Qi (fun (r : Int32) (_ : Nat → Nat) => r = 1) (zB K (va_A [(a0, zO 7 6 g0)] sz) (fun u : Nat → Nat => [(a0, zO 7 6 g0)])) (va_A [(a0, zO 7 6 g0)] sz)) 0 0 (va_A [(a0, zO 7 6 g0)] sz) := by
  refine z_met (Qc := fun A => (va_Qi (fun (r : Int32) (_ : Nat → Nat) => r = 1) (zB K A (fun u : Nat → Nat => [(a0, zO 7 6 g0)])) A)) (by decide +kernel) (Nat.le_of_ble_eq_true rfl) ?_
  intro p e s m args below meth c A ls H hx hb hr hg hown hlocks hml hin hK hP hD hA hS hZ hl
  have hown : s.vm.findClass RX9 = some m.cls := hown
  have hl : lv_has ls 2 [(0, .ref a0), (1, .int 640)] := hl
  refine lv_iload_n hx hb dX9_has_0 rfl (lv_at hl 1 rfl) ?_
  refine lv_if_lt (tgt := 16) hx hb dX9_has_1 (by decide) (fun c => absurd c (by decide)) (fun _ => ?_)
  refine lv_iload_n hx hb dX9_has_4 rfl (lv_at hl 1 rfl) ?_
  refine lv_aload_n hx hb dX9_has_5 rfl (lv_at hl 0 rfl) ?_
  refine z_get (v := .int 645) hx hb hg hown hK hP i_X9 rfl 0 rfl 5 (by decide) mt42 e0 dX9_has_6 ?_
  refine lv_icmp_ge (tgt := 16) hx hb dX9_has_9 (by decide) (fun c => absurd c (by decide)) (fun _ => ?_)
  refine lv_iconst (v := 1) hx hb dX9_has_12 (by decide) ?_
  refine lv_goto (tgt := 17) hx hb dX9_has_13 (by decide) ?_
  have hP9 : va_P K.1 classes [(a0, zO 7 6 g0)] H := hP.sub [0] rfl
  have hD9 : va_D A [(a0, zO 7 6 g0)] := hD.sub [0] (by decide) rfl
  exact z_zret hx hb hr rfl (fun _ => 0) rfl hP9 hD9 hS (Nat.le_of_ble_eq_true rfl) (Nat.le_of_ble_eq_true rfl) hlocks dX9_has_17
set_option maxHeartbeats 4000000 in
set_option maxRecDepth 100000 in
theorem cX9_set_5 (l : Launch) (K : zK) (sz : Nat) (a0 : Nat) (a1 : Nat) (a2 : Nat) (a3 : Nat) (a4 : Nat) (a5 : Nat) (g0 : Nat → Value) (f1 : Nat → Int32) (f2 : Nat → Int32) (f3 : Nat → Int32) (f4 : Nat → Int32) (f5 : Nat → Int32) (j0 : Nat) (hj0 : j0 < 8) (e0 : g0 5 = (.int 645)) (e1 : g0 0 = (.ref a1)) (e2 : g0 1 = (.ref a2)) (e3 : g0 2 = (.ref a3)) (e4 : g0 3 = (.ref a4)) (e5 : g0 4 = (.ref a5)) : Met l yX9_set (Cond.code yX9_set cX9_set 6 none :: WG) { frames := 1, cells := 0, slots := 0, locals := 21 } (zPre K [(a0, zO 7 6 g0), (a1, zI K 645 f1), (a2, zI K 645 f2), (a3, zI K 645 f3), (a4, zI K 645 f4), (a5, zI K 1935 f5)] sz [.ref a0, .int 640, .int 2, .int (nI j0), .int 0, .int 0]) (va_Qv (fun _ : Nat → Nat => True) (zB K (va_A [(a0, zO 7 6 g0), (a1, zI K 645 f1), (a2, zI K 645 f2), (a3, zI K 645 f3), (a4, zI K 645 f4), (a5, zI K 1935 f5)] sz) (fun u : Nat → Nat => [(a0, zO 7 6 g0), (a1, zI K 645 (va_up f1 640 2)), (a2, zI K 645 (va_up f2 640 (nI j0))), (a3, zI K 645 (va_up f3 640 0)), (a4, zI K 645 (va_up f4 640 0)), (a5, zI K 1935 (va_up (va_up (va_up f5 1920 (-1)) 1921 (-1)) 1922 (-1)))])) (va_A [(a0, zO 7 6 g0), (a1, zI K 645 f1), (a2, zI K 645 f2), (a3, zI K 645 f3), (a4, zI K 645 f4), (a5, zI K 1935 f5)] sz)) 0 0 (va_A [(a0, zO 7 6 g0), (a1, zI K 645 f1), (a2, zI K 645 f2), (a3, zI K 645 f3), (a4, zI K 645 f4), (a5, zI K 1935 f5)] sz) := by
  refine z_met (Qc := fun A => (va_Qv (fun _ : Nat → Nat => True) (zB K A (fun u : Nat → Nat => [(a0, zO 7 6 g0), (a1, zI K 645 (va_up f1 640 2)), (a2, zI K 645 (va_up f2 640 (nI j0))), (a3, zI K 645 (va_up f3 640 0)), (a4, zI K 645 (va_up f4 640 0)), (a5, zI K 1935 (va_up (va_up (va_up f5 1920 (-1)) 1921 (-1)) 1922 (-1)))])) A)) (by decide +kernel) (Nat.le_of_ble_eq_true rfl) ?_
  intro p e s m args below meth c A ls H hx hb hr hg hown hlocks hml hin hK hP hD hA hS hZ hl
  have hown : s.vm.findClass RX9 = some m.cls := hown
  have hl : lv_has ls 6 [(0, .ref a0), (1, .int 640), (2, .int 2), (3, .int (nI j0)), (4, .int 0), (5, .int 0)] := hl
  refine lv_aload_n hx hb dX9_set_0 rfl (lv_at hl 0 rfl) ?_
  refine lv_iload_n hx hb dX9_set_1 rfl (lv_at hl 1 rfl) ?_
  refine z_calli [(a0, zO 7 6 g0)] [(a1, zI K 645 f1), (a2, zI K 645 f2), (a3, zI K 645 f3), (a4, zI K 645 f4), (a5, zI K 1935 f5)] [0] [1, 2, 3, 4, 5] hP hD hS hA rfl rfl (by decide) (by decide) (by decide +kernel) 0 0 rfl rfl (fun hPc hDc hF => z_runV (As := [.int 640]) (rest := []) ⟨hx, hb, hml, hown, hg⟩ (cX9_has_4 l K H.size a0 g0 e0) kV_RX9_31 hd_X9_has rfl rfl ⟨(Nat.le_of_ble_eq_true rfl), (Nat.le_of_ble_eq_true rfl)⟩ hK hS hZ hPc hDc hF 0 rfl rfl rfl hl.1 rfl (Nat.le_of_ble_eq_true rfl) dX9_set_2 ⟨(Nat.le_of_ble_eq_true rfl), (Nat.le_of_ble_eq_true rfl)⟩) (fun r3 u1 H locs w2 hP hD hS => ?_)
  subst w2
  have hP : va_P K.1 classes [(a1, zI K 645 f1), (a2, zI K 645 f2), (a3, zI K 645 f3), (a4, zI K 645 f4), (a5, zI K 1935 f5), (a0, zO 7 6 g0)] H := hP
  have hD : va_D A [(a1, zI K 645 f1), (a2, zI K 645 f2), (a3, zI K 645 f3), (a4, zI K 645 f4), (a5, zI K 1935 f5), (a0, zO 7 6 g0)] := hD
  refine lv_if_eq (tgt := 69) hx hb dX9_set_5 (by decide) (fun c => absurd c (by decide)) (fun _ => ?_)
  refine lv_aload_n hx hb dX9_set_8 rfl (lv_at hl 0 rfl) ?_
  refine z_get (v := .ref a1) hx hb hg hown hK hP i_X9 rfl 5 rfl 0 (by decide) mt37 e1 dX9_set_9 ?_
  refine lv_iload_n hx hb dX9_set_12 rfl (lv_at hl 1 rfl) ?_
  refine lv_iload_n hx hb dX9_set_13 rfl (lv_at hl 2 rfl) ?_
  refine z_iast (j := 640) hx hb hK hP hD hS 0 rfl rfl (Nat.le_of_ble_eq_true rfl) (Nat.le_of_ble_eq_true rfl) dX9_set_14 (fun ff4 H locs y5 hP hD hS => ?_)
  have hP : va_P K.1 classes [(a1, zI K 645 ff4), (a2, zI K 645 f2), (a3, zI K 645 f3), (a4, zI K 645 f4), (a5, zI K 1935 f5), (a0, zO 7 6 g0)] H := hP
  have hD : va_D A [(a1, zI K 645 ff4), (a2, zI K 645 f2), (a3, zI K 645 f3), (a4, zI K 645 f4), (a5, zI K 1935 f5), (a0, zO 7 6 g0)] := hD
  refine lv_aload_n hx hb dX9_set_15 rfl (lv_at hl 0 rfl) ?_
  refine z_get (v := .ref a2) hx hb hg hown hK hP i_X9 rfl 5 rfl 1 (by decide) mt38 e2 dX9_set_16 ?_
  refine lv_iload_n hx hb dX9_set_19 rfl (lv_at hl 1 rfl) ?_
  refine lv_iload_n hx hb dX9_set_20 rfl (lv_at hl 3 rfl) ?_
  refine z_iast (j := 640) hx hb hK hP hD hS 1 rfl rfl (Nat.le_of_ble_eq_true rfl) (Nat.le_of_ble_eq_true rfl) dX9_set_21 (fun ff6 H locs y7 hP hD hS => ?_)
  have hP : va_P K.1 classes [(a1, zI K 645 ff4), (a2, zI K 645 ff6), (a3, zI K 645 f3), (a4, zI K 645 f4), (a5, zI K 1935 f5), (a0, zO 7 6 g0)] H := hP
  have hD : va_D A [(a1, zI K 645 ff4), (a2, zI K 645 ff6), (a3, zI K 645 f3), (a4, zI K 645 f4), (a5, zI K 1935 f5), (a0, zO 7 6 g0)] := hD
  refine lv_aload_n hx hb dX9_set_22 rfl (lv_at hl 0 rfl) ?_
  refine z_get (v := .ref a3) hx hb hg hown hK hP i_X9 rfl 5 rfl 2 (by decide) mt39 e3 dX9_set_23 ?_
  refine lv_iload_n hx hb dX9_set_26 rfl (lv_at hl 1 rfl) ?_
  refine lv_iload hx hb dX9_set_27 (lv_at hl 4 rfl) ?_
  refine z_iast (j := 640) hx hb hK hP hD hS 2 rfl rfl (Nat.le_of_ble_eq_true rfl) (Nat.le_of_ble_eq_true rfl) dX9_set_29 (fun ff8 H locs y9 hP hD hS => ?_)
  have hP : va_P K.1 classes [(a1, zI K 645 ff4), (a2, zI K 645 ff6), (a3, zI K 645 ff8), (a4, zI K 645 f4), (a5, zI K 1935 f5), (a0, zO 7 6 g0)] H := hP
  have hD : va_D A [(a1, zI K 645 ff4), (a2, zI K 645 ff6), (a3, zI K 645 ff8), (a4, zI K 645 f4), (a5, zI K 1935 f5), (a0, zO 7 6 g0)] := hD
  refine lv_aload_n hx hb dX9_set_30 rfl (lv_at hl 0 rfl) ?_
  refine z_get (v := .ref a4) hx hb hg hown hK hP i_X9 rfl 5 rfl 3 (by decide) mt40 e4 dX9_set_31 ?_
  refine lv_iload_n hx hb dX9_set_34 rfl (lv_at hl 1 rfl) ?_
  refine lv_iload hx hb dX9_set_35 (lv_at hl 5 rfl) ?_
  refine z_iast (j := 640) hx hb hK hP hD hS 3 rfl rfl (Nat.le_of_ble_eq_true rfl) (Nat.le_of_ble_eq_true rfl) dX9_set_37 (fun ff10 H locs y11 hP hD hS => ?_)
  have hP : va_P K.1 classes [(a1, zI K 645 ff4), (a2, zI K 645 ff6), (a3, zI K 645 ff8), (a4, zI K 645 ff10), (a5, zI K 1935 f5), (a0, zO 7 6 g0)] H := hP
  have hD : va_D A [(a1, zI K 645 ff4), (a2, zI K 645 ff6), (a3, zI K 645 ff8), (a4, zI K 645 ff10), (a5, zI K 1935 f5), (a0, zO 7 6 g0)] := hD
  refine lv_aload_n hx hb dX9_set_38 rfl (lv_at hl 0 rfl) ?_
  refine z_get (v := .ref a5) hx hb hg hown hK hP i_X9 rfl 5 rfl 4 (by decide) mt41 e5 dX9_set_39 ?_
  refine lv_iconst (v := 3) hx hb dX9_set_42 (by decide) ?_
  refine lv_iload_n hx hb dX9_set_43 rfl (lv_at hl 1 rfl) ?_
  refine lv_imul hx hb dX9_set_44 ?_
  refine z_cst (v := 1920) (by decide +kernel) ?_
  refine lv_iconst (v := (-1)) hx hb dX9_set_45 (by decide) ?_
  refine z_iast (j := 1920) hx hb hK hP hD hS 4 rfl rfl (Nat.le_of_ble_eq_true rfl) (Nat.le_of_ble_eq_true rfl) dX9_set_46 (fun ff12 H locs y13 hP hD hS => ?_)
  have hP : va_P K.1 classes [(a1, zI K 645 ff4), (a2, zI K 645 ff6), (a3, zI K 645 ff8), (a4, zI K 645 ff10), (a5, zI K 1935 ff12), (a0, zO 7 6 g0)] H := hP
  have hD : va_D A [(a1, zI K 645 ff4), (a2, zI K 645 ff6), (a3, zI K 645 ff8), (a4, zI K 645 ff10), (a5, zI K 1935 ff12), (a0, zO 7 6 g0)] := hD
  refine lv_aload_n hx hb dX9_set_47 rfl (lv_at hl 0 rfl) ?_
  refine z_get (v := .ref a5) hx hb hg hown hK hP i_X9 rfl 5 rfl 4 (by decide) mt41 e5 dX9_set_48 ?_
  refine lv_iconst (v := 3) hx hb dX9_set_51 (by decide) ?_
  refine lv_iload_n hx hb dX9_set_52 rfl (lv_at hl 1 rfl) ?_
  refine lv_imul hx hb dX9_set_53 ?_
  refine z_cst (v := 1920) (by decide +kernel) ?_
  refine lv_iconst (v := 1) hx hb dX9_set_54 (by decide) ?_
  refine lv_iadd hx hb dX9_set_55 ?_
  refine z_cst (v := 1921) (by decide +kernel) ?_
  refine lv_iconst (v := (-1)) hx hb dX9_set_56 (by decide) ?_
  refine z_iast (j := 1921) hx hb hK hP hD hS 4 rfl rfl (Nat.le_of_ble_eq_true rfl) (Nat.le_of_ble_eq_true rfl) dX9_set_57 (fun ff14 H locs y15 hP hD hS => ?_)
  have hP : va_P K.1 classes [(a1, zI K 645 ff4), (a2, zI K 645 ff6), (a3, zI K 645 ff8), (a4, zI K 645 ff10), (a5, zI K 1935 ff14), (a0, zO 7 6 g0)] H := hP
  have hD : va_D A [(a1, zI K 645 ff4), (a2, zI K 645 ff6), (a3, zI K 645 ff8), (a4, zI K 645 ff10), (a5, zI K 1935 ff14), (a0, zO 7 6 g0)] := hD
  refine lv_aload_n hx hb dX9_set_58 rfl (lv_at hl 0 rfl) ?_
  refine z_get (v := .ref a5) hx hb hg hown hK hP i_X9 rfl 5 rfl 4 (by decide) mt41 e5 dX9_set_59 ?_
  refine lv_iconst (v := 3) hx hb dX9_set_62 (by decide) ?_
  refine lv_iload_n hx hb dX9_set_63 rfl (lv_at hl 1 rfl) ?_
  refine lv_imul hx hb dX9_set_64 ?_
  refine z_cst (v := 1920) (by decide +kernel) ?_
  refine lv_iconst (v := 2) hx hb dX9_set_65 (by decide) ?_
  refine lv_iadd hx hb dX9_set_66 ?_
  refine z_cst (v := 1922) (by decide +kernel) ?_
  refine lv_iconst (v := (-1)) hx hb dX9_set_67 (by decide) ?_
  refine z_iast (j := 1922) hx hb hK hP hD hS 4 rfl rfl (Nat.le_of_ble_eq_true rfl) (Nat.le_of_ble_eq_true rfl) dX9_set_68 (fun ff16 H locs y17 hP hD hS => ?_)
  have hP : va_P K.1 classes [(a1, zI K 645 ff4), (a2, zI K 645 ff6), (a3, zI K 645 ff8), (a4, zI K 645 ff10), (a5, zI K 1935 ff16), (a0, zO 7 6 g0)] H := hP
  have hD : va_D A [(a1, zI K 645 ff4), (a2, zI K 645 ff6), (a3, zI K 645 ff8), (a4, zI K 645 ff10), (a5, zI K 1935 ff16), (a0, zO 7 6 g0)] := hD
  subst y17
  subst y15
  subst y13
  subst y11
  subst y9
  subst y7
  subst y5
  have hP9 : va_P K.1 classes [(a0, zO 7 6 g0), (a1, zI K 645 (va_up f1 640 2)), (a2, zI K 645 (va_up f2 640 (nI j0))), (a3, zI K 645 (va_up f3 640 0)), (a4, zI K 645 (va_up f4 640 0)), (a5, zI K 1935 (va_up (va_up (va_up f5 1920 (-1)) 1921 (-1)) 1922 (-1)))] H := hP.sub [5, 0, 1, 2, 3, 4] rfl
  have hD9 : va_D A [(a0, zO 7 6 g0), (a1, zI K 645 (va_up f1 640 2)), (a2, zI K 645 (va_up f2 640 (nI j0))), (a3, zI K 645 (va_up f3 640 0)), (a4, zI K 645 (va_up f4 640 0)), (a5, zI K 1935 (va_up (va_up (va_up f5 1920 (-1)) 1921 (-1)) 1922 (-1)))] := hD.sub [5, 0, 1, 2, 3, 4] (by decide) rfl
  exact z_vret hx hb hr (fun _ => 0) trivial hP9 hD9 hS (Nat.le_of_ble_eq_true rfl) (Nat.le_of_ble_eq_true rfl) hlocks dX9_set_69
set_option maxHeartbeats 4000000 in
set_option maxRecDepth 100000 in
theorem cX9_has_5 (l : Launch) (K : zK) (sz : Nat) (a0 : Nat) (g0 : Nat → Value) (e0 : g0 5 = (.int 645)) : Met l yX9_has (Cond.code yX9_has cX9_has 2 (some .boolean) :: WG) { frames := 0, cells := 0, slots := 0, locals := 0 } (zPre K [(a0, zO 7 6 g0)] sz [.ref a0, .int 641]) (va_Qi (fun (r : Int32) (_ : Nat → Nat) => r = 1) (zB K (va_A [(a0, zO 7 6 g0)] sz) (fun u : Nat → Nat => [(a0, zO 7 6 g0)])) (va_A [(a0, zO 7 6 g0)] sz)) 0 0 (va_A [(a0, zO 7 6 g0)] sz) := by
  refine z_met (Qc := fun A => (va_Qi (fun (r : Int32) (_ : Nat → Nat) => r = 1) (zB K A (fun u : Nat → Nat => [(a0, zO 7 6 g0)])) A)) (by decide +kernel) (Nat.le_of_ble_eq_true rfl) ?_
  intro p e s m args below meth c A ls H hx hb hr hg hown hlocks hml hin hK hP hD hA hS hZ hl
  have hown : s.vm.findClass RX9 = some m.cls := hown
  have hl : lv_has ls 2 [(0, .ref a0), (1, .int 641)] := hl
  refine lv_iload_n hx hb dX9_has_0 rfl (lv_at hl 1 rfl) ?_
  refine lv_if_lt (tgt := 16) hx hb dX9_has_1 (by decide) (fun c => absurd c (by decide)) (fun _ => ?_)
  refine lv_iload_n hx hb dX9_has_4 rfl (lv_at hl 1 rfl) ?_
  refine lv_aload_n hx hb dX9_has_5 rfl (lv_at hl 0 rfl) ?_
  refine z_get (v := .int 645) hx hb hg hown hK hP i_X9 rfl 0 rfl 5 (by decide) mt42 e0 dX9_has_6 ?_
  refine lv_icmp_ge (tgt := 16) hx hb dX9_has_9 (by decide) (fun c => absurd c (by decide)) (fun _ => ?_)
  refine lv_iconst (v := 1) hx hb dX9_has_12 (by decide) ?_
  refine lv_goto (tgt := 17) hx hb dX9_has_13 (by decide) ?_
  have hP9 : va_P K.1 classes [(a0, zO 7 6 g0)] H := hP.sub [0] rfl
  have hD9 : va_D A [(a0, zO 7 6 g0)] := hD.sub [0] (by decide) rfl
  exact z_zret hx hb hr rfl (fun _ => 0) rfl hP9 hD9 hS (Nat.le_of_ble_eq_true rfl) (Nat.le_of_ble_eq_true rfl) hlocks dX9_has_17
set_option maxHeartbeats 4000000 in
set_option maxRecDepth 100000 in
theorem cX9_set_6 (l : Launch) (K : zK) (sz : Nat) (a0 : Nat) (a1 : Nat) (a2 : Nat) (a3 : Nat) (a4 : Nat) (a5 : Nat) (g0 : Nat → Value) (f1 : Nat → Int32) (f2 : Nat → Int32) (f3 : Nat → Int32) (f4 : Nat → Int32) (f5 : Nat → Int32) (x0 : Int32) (e0 : g0 5 = (.int 645)) (e1 : g0 0 = (.ref a1)) (e2 : g0 1 = (.ref a2)) (e3 : g0 2 = (.ref a3)) (e4 : g0 3 = (.ref a4)) (e5 : g0 4 = (.ref a5)) : Met l yX9_set (Cond.code yX9_set cX9_set 6 none :: WG) { frames := 1, cells := 0, slots := 0, locals := 21 } (zPre K [(a0, zO 7 6 g0), (a1, zI K 645 f1), (a2, zI K 645 f2), (a3, zI K 645 f3), (a4, zI K 645 f4), (a5, zI K 1935 f5)] sz [.ref a0, .int 641, .int 0, .int x0, .int 0, .int 0]) (va_Qv (fun _ : Nat → Nat => True) (zB K (va_A [(a0, zO 7 6 g0), (a1, zI K 645 f1), (a2, zI K 645 f2), (a3, zI K 645 f3), (a4, zI K 645 f4), (a5, zI K 1935 f5)] sz) (fun u : Nat → Nat => [(a0, zO 7 6 g0), (a1, zI K 645 (va_up f1 641 0)), (a2, zI K 645 (va_up f2 641 x0)), (a3, zI K 645 (va_up f3 641 0)), (a4, zI K 645 (va_up f4 641 0)), (a5, zI K 1935 (va_up (va_up (va_up f5 1923 (-1)) 1924 (-1)) 1925 (-1)))])) (va_A [(a0, zO 7 6 g0), (a1, zI K 645 f1), (a2, zI K 645 f2), (a3, zI K 645 f3), (a4, zI K 645 f4), (a5, zI K 1935 f5)] sz)) 0 0 (va_A [(a0, zO 7 6 g0), (a1, zI K 645 f1), (a2, zI K 645 f2), (a3, zI K 645 f3), (a4, zI K 645 f4), (a5, zI K 1935 f5)] sz) := by
  refine z_met (Qc := fun A => (va_Qv (fun _ : Nat → Nat => True) (zB K A (fun u : Nat → Nat => [(a0, zO 7 6 g0), (a1, zI K 645 (va_up f1 641 0)), (a2, zI K 645 (va_up f2 641 x0)), (a3, zI K 645 (va_up f3 641 0)), (a4, zI K 645 (va_up f4 641 0)), (a5, zI K 1935 (va_up (va_up (va_up f5 1923 (-1)) 1924 (-1)) 1925 (-1)))])) A)) (by decide +kernel) (Nat.le_of_ble_eq_true rfl) ?_
  intro p e s m args below meth c A ls H hx hb hr hg hown hlocks hml hin hK hP hD hA hS hZ hl
  have hown : s.vm.findClass RX9 = some m.cls := hown
  have hl : lv_has ls 6 [(0, .ref a0), (1, .int 641), (2, .int 0), (3, .int x0), (4, .int 0), (5, .int 0)] := hl
  refine lv_aload_n hx hb dX9_set_0 rfl (lv_at hl 0 rfl) ?_
  refine lv_iload_n hx hb dX9_set_1 rfl (lv_at hl 1 rfl) ?_
  refine z_calli [(a0, zO 7 6 g0)] [(a1, zI K 645 f1), (a2, zI K 645 f2), (a3, zI K 645 f3), (a4, zI K 645 f4), (a5, zI K 1935 f5)] [0] [1, 2, 3, 4, 5] hP hD hS hA rfl rfl (by decide) (by decide) (by decide +kernel) 0 0 rfl rfl (fun hPc hDc hF => z_runV (As := [.int 641]) (rest := []) ⟨hx, hb, hml, hown, hg⟩ (cX9_has_5 l K H.size a0 g0 e0) kV_RX9_31 hd_X9_has rfl rfl ⟨(Nat.le_of_ble_eq_true rfl), (Nat.le_of_ble_eq_true rfl)⟩ hK hS hZ hPc hDc hF 0 rfl rfl rfl hl.1 rfl (Nat.le_of_ble_eq_true rfl) dX9_set_2 ⟨(Nat.le_of_ble_eq_true rfl), (Nat.le_of_ble_eq_true rfl)⟩) (fun r3 u1 H locs w2 hP hD hS => ?_)
  subst w2
  have hP : va_P K.1 classes [(a1, zI K 645 f1), (a2, zI K 645 f2), (a3, zI K 645 f3), (a4, zI K 645 f4), (a5, zI K 1935 f5), (a0, zO 7 6 g0)] H := hP
  have hD : va_D A [(a1, zI K 645 f1), (a2, zI K 645 f2), (a3, zI K 645 f3), (a4, zI K 645 f4), (a5, zI K 1935 f5), (a0, zO 7 6 g0)] := hD
  refine lv_if_eq (tgt := 69) hx hb dX9_set_5 (by decide) (fun c => absurd c (by decide)) (fun _ => ?_)
  refine lv_aload_n hx hb dX9_set_8 rfl (lv_at hl 0 rfl) ?_
  refine z_get (v := .ref a1) hx hb hg hown hK hP i_X9 rfl 5 rfl 0 (by decide) mt37 e1 dX9_set_9 ?_
  refine lv_iload_n hx hb dX9_set_12 rfl (lv_at hl 1 rfl) ?_
  refine lv_iload_n hx hb dX9_set_13 rfl (lv_at hl 2 rfl) ?_
  refine z_iast (j := 641) hx hb hK hP hD hS 0 rfl rfl (Nat.le_of_ble_eq_true rfl) (Nat.le_of_ble_eq_true rfl) dX9_set_14 (fun ff4 H locs y5 hP hD hS => ?_)
  have hP : va_P K.1 classes [(a1, zI K 645 ff4), (a2, zI K 645 f2), (a3, zI K 645 f3), (a4, zI K 645 f4), (a5, zI K 1935 f5), (a0, zO 7 6 g0)] H := hP
  have hD : va_D A [(a1, zI K 645 ff4), (a2, zI K 645 f2), (a3, zI K 645 f3), (a4, zI K 645 f4), (a5, zI K 1935 f5), (a0, zO 7 6 g0)] := hD
  refine lv_aload_n hx hb dX9_set_15 rfl (lv_at hl 0 rfl) ?_
  refine z_get (v := .ref a2) hx hb hg hown hK hP i_X9 rfl 5 rfl 1 (by decide) mt38 e2 dX9_set_16 ?_
  refine lv_iload_n hx hb dX9_set_19 rfl (lv_at hl 1 rfl) ?_
  refine lv_iload_n hx hb dX9_set_20 rfl (lv_at hl 3 rfl) ?_
  refine z_iast (j := 641) hx hb hK hP hD hS 1 rfl rfl (Nat.le_of_ble_eq_true rfl) (Nat.le_of_ble_eq_true rfl) dX9_set_21 (fun ff6 H locs y7 hP hD hS => ?_)
  have hP : va_P K.1 classes [(a1, zI K 645 ff4), (a2, zI K 645 ff6), (a3, zI K 645 f3), (a4, zI K 645 f4), (a5, zI K 1935 f5), (a0, zO 7 6 g0)] H := hP
  have hD : va_D A [(a1, zI K 645 ff4), (a2, zI K 645 ff6), (a3, zI K 645 f3), (a4, zI K 645 f4), (a5, zI K 1935 f5), (a0, zO 7 6 g0)] := hD
  refine lv_aload_n hx hb dX9_set_22 rfl (lv_at hl 0 rfl) ?_
  refine z_get (v := .ref a3) hx hb hg hown hK hP i_X9 rfl 5 rfl 2 (by decide) mt39 e3 dX9_set_23 ?_
  refine lv_iload_n hx hb dX9_set_26 rfl (lv_at hl 1 rfl) ?_
  refine lv_iload hx hb dX9_set_27 (lv_at hl 4 rfl) ?_
  refine z_iast (j := 641) hx hb hK hP hD hS 2 rfl rfl (Nat.le_of_ble_eq_true rfl) (Nat.le_of_ble_eq_true rfl) dX9_set_29 (fun ff8 H locs y9 hP hD hS => ?_)
  have hP : va_P K.1 classes [(a1, zI K 645 ff4), (a2, zI K 645 ff6), (a3, zI K 645 ff8), (a4, zI K 645 f4), (a5, zI K 1935 f5), (a0, zO 7 6 g0)] H := hP
  have hD : va_D A [(a1, zI K 645 ff4), (a2, zI K 645 ff6), (a3, zI K 645 ff8), (a4, zI K 645 f4), (a5, zI K 1935 f5), (a0, zO 7 6 g0)] := hD
  refine lv_aload_n hx hb dX9_set_30 rfl (lv_at hl 0 rfl) ?_
  refine z_get (v := .ref a4) hx hb hg hown hK hP i_X9 rfl 5 rfl 3 (by decide) mt40 e4 dX9_set_31 ?_
  refine lv_iload_n hx hb dX9_set_34 rfl (lv_at hl 1 rfl) ?_
  refine lv_iload hx hb dX9_set_35 (lv_at hl 5 rfl) ?_
  refine z_iast (j := 641) hx hb hK hP hD hS 3 rfl rfl (Nat.le_of_ble_eq_true rfl) (Nat.le_of_ble_eq_true rfl) dX9_set_37 (fun ff10 H locs y11 hP hD hS => ?_)
  have hP : va_P K.1 classes [(a1, zI K 645 ff4), (a2, zI K 645 ff6), (a3, zI K 645 ff8), (a4, zI K 645 ff10), (a5, zI K 1935 f5), (a0, zO 7 6 g0)] H := hP
  have hD : va_D A [(a1, zI K 645 ff4), (a2, zI K 645 ff6), (a3, zI K 645 ff8), (a4, zI K 645 ff10), (a5, zI K 1935 f5), (a0, zO 7 6 g0)] := hD
  refine lv_aload_n hx hb dX9_set_38 rfl (lv_at hl 0 rfl) ?_
  refine z_get (v := .ref a5) hx hb hg hown hK hP i_X9 rfl 5 rfl 4 (by decide) mt41 e5 dX9_set_39 ?_
  refine lv_iconst (v := 3) hx hb dX9_set_42 (by decide) ?_
  refine lv_iload_n hx hb dX9_set_43 rfl (lv_at hl 1 rfl) ?_
  refine lv_imul hx hb dX9_set_44 ?_
  refine z_cst (v := 1923) (by decide +kernel) ?_
  refine lv_iconst (v := (-1)) hx hb dX9_set_45 (by decide) ?_
  refine z_iast (j := 1923) hx hb hK hP hD hS 4 rfl rfl (Nat.le_of_ble_eq_true rfl) (Nat.le_of_ble_eq_true rfl) dX9_set_46 (fun ff12 H locs y13 hP hD hS => ?_)
  have hP : va_P K.1 classes [(a1, zI K 645 ff4), (a2, zI K 645 ff6), (a3, zI K 645 ff8), (a4, zI K 645 ff10), (a5, zI K 1935 ff12), (a0, zO 7 6 g0)] H := hP
  have hD : va_D A [(a1, zI K 645 ff4), (a2, zI K 645 ff6), (a3, zI K 645 ff8), (a4, zI K 645 ff10), (a5, zI K 1935 ff12), (a0, zO 7 6 g0)] := hD
  refine lv_aload_n hx hb dX9_set_47 rfl (lv_at hl 0 rfl) ?_
  refine z_get (v := .ref a5) hx hb hg hown hK hP i_X9 rfl 5 rfl 4 (by decide) mt41 e5 dX9_set_48 ?_
  refine lv_iconst (v := 3) hx hb dX9_set_51 (by decide) ?_
  refine lv_iload_n hx hb dX9_set_52 rfl (lv_at hl 1 rfl) ?_
  refine lv_imul hx hb dX9_set_53 ?_
  refine z_cst (v := 1923) (by decide +kernel) ?_
  refine lv_iconst (v := 1) hx hb dX9_set_54 (by decide) ?_
  refine lv_iadd hx hb dX9_set_55 ?_
  refine z_cst (v := 1924) (by decide +kernel) ?_
  refine lv_iconst (v := (-1)) hx hb dX9_set_56 (by decide) ?_
  refine z_iast (j := 1924) hx hb hK hP hD hS 4 rfl rfl (Nat.le_of_ble_eq_true rfl) (Nat.le_of_ble_eq_true rfl) dX9_set_57 (fun ff14 H locs y15 hP hD hS => ?_)
  have hP : va_P K.1 classes [(a1, zI K 645 ff4), (a2, zI K 645 ff6), (a3, zI K 645 ff8), (a4, zI K 645 ff10), (a5, zI K 1935 ff14), (a0, zO 7 6 g0)] H := hP
  have hD : va_D A [(a1, zI K 645 ff4), (a2, zI K 645 ff6), (a3, zI K 645 ff8), (a4, zI K 645 ff10), (a5, zI K 1935 ff14), (a0, zO 7 6 g0)] := hD
  refine lv_aload_n hx hb dX9_set_58 rfl (lv_at hl 0 rfl) ?_
  refine z_get (v := .ref a5) hx hb hg hown hK hP i_X9 rfl 5 rfl 4 (by decide) mt41 e5 dX9_set_59 ?_
  refine lv_iconst (v := 3) hx hb dX9_set_62 (by decide) ?_
  refine lv_iload_n hx hb dX9_set_63 rfl (lv_at hl 1 rfl) ?_
  refine lv_imul hx hb dX9_set_64 ?_
  refine z_cst (v := 1923) (by decide +kernel) ?_
  refine lv_iconst (v := 2) hx hb dX9_set_65 (by decide) ?_
  refine lv_iadd hx hb dX9_set_66 ?_
  refine z_cst (v := 1925) (by decide +kernel) ?_
  refine lv_iconst (v := (-1)) hx hb dX9_set_67 (by decide) ?_
  refine z_iast (j := 1925) hx hb hK hP hD hS 4 rfl rfl (Nat.le_of_ble_eq_true rfl) (Nat.le_of_ble_eq_true rfl) dX9_set_68 (fun ff16 H locs y17 hP hD hS => ?_)
  have hP : va_P K.1 classes [(a1, zI K 645 ff4), (a2, zI K 645 ff6), (a3, zI K 645 ff8), (a4, zI K 645 ff10), (a5, zI K 1935 ff16), (a0, zO 7 6 g0)] H := hP
  have hD : va_D A [(a1, zI K 645 ff4), (a2, zI K 645 ff6), (a3, zI K 645 ff8), (a4, zI K 645 ff10), (a5, zI K 1935 ff16), (a0, zO 7 6 g0)] := hD
  subst y17
  subst y15
  subst y13
  subst y11
  subst y9
  subst y7
  subst y5
  have hP9 : va_P K.1 classes [(a0, zO 7 6 g0), (a1, zI K 645 (va_up f1 641 0)), (a2, zI K 645 (va_up f2 641 x0)), (a3, zI K 645 (va_up f3 641 0)), (a4, zI K 645 (va_up f4 641 0)), (a5, zI K 1935 (va_up (va_up (va_up f5 1923 (-1)) 1924 (-1)) 1925 (-1)))] H := hP.sub [5, 0, 1, 2, 3, 4] rfl
  have hD9 : va_D A [(a0, zO 7 6 g0), (a1, zI K 645 (va_up f1 641 0)), (a2, zI K 645 (va_up f2 641 x0)), (a3, zI K 645 (va_up f3 641 0)), (a4, zI K 645 (va_up f4 641 0)), (a5, zI K 1935 (va_up (va_up (va_up f5 1923 (-1)) 1924 (-1)) 1925 (-1)))] := hD.sub [5, 0, 1, 2, 3, 4] (by decide) rfl
  exact z_vret hx hb hr (fun _ => 0) trivial hP9 hD9 hS (Nat.le_of_ble_eq_true rfl) (Nat.le_of_ble_eq_true rfl) hlocks dX9_set_69
set_option maxHeartbeats 4000000 in
set_option maxRecDepth 100000 in
theorem cX9_has_6 (l : Launch) (K : zK) (sz : Nat) (a0 : Nat) (g0 : Nat → Value) (e0 : g0 5 = (.int 645)) : Met l yX9_has (Cond.code yX9_has cX9_has 2 (some .boolean) :: WG) { frames := 0, cells := 0, slots := 0, locals := 0 } (zPre K [(a0, zO 7 6 g0)] sz [.ref a0, .int 642]) (va_Qi (fun (r : Int32) (_ : Nat → Nat) => r = 1) (zB K (va_A [(a0, zO 7 6 g0)] sz) (fun u : Nat → Nat => [(a0, zO 7 6 g0)])) (va_A [(a0, zO 7 6 g0)] sz)) 0 0 (va_A [(a0, zO 7 6 g0)] sz) := by
  refine z_met (Qc := fun A => (va_Qi (fun (r : Int32) (_ : Nat → Nat) => r = 1) (zB K A (fun u : Nat → Nat => [(a0, zO 7 6 g0)])) A)) (by decide +kernel) (Nat.le_of_ble_eq_true rfl) ?_
  intro p e s m args below meth c A ls H hx hb hr hg hown hlocks hml hin hK hP hD hA hS hZ hl
  have hown : s.vm.findClass RX9 = some m.cls := hown
  have hl : lv_has ls 2 [(0, .ref a0), (1, .int 642)] := hl
  refine lv_iload_n hx hb dX9_has_0 rfl (lv_at hl 1 rfl) ?_
  refine lv_if_lt (tgt := 16) hx hb dX9_has_1 (by decide) (fun c => absurd c (by decide)) (fun _ => ?_)
  refine lv_iload_n hx hb dX9_has_4 rfl (lv_at hl 1 rfl) ?_
  refine lv_aload_n hx hb dX9_has_5 rfl (lv_at hl 0 rfl) ?_
  refine z_get (v := .int 645) hx hb hg hown hK hP i_X9 rfl 0 rfl 5 (by decide) mt42 e0 dX9_has_6 ?_
  refine lv_icmp_ge (tgt := 16) hx hb dX9_has_9 (by decide) (fun c => absurd c (by decide)) (fun _ => ?_)
  refine lv_iconst (v := 1) hx hb dX9_has_12 (by decide) ?_
  refine lv_goto (tgt := 17) hx hb dX9_has_13 (by decide) ?_
  have hP9 : va_P K.1 classes [(a0, zO 7 6 g0)] H := hP.sub [0] rfl
  have hD9 : va_D A [(a0, zO 7 6 g0)] := hD.sub [0] (by decide) rfl
  exact z_zret hx hb hr rfl (fun _ => 0) rfl hP9 hD9 hS (Nat.le_of_ble_eq_true rfl) (Nat.le_of_ble_eq_true rfl) hlocks dX9_has_17
set_option maxHeartbeats 4000000 in
set_option maxRecDepth 100000 in
theorem cX9_set_7 (l : Launch) (K : zK) (sz : Nat) (a0 : Nat) (a1 : Nat) (a2 : Nat) (a3 : Nat) (a4 : Nat) (a5 : Nat) (g0 : Nat → Value) (f1 : Nat → Int32) (f2 : Nat → Int32) (f3 : Nat → Int32) (f4 : Nat → Int32) (f5 : Nat → Int32) (e0 : g0 5 = (.int 645)) (e1 : g0 0 = (.ref a1)) (e2 : g0 1 = (.ref a2)) (e3 : g0 2 = (.ref a3)) (e4 : g0 3 = (.ref a4)) (e5 : g0 4 = (.ref a5)) : Met l yX9_set (Cond.code yX9_set cX9_set 6 none :: WG) { frames := 1, cells := 0, slots := 0, locals := 21 } (zPre K [(a0, zO 7 6 g0), (a1, zI K 645 f1), (a2, zI K 645 f2), (a3, zI K 645 f3), (a4, zI K 645 f4), (a5, zI K 1935 f5)] sz [.ref a0, .int 642, .int 4, .int 0, .int 0, .int 0]) (va_Qv (fun _ : Nat → Nat => True) (zB K (va_A [(a0, zO 7 6 g0), (a1, zI K 645 f1), (a2, zI K 645 f2), (a3, zI K 645 f3), (a4, zI K 645 f4), (a5, zI K 1935 f5)] sz) (fun u : Nat → Nat => [(a0, zO 7 6 g0), (a1, zI K 645 (va_up f1 642 4)), (a2, zI K 645 (va_up f2 642 0)), (a3, zI K 645 (va_up f3 642 0)), (a4, zI K 645 (va_up f4 642 0)), (a5, zI K 1935 (va_up (va_up (va_up f5 1926 (-1)) 1927 (-1)) 1928 (-1)))])) (va_A [(a0, zO 7 6 g0), (a1, zI K 645 f1), (a2, zI K 645 f2), (a3, zI K 645 f3), (a4, zI K 645 f4), (a5, zI K 1935 f5)] sz)) 0 0 (va_A [(a0, zO 7 6 g0), (a1, zI K 645 f1), (a2, zI K 645 f2), (a3, zI K 645 f3), (a4, zI K 645 f4), (a5, zI K 1935 f5)] sz) := by
  refine z_met (Qc := fun A => (va_Qv (fun _ : Nat → Nat => True) (zB K A (fun u : Nat → Nat => [(a0, zO 7 6 g0), (a1, zI K 645 (va_up f1 642 4)), (a2, zI K 645 (va_up f2 642 0)), (a3, zI K 645 (va_up f3 642 0)), (a4, zI K 645 (va_up f4 642 0)), (a5, zI K 1935 (va_up (va_up (va_up f5 1926 (-1)) 1927 (-1)) 1928 (-1)))])) A)) (by decide +kernel) (Nat.le_of_ble_eq_true rfl) ?_
  intro p e s m args below meth c A ls H hx hb hr hg hown hlocks hml hin hK hP hD hA hS hZ hl
  have hown : s.vm.findClass RX9 = some m.cls := hown
  have hl : lv_has ls 6 [(0, .ref a0), (1, .int 642), (2, .int 4), (3, .int 0), (4, .int 0), (5, .int 0)] := hl
  refine lv_aload_n hx hb dX9_set_0 rfl (lv_at hl 0 rfl) ?_
  refine lv_iload_n hx hb dX9_set_1 rfl (lv_at hl 1 rfl) ?_
  refine z_calli [(a0, zO 7 6 g0)] [(a1, zI K 645 f1), (a2, zI K 645 f2), (a3, zI K 645 f3), (a4, zI K 645 f4), (a5, zI K 1935 f5)] [0] [1, 2, 3, 4, 5] hP hD hS hA rfl rfl (by decide) (by decide) (by decide +kernel) 0 0 rfl rfl (fun hPc hDc hF => z_runV (As := [.int 642]) (rest := []) ⟨hx, hb, hml, hown, hg⟩ (cX9_has_6 l K H.size a0 g0 e0) kV_RX9_31 hd_X9_has rfl rfl ⟨(Nat.le_of_ble_eq_true rfl), (Nat.le_of_ble_eq_true rfl)⟩ hK hS hZ hPc hDc hF 0 rfl rfl rfl hl.1 rfl (Nat.le_of_ble_eq_true rfl) dX9_set_2 ⟨(Nat.le_of_ble_eq_true rfl), (Nat.le_of_ble_eq_true rfl)⟩) (fun r3 u1 H locs w2 hP hD hS => ?_)
  subst w2
  have hP : va_P K.1 classes [(a1, zI K 645 f1), (a2, zI K 645 f2), (a3, zI K 645 f3), (a4, zI K 645 f4), (a5, zI K 1935 f5), (a0, zO 7 6 g0)] H := hP
  have hD : va_D A [(a1, zI K 645 f1), (a2, zI K 645 f2), (a3, zI K 645 f3), (a4, zI K 645 f4), (a5, zI K 1935 f5), (a0, zO 7 6 g0)] := hD
  refine lv_if_eq (tgt := 69) hx hb dX9_set_5 (by decide) (fun c => absurd c (by decide)) (fun _ => ?_)
  refine lv_aload_n hx hb dX9_set_8 rfl (lv_at hl 0 rfl) ?_
  refine z_get (v := .ref a1) hx hb hg hown hK hP i_X9 rfl 5 rfl 0 (by decide) mt37 e1 dX9_set_9 ?_
  refine lv_iload_n hx hb dX9_set_12 rfl (lv_at hl 1 rfl) ?_
  refine lv_iload_n hx hb dX9_set_13 rfl (lv_at hl 2 rfl) ?_
  refine z_iast (j := 642) hx hb hK hP hD hS 0 rfl rfl (Nat.le_of_ble_eq_true rfl) (Nat.le_of_ble_eq_true rfl) dX9_set_14 (fun ff4 H locs y5 hP hD hS => ?_)
  have hP : va_P K.1 classes [(a1, zI K 645 ff4), (a2, zI K 645 f2), (a3, zI K 645 f3), (a4, zI K 645 f4), (a5, zI K 1935 f5), (a0, zO 7 6 g0)] H := hP
  have hD : va_D A [(a1, zI K 645 ff4), (a2, zI K 645 f2), (a3, zI K 645 f3), (a4, zI K 645 f4), (a5, zI K 1935 f5), (a0, zO 7 6 g0)] := hD
  refine lv_aload_n hx hb dX9_set_15 rfl (lv_at hl 0 rfl) ?_
  refine z_get (v := .ref a2) hx hb hg hown hK hP i_X9 rfl 5 rfl 1 (by decide) mt38 e2 dX9_set_16 ?_
  refine lv_iload_n hx hb dX9_set_19 rfl (lv_at hl 1 rfl) ?_
  refine lv_iload_n hx hb dX9_set_20 rfl (lv_at hl 3 rfl) ?_
  refine z_iast (j := 642) hx hb hK hP hD hS 1 rfl rfl (Nat.le_of_ble_eq_true rfl) (Nat.le_of_ble_eq_true rfl) dX9_set_21 (fun ff6 H locs y7 hP hD hS => ?_)
  have hP : va_P K.1 classes [(a1, zI K 645 ff4), (a2, zI K 645 ff6), (a3, zI K 645 f3), (a4, zI K 645 f4), (a5, zI K 1935 f5), (a0, zO 7 6 g0)] H := hP
  have hD : va_D A [(a1, zI K 645 ff4), (a2, zI K 645 ff6), (a3, zI K 645 f3), (a4, zI K 645 f4), (a5, zI K 1935 f5), (a0, zO 7 6 g0)] := hD
  refine lv_aload_n hx hb dX9_set_22 rfl (lv_at hl 0 rfl) ?_
  refine z_get (v := .ref a3) hx hb hg hown hK hP i_X9 rfl 5 rfl 2 (by decide) mt39 e3 dX9_set_23 ?_
  refine lv_iload_n hx hb dX9_set_26 rfl (lv_at hl 1 rfl) ?_
  refine lv_iload hx hb dX9_set_27 (lv_at hl 4 rfl) ?_
  refine z_iast (j := 642) hx hb hK hP hD hS 2 rfl rfl (Nat.le_of_ble_eq_true rfl) (Nat.le_of_ble_eq_true rfl) dX9_set_29 (fun ff8 H locs y9 hP hD hS => ?_)
  have hP : va_P K.1 classes [(a1, zI K 645 ff4), (a2, zI K 645 ff6), (a3, zI K 645 ff8), (a4, zI K 645 f4), (a5, zI K 1935 f5), (a0, zO 7 6 g0)] H := hP
  have hD : va_D A [(a1, zI K 645 ff4), (a2, zI K 645 ff6), (a3, zI K 645 ff8), (a4, zI K 645 f4), (a5, zI K 1935 f5), (a0, zO 7 6 g0)] := hD
  refine lv_aload_n hx hb dX9_set_30 rfl (lv_at hl 0 rfl) ?_
  refine z_get (v := .ref a4) hx hb hg hown hK hP i_X9 rfl 5 rfl 3 (by decide) mt40 e4 dX9_set_31 ?_
  refine lv_iload_n hx hb dX9_set_34 rfl (lv_at hl 1 rfl) ?_
  refine lv_iload hx hb dX9_set_35 (lv_at hl 5 rfl) ?_
  refine z_iast (j := 642) hx hb hK hP hD hS 3 rfl rfl (Nat.le_of_ble_eq_true rfl) (Nat.le_of_ble_eq_true rfl) dX9_set_37 (fun ff10 H locs y11 hP hD hS => ?_)
  have hP : va_P K.1 classes [(a1, zI K 645 ff4), (a2, zI K 645 ff6), (a3, zI K 645 ff8), (a4, zI K 645 ff10), (a5, zI K 1935 f5), (a0, zO 7 6 g0)] H := hP
  have hD : va_D A [(a1, zI K 645 ff4), (a2, zI K 645 ff6), (a3, zI K 645 ff8), (a4, zI K 645 ff10), (a5, zI K 1935 f5), (a0, zO 7 6 g0)] := hD
  refine lv_aload_n hx hb dX9_set_38 rfl (lv_at hl 0 rfl) ?_
  refine z_get (v := .ref a5) hx hb hg hown hK hP i_X9 rfl 5 rfl 4 (by decide) mt41 e5 dX9_set_39 ?_
  refine lv_iconst (v := 3) hx hb dX9_set_42 (by decide) ?_
  refine lv_iload_n hx hb dX9_set_43 rfl (lv_at hl 1 rfl) ?_
  refine lv_imul hx hb dX9_set_44 ?_
  refine z_cst (v := 1926) (by decide +kernel) ?_
  refine lv_iconst (v := (-1)) hx hb dX9_set_45 (by decide) ?_
  refine z_iast (j := 1926) hx hb hK hP hD hS 4 rfl rfl (Nat.le_of_ble_eq_true rfl) (Nat.le_of_ble_eq_true rfl) dX9_set_46 (fun ff12 H locs y13 hP hD hS => ?_)
  have hP : va_P K.1 classes [(a1, zI K 645 ff4), (a2, zI K 645 ff6), (a3, zI K 645 ff8), (a4, zI K 645 ff10), (a5, zI K 1935 ff12), (a0, zO 7 6 g0)] H := hP
  have hD : va_D A [(a1, zI K 645 ff4), (a2, zI K 645 ff6), (a3, zI K 645 ff8), (a4, zI K 645 ff10), (a5, zI K 1935 ff12), (a0, zO 7 6 g0)] := hD
  refine lv_aload_n hx hb dX9_set_47 rfl (lv_at hl 0 rfl) ?_
  refine z_get (v := .ref a5) hx hb hg hown hK hP i_X9 rfl 5 rfl 4 (by decide) mt41 e5 dX9_set_48 ?_
  refine lv_iconst (v := 3) hx hb dX9_set_51 (by decide) ?_
  refine lv_iload_n hx hb dX9_set_52 rfl (lv_at hl 1 rfl) ?_
  refine lv_imul hx hb dX9_set_53 ?_
  refine z_cst (v := 1926) (by decide +kernel) ?_
  refine lv_iconst (v := 1) hx hb dX9_set_54 (by decide) ?_
  refine lv_iadd hx hb dX9_set_55 ?_
  refine z_cst (v := 1927) (by decide +kernel) ?_
  refine lv_iconst (v := (-1)) hx hb dX9_set_56 (by decide) ?_
  refine z_iast (j := 1927) hx hb hK hP hD hS 4 rfl rfl (Nat.le_of_ble_eq_true rfl) (Nat.le_of_ble_eq_true rfl) dX9_set_57 (fun ff14 H locs y15 hP hD hS => ?_)
  have hP : va_P K.1 classes [(a1, zI K 645 ff4), (a2, zI K 645 ff6), (a3, zI K 645 ff8), (a4, zI K 645 ff10), (a5, zI K 1935 ff14), (a0, zO 7 6 g0)] H := hP
  have hD : va_D A [(a1, zI K 645 ff4), (a2, zI K 645 ff6), (a3, zI K 645 ff8), (a4, zI K 645 ff10), (a5, zI K 1935 ff14), (a0, zO 7 6 g0)] := hD
  refine lv_aload_n hx hb dX9_set_58 rfl (lv_at hl 0 rfl) ?_
  refine z_get (v := .ref a5) hx hb hg hown hK hP i_X9 rfl 5 rfl 4 (by decide) mt41 e5 dX9_set_59 ?_
  refine lv_iconst (v := 3) hx hb dX9_set_62 (by decide) ?_
  refine lv_iload_n hx hb dX9_set_63 rfl (lv_at hl 1 rfl) ?_
  refine lv_imul hx hb dX9_set_64 ?_
  refine z_cst (v := 1926) (by decide +kernel) ?_
  refine lv_iconst (v := 2) hx hb dX9_set_65 (by decide) ?_
  refine lv_iadd hx hb dX9_set_66 ?_
  refine z_cst (v := 1928) (by decide +kernel) ?_
  refine lv_iconst (v := (-1)) hx hb dX9_set_67 (by decide) ?_
  refine z_iast (j := 1928) hx hb hK hP hD hS 4 rfl rfl (Nat.le_of_ble_eq_true rfl) (Nat.le_of_ble_eq_true rfl) dX9_set_68 (fun ff16 H locs y17 hP hD hS => ?_)
  have hP : va_P K.1 classes [(a1, zI K 645 ff4), (a2, zI K 645 ff6), (a3, zI K 645 ff8), (a4, zI K 645 ff10), (a5, zI K 1935 ff16), (a0, zO 7 6 g0)] H := hP
  have hD : va_D A [(a1, zI K 645 ff4), (a2, zI K 645 ff6), (a3, zI K 645 ff8), (a4, zI K 645 ff10), (a5, zI K 1935 ff16), (a0, zO 7 6 g0)] := hD
  subst y17
  subst y15
  subst y13
  subst y11
  subst y9
  subst y7
  subst y5
  have hP9 : va_P K.1 classes [(a0, zO 7 6 g0), (a1, zI K 645 (va_up f1 642 4)), (a2, zI K 645 (va_up f2 642 0)), (a3, zI K 645 (va_up f3 642 0)), (a4, zI K 645 (va_up f4 642 0)), (a5, zI K 1935 (va_up (va_up (va_up f5 1926 (-1)) 1927 (-1)) 1928 (-1)))] H := hP.sub [5, 0, 1, 2, 3, 4] rfl
  have hD9 : va_D A [(a0, zO 7 6 g0), (a1, zI K 645 (va_up f1 642 4)), (a2, zI K 645 (va_up f2 642 0)), (a3, zI K 645 (va_up f3 642 0)), (a4, zI K 645 (va_up f4 642 0)), (a5, zI K 1935 (va_up (va_up (va_up f5 1926 (-1)) 1927 (-1)) 1928 (-1)))] := hD.sub [5, 0, 1, 2, 3, 4] (by decide) rfl
  exact z_vret hx hb hr (fun _ => 0) trivial hP9 hD9 hS (Nat.le_of_ble_eq_true rfl) (Nat.le_of_ble_eq_true rfl) hlocks dX9_set_69
set_option maxHeartbeats 4000000 in
set_option maxRecDepth 100000 in
theorem cX9_join_2 (l : Launch) (K : zK) (sz : Nat) (a0 : Nat) (a1 : Nat) (g0 : Nat → Value) (f1 : Nat → Int32) (e0 : g0 5 = (.int 645)) (e1 : g0 4 = (.ref a1)) : Met l yX9_join (Cond.code yX9_join cX9_join 5 none :: WG) { frames := 1, cells := 0, slots := 0, locals := 21 } (zPre K [(a0, zO 7 6 g0), (a1, zI K 1935 f1)] sz [.ref a0, .int 642, .int 640, .int 641, .int (-1)]) (va_Qv (fun _ : Nat → Nat => True) (zB K (va_A [(a0, zO 7 6 g0), (a1, zI K 1935 f1)] sz) (fun u : Nat → Nat => [(a0, zO 7 6 g0), (a1, zI K 1935 (va_up (va_up (va_up f1 1926 640) 1927 641) 1928 (-1)))])) (va_A [(a0, zO 7 6 g0), (a1, zI K 1935 f1)] sz)) 0 0 (va_A [(a0, zO 7 6 g0), (a1, zI K 1935 f1)] sz) := by
  refine z_met (Qc := fun A => (va_Qv (fun _ : Nat → Nat => True) (zB K A (fun u : Nat → Nat => [(a0, zO 7 6 g0), (a1, zI K 1935 (va_up (va_up (va_up f1 1926 640) 1927 641) 1928 (-1)))])) A)) (by decide +kernel) (Nat.le_of_ble_eq_true rfl) ?_
  intro p e s m args below meth c A ls H hx hb hr hg hown hlocks hml hin hK hP hD hA hS hZ hl
  have hown : s.vm.findClass RX9 = some m.cls := hown
  have hl : lv_has ls 5 [(0, .ref a0), (1, .int 642), (2, .int 640), (3, .int 641), (4, .int (-1))] := hl
  refine lv_aload_n hx hb dX9_join_0 rfl (lv_at hl 0 rfl) ?_
  refine lv_iload_n hx hb dX9_join_1 rfl (lv_at hl 1 rfl) ?_
  refine z_calli [(a0, zO 7 6 g0)] [(a1, zI K 1935 f1)] [0] [1] hP hD hS hA rfl rfl (by decide) (by decide) (by decide +kernel) 0 0 rfl rfl (fun hPc hDc hF => z_runV (As := [.int 642]) (rest := []) ⟨hx, hb, hml, hown, hg⟩ (cX9_has_6 l K H.size a0 g0 e0) kV_RX9_31 hd_X9_has rfl rfl ⟨(Nat.le_of_ble_eq_true rfl), (Nat.le_of_ble_eq_true rfl)⟩ hK hS hZ hPc hDc hF 0 rfl rfl rfl hl.1 rfl (Nat.le_of_ble_eq_true rfl) dX9_join_2 ⟨(Nat.le_of_ble_eq_true rfl), (Nat.le_of_ble_eq_true rfl)⟩) (fun r3 u1 H locs w2 hP hD hS => ?_)
  subst w2
  have hP : va_P K.1 classes [(a1, zI K 1935 f1), (a0, zO 7 6 g0)] H := hP
  have hD : va_D A [(a1, zI K 1935 f1), (a0, zO 7 6 g0)] := hD
  refine lv_if_eq (tgt := 40) hx hb dX9_join_5 (by decide) (fun c => absurd c (by decide)) (fun _ => ?_)
  refine lv_aload_n hx hb dX9_join_8 rfl (lv_at hl 0 rfl) ?_
  refine z_get (v := .ref a1) hx hb hg hown hK hP i_X9 rfl 1 rfl 4 (by decide) mt41 e1 dX9_join_9 ?_
  refine lv_iconst (v := 3) hx hb dX9_join_12 (by decide) ?_
  refine lv_iload_n hx hb dX9_join_13 rfl (lv_at hl 1 rfl) ?_
  refine lv_imul hx hb dX9_join_14 ?_
  refine z_cst (v := 1926) (by decide +kernel) ?_
  refine lv_iload_n hx hb dX9_join_15 rfl (lv_at hl 2 rfl) ?_
  refine z_iast (j := 1926) hx hb hK hP hD hS 0 rfl rfl (Nat.le_of_ble_eq_true rfl) (Nat.le_of_ble_eq_true rfl) dX9_join_16 (fun ff4 H locs y5 hP hD hS => ?_)
  have hP : va_P K.1 classes [(a1, zI K 1935 ff4), (a0, zO 7 6 g0)] H := hP
  have hD : va_D A [(a1, zI K 1935 ff4), (a0, zO 7 6 g0)] := hD
  refine lv_aload_n hx hb dX9_join_17 rfl (lv_at hl 0 rfl) ?_
  refine z_get (v := .ref a1) hx hb hg hown hK hP i_X9 rfl 1 rfl 4 (by decide) mt41 e1 dX9_join_18 ?_
  refine lv_iconst (v := 3) hx hb dX9_join_21 (by decide) ?_
  refine lv_iload_n hx hb dX9_join_22 rfl (lv_at hl 1 rfl) ?_
  refine lv_imul hx hb dX9_join_23 ?_
  refine z_cst (v := 1926) (by decide +kernel) ?_
  refine lv_iconst (v := 1) hx hb dX9_join_24 (by decide) ?_
  refine lv_iadd hx hb dX9_join_25 ?_
  refine z_cst (v := 1927) (by decide +kernel) ?_
  refine lv_iload_n hx hb dX9_join_26 rfl (lv_at hl 3 rfl) ?_
  refine z_iast (j := 1927) hx hb hK hP hD hS 0 rfl rfl (Nat.le_of_ble_eq_true rfl) (Nat.le_of_ble_eq_true rfl) dX9_join_27 (fun ff6 H locs y7 hP hD hS => ?_)
  have hP : va_P K.1 classes [(a1, zI K 1935 ff6), (a0, zO 7 6 g0)] H := hP
  have hD : va_D A [(a1, zI K 1935 ff6), (a0, zO 7 6 g0)] := hD
  refine lv_aload_n hx hb dX9_join_28 rfl (lv_at hl 0 rfl) ?_
  refine z_get (v := .ref a1) hx hb hg hown hK hP i_X9 rfl 1 rfl 4 (by decide) mt41 e1 dX9_join_29 ?_
  refine lv_iconst (v := 3) hx hb dX9_join_32 (by decide) ?_
  refine lv_iload_n hx hb dX9_join_33 rfl (lv_at hl 1 rfl) ?_
  refine lv_imul hx hb dX9_join_34 ?_
  refine z_cst (v := 1926) (by decide +kernel) ?_
  refine lv_iconst (v := 2) hx hb dX9_join_35 (by decide) ?_
  refine lv_iadd hx hb dX9_join_36 ?_
  refine z_cst (v := 1928) (by decide +kernel) ?_
  refine lv_iload hx hb dX9_join_37 (lv_at hl 4 rfl) ?_
  refine z_iast (j := 1928) hx hb hK hP hD hS 0 rfl rfl (Nat.le_of_ble_eq_true rfl) (Nat.le_of_ble_eq_true rfl) dX9_join_39 (fun ff8 H locs y9 hP hD hS => ?_)
  have hP : va_P K.1 classes [(a1, zI K 1935 ff8), (a0, zO 7 6 g0)] H := hP
  have hD : va_D A [(a1, zI K 1935 ff8), (a0, zO 7 6 g0)] := hD
  subst y9
  subst y7
  subst y5
  have hP9 : va_P K.1 classes [(a0, zO 7 6 g0), (a1, zI K 1935 (va_up (va_up (va_up f1 1926 640) 1927 641) 1928 (-1)))] H := hP.sub [1, 0] rfl
  have hD9 : va_D A [(a0, zO 7 6 g0), (a1, zI K 1935 (va_up (va_up (va_up f1 1926 640) 1927 641) 1928 (-1)))] := hD.sub [1, 0] (by decide) rfl
  exact z_vret hx hb hr (fun _ => 0) trivial hP9 hD9 hS (Nat.le_of_ble_eq_true rfl) (Nat.le_of_ble_eq_true rfl) hlocks dX9_join_40
set_option maxHeartbeats 4000000 in
set_option maxRecDepth 100000 in
theorem cX9_has_7 (l : Launch) (K : zK) (sz : Nat) (a0 : Nat) (g0 : Nat → Value) (e0 : g0 5 = (.int 645)) : Met l yX9_has (Cond.code yX9_has cX9_has 2 (some .boolean) :: WG) { frames := 0, cells := 0, slots := 0, locals := 0 } (zPre K [(a0, zO 7 6 g0)] sz [.ref a0, .int 643]) (va_Qi (fun (r : Int32) (_ : Nat → Nat) => r = 1) (zB K (va_A [(a0, zO 7 6 g0)] sz) (fun u : Nat → Nat => [(a0, zO 7 6 g0)])) (va_A [(a0, zO 7 6 g0)] sz)) 0 0 (va_A [(a0, zO 7 6 g0)] sz) := by
  refine z_met (Qc := fun A => (va_Qi (fun (r : Int32) (_ : Nat → Nat) => r = 1) (zB K A (fun u : Nat → Nat => [(a0, zO 7 6 g0)])) A)) (by decide +kernel) (Nat.le_of_ble_eq_true rfl) ?_
  intro p e s m args below meth c A ls H hx hb hr hg hown hlocks hml hin hK hP hD hA hS hZ hl
  have hown : s.vm.findClass RX9 = some m.cls := hown
  have hl : lv_has ls 2 [(0, .ref a0), (1, .int 643)] := hl
  refine lv_iload_n hx hb dX9_has_0 rfl (lv_at hl 1 rfl) ?_
  refine lv_if_lt (tgt := 16) hx hb dX9_has_1 (by decide) (fun c => absurd c (by decide)) (fun _ => ?_)
  refine lv_iload_n hx hb dX9_has_4 rfl (lv_at hl 1 rfl) ?_
  refine lv_aload_n hx hb dX9_has_5 rfl (lv_at hl 0 rfl) ?_
  refine z_get (v := .int 645) hx hb hg hown hK hP i_X9 rfl 0 rfl 5 (by decide) mt42 e0 dX9_has_6 ?_
  refine lv_icmp_ge (tgt := 16) hx hb dX9_has_9 (by decide) (fun c => absurd c (by decide)) (fun _ => ?_)
  refine lv_iconst (v := 1) hx hb dX9_has_12 (by decide) ?_
  refine lv_goto (tgt := 17) hx hb dX9_has_13 (by decide) ?_
  have hP9 : va_P K.1 classes [(a0, zO 7 6 g0)] H := hP.sub [0] rfl
  have hD9 : va_D A [(a0, zO 7 6 g0)] := hD.sub [0] (by decide) rfl
  exact z_zret hx hb hr rfl (fun _ => 0) rfl hP9 hD9 hS (Nat.le_of_ble_eq_true rfl) (Nat.le_of_ble_eq_true rfl) hlocks dX9_has_17
set_option maxHeartbeats 4000000 in
set_option maxRecDepth 100000 in
theorem cX9_set_8 (l : Launch) (K : zK) (sz : Nat) (a0 : Nat) (a1 : Nat) (a2 : Nat) (a3 : Nat) (a4 : Nat) (a5 : Nat) (g0 : Nat → Value) (f1 : Nat → Int32) (f2 : Nat → Int32) (f3 : Nat → Int32) (f4 : Nat → Int32) (f5 : Nat → Int32) (x0 : Int32) (e0 : g0 5 = (.int 645)) (e1 : g0 0 = (.ref a1)) (e2 : g0 1 = (.ref a2)) (e3 : g0 2 = (.ref a3)) (e4 : g0 3 = (.ref a4)) (e5 : g0 4 = (.ref a5)) : Met l yX9_set (Cond.code yX9_set cX9_set 6 none :: WG) { frames := 1, cells := 0, slots := 0, locals := 21 } (zPre K [(a0, zO 7 6 g0), (a1, zI K 645 f1), (a2, zI K 645 f2), (a3, zI K 645 f3), (a4, zI K 645 f4), (a5, zI K 1935 f5)] sz [.ref a0, .int 643, .int 0, .int x0, .int 0, .int 0]) (va_Qv (fun _ : Nat → Nat => True) (zB K (va_A [(a0, zO 7 6 g0), (a1, zI K 645 f1), (a2, zI K 645 f2), (a3, zI K 645 f3), (a4, zI K 645 f4), (a5, zI K 1935 f5)] sz) (fun u : Nat → Nat => [(a0, zO 7 6 g0), (a1, zI K 645 (va_up f1 643 0)), (a2, zI K 645 (va_up f2 643 x0)), (a3, zI K 645 (va_up f3 643 0)), (a4, zI K 645 (va_up f4 643 0)), (a5, zI K 1935 (va_up (va_up (va_up f5 1929 (-1)) 1930 (-1)) 1931 (-1)))])) (va_A [(a0, zO 7 6 g0), (a1, zI K 645 f1), (a2, zI K 645 f2), (a3, zI K 645 f3), (a4, zI K 645 f4), (a5, zI K 1935 f5)] sz)) 0 0 (va_A [(a0, zO 7 6 g0), (a1, zI K 645 f1), (a2, zI K 645 f2), (a3, zI K 645 f3), (a4, zI K 645 f4), (a5, zI K 1935 f5)] sz) := by
  refine z_met (Qc := fun A => (va_Qv (fun _ : Nat → Nat => True) (zB K A (fun u : Nat → Nat => [(a0, zO 7 6 g0), (a1, zI K 645 (va_up f1 643 0)), (a2, zI K 645 (va_up f2 643 x0)), (a3, zI K 645 (va_up f3 643 0)), (a4, zI K 645 (va_up f4 643 0)), (a5, zI K 1935 (va_up (va_up (va_up f5 1929 (-1)) 1930 (-1)) 1931 (-1)))])) A)) (by decide +kernel) (Nat.le_of_ble_eq_true rfl) ?_
  intro p e s m args below meth c A ls H hx hb hr hg hown hlocks hml hin hK hP hD hA hS hZ hl
  have hown : s.vm.findClass RX9 = some m.cls := hown
  have hl : lv_has ls 6 [(0, .ref a0), (1, .int 643), (2, .int 0), (3, .int x0), (4, .int 0), (5, .int 0)] := hl
  refine lv_aload_n hx hb dX9_set_0 rfl (lv_at hl 0 rfl) ?_
  refine lv_iload_n hx hb dX9_set_1 rfl (lv_at hl 1 rfl) ?_
  refine z_calli [(a0, zO 7 6 g0)] [(a1, zI K 645 f1), (a2, zI K 645 f2), (a3, zI K 645 f3), (a4, zI K 645 f4), (a5, zI K 1935 f5)] [0] [1, 2, 3, 4, 5] hP hD hS hA rfl rfl (by decide) (by decide) (by decide +kernel) 0 0 rfl rfl (fun hPc hDc hF => z_runV (As := [.int 643]) (rest := []) ⟨hx, hb, hml, hown, hg⟩ (cX9_has_7 l K H.size a0 g0 e0) kV_RX9_31 hd_X9_has rfl rfl ⟨(Nat.le_of_ble_eq_true rfl), (Nat.le_of_ble_eq_true rfl)⟩ hK hS hZ hPc hDc hF 0 rfl rfl rfl hl.1 rfl (Nat.le_of_ble_eq_true rfl) dX9_set_2 ⟨(Nat.le_of_ble_eq_true rfl), (Nat.le_of_ble_eq_true rfl)⟩) (fun r3 u1 H locs w2 hP hD hS => ?_)
  subst w2
  have hP : va_P K.1 classes [(a1, zI K 645 f1), (a2, zI K 645 f2), (a3, zI K 645 f3), (a4, zI K 645 f4), (a5, zI K 1935 f5), (a0, zO 7 6 g0)] H := hP
  have hD : va_D A [(a1, zI K 645 f1), (a2, zI K 645 f2), (a3, zI K 645 f3), (a4, zI K 645 f4), (a5, zI K 1935 f5), (a0, zO 7 6 g0)] := hD
  refine lv_if_eq (tgt := 69) hx hb dX9_set_5 (by decide) (fun c => absurd c (by decide)) (fun _ => ?_)
  refine lv_aload_n hx hb dX9_set_8 rfl (lv_at hl 0 rfl) ?_
  refine z_get (v := .ref a1) hx hb hg hown hK hP i_X9 rfl 5 rfl 0 (by decide) mt37 e1 dX9_set_9 ?_
  refine lv_iload_n hx hb dX9_set_12 rfl (lv_at hl 1 rfl) ?_
  refine lv_iload_n hx hb dX9_set_13 rfl (lv_at hl 2 rfl) ?_
  refine z_iast (j := 643) hx hb hK hP hD hS 0 rfl rfl (Nat.le_of_ble_eq_true rfl) (Nat.le_of_ble_eq_true rfl) dX9_set_14 (fun ff4 H locs y5 hP hD hS => ?_)
  have hP : va_P K.1 classes [(a1, zI K 645 ff4), (a2, zI K 645 f2), (a3, zI K 645 f3), (a4, zI K 645 f4), (a5, zI K 1935 f5), (a0, zO 7 6 g0)] H := hP
  have hD : va_D A [(a1, zI K 645 ff4), (a2, zI K 645 f2), (a3, zI K 645 f3), (a4, zI K 645 f4), (a5, zI K 1935 f5), (a0, zO 7 6 g0)] := hD
  refine lv_aload_n hx hb dX9_set_15 rfl (lv_at hl 0 rfl) ?_
  refine z_get (v := .ref a2) hx hb hg hown hK hP i_X9 rfl 5 rfl 1 (by decide) mt38 e2 dX9_set_16 ?_
  refine lv_iload_n hx hb dX9_set_19 rfl (lv_at hl 1 rfl) ?_
  refine lv_iload_n hx hb dX9_set_20 rfl (lv_at hl 3 rfl) ?_
  refine z_iast (j := 643) hx hb hK hP hD hS 1 rfl rfl (Nat.le_of_ble_eq_true rfl) (Nat.le_of_ble_eq_true rfl) dX9_set_21 (fun ff6 H locs y7 hP hD hS => ?_)
  have hP : va_P K.1 classes [(a1, zI K 645 ff4), (a2, zI K 645 ff6), (a3, zI K 645 f3), (a4, zI K 645 f4), (a5, zI K 1935 f5), (a0, zO 7 6 g0)] H := hP
  have hD : va_D A [(a1, zI K 645 ff4), (a2, zI K 645 ff6), (a3, zI K 645 f3), (a4, zI K 645 f4), (a5, zI K 1935 f5), (a0, zO 7 6 g0)] := hD
  refine lv_aload_n hx hb dX9_set_22 rfl (lv_at hl 0 rfl) ?_
  refine z_get (v := .ref a3) hx hb hg hown hK hP i_X9 rfl 5 rfl 2 (by decide) mt39 e3 dX9_set_23 ?_
  refine lv_iload_n hx hb dX9_set_26 rfl (lv_at hl 1 rfl) ?_
  refine lv_iload hx hb dX9_set_27 (lv_at hl 4 rfl) ?_
  refine z_iast (j := 643) hx hb hK hP hD hS 2 rfl rfl (Nat.le_of_ble_eq_true rfl) (Nat.le_of_ble_eq_true rfl) dX9_set_29 (fun ff8 H locs y9 hP hD hS => ?_)
  have hP : va_P K.1 classes [(a1, zI K 645 ff4), (a2, zI K 645 ff6), (a3, zI K 645 ff8), (a4, zI K 645 f4), (a5, zI K 1935 f5), (a0, zO 7 6 g0)] H := hP
  have hD : va_D A [(a1, zI K 645 ff4), (a2, zI K 645 ff6), (a3, zI K 645 ff8), (a4, zI K 645 f4), (a5, zI K 1935 f5), (a0, zO 7 6 g0)] := hD
  refine lv_aload_n hx hb dX9_set_30 rfl (lv_at hl 0 rfl) ?_
  refine z_get (v := .ref a4) hx hb hg hown hK hP i_X9 rfl 5 rfl 3 (by decide) mt40 e4 dX9_set_31 ?_
  refine lv_iload_n hx hb dX9_set_34 rfl (lv_at hl 1 rfl) ?_
  refine lv_iload hx hb dX9_set_35 (lv_at hl 5 rfl) ?_
  refine z_iast (j := 643) hx hb hK hP hD hS 3 rfl rfl (Nat.le_of_ble_eq_true rfl) (Nat.le_of_ble_eq_true rfl) dX9_set_37 (fun ff10 H locs y11 hP hD hS => ?_)
  have hP : va_P K.1 classes [(a1, zI K 645 ff4), (a2, zI K 645 ff6), (a3, zI K 645 ff8), (a4, zI K 645 ff10), (a5, zI K 1935 f5), (a0, zO 7 6 g0)] H := hP
  have hD : va_D A [(a1, zI K 645 ff4), (a2, zI K 645 ff6), (a3, zI K 645 ff8), (a4, zI K 645 ff10), (a5, zI K 1935 f5), (a0, zO 7 6 g0)] := hD
  refine lv_aload_n hx hb dX9_set_38 rfl (lv_at hl 0 rfl) ?_
  refine z_get (v := .ref a5) hx hb hg hown hK hP i_X9 rfl 5 rfl 4 (by decide) mt41 e5 dX9_set_39 ?_
  refine lv_iconst (v := 3) hx hb dX9_set_42 (by decide) ?_
  refine lv_iload_n hx hb dX9_set_43 rfl (lv_at hl 1 rfl) ?_
  refine lv_imul hx hb dX9_set_44 ?_
  refine z_cst (v := 1929) (by decide +kernel) ?_
  refine lv_iconst (v := (-1)) hx hb dX9_set_45 (by decide) ?_
  refine z_iast (j := 1929) hx hb hK hP hD hS 4 rfl rfl (Nat.le_of_ble_eq_true rfl) (Nat.le_of_ble_eq_true rfl) dX9_set_46 (fun ff12 H locs y13 hP hD hS => ?_)
  have hP : va_P K.1 classes [(a1, zI K 645 ff4), (a2, zI K 645 ff6), (a3, zI K 645 ff8), (a4, zI K 645 ff10), (a5, zI K 1935 ff12), (a0, zO 7 6 g0)] H := hP
  have hD : va_D A [(a1, zI K 645 ff4), (a2, zI K 645 ff6), (a3, zI K 645 ff8), (a4, zI K 645 ff10), (a5, zI K 1935 ff12), (a0, zO 7 6 g0)] := hD
  refine lv_aload_n hx hb dX9_set_47 rfl (lv_at hl 0 rfl) ?_
  refine z_get (v := .ref a5) hx hb hg hown hK hP i_X9 rfl 5 rfl 4 (by decide) mt41 e5 dX9_set_48 ?_
  refine lv_iconst (v := 3) hx hb dX9_set_51 (by decide) ?_
  refine lv_iload_n hx hb dX9_set_52 rfl (lv_at hl 1 rfl) ?_
  refine lv_imul hx hb dX9_set_53 ?_
  refine z_cst (v := 1929) (by decide +kernel) ?_
  refine lv_iconst (v := 1) hx hb dX9_set_54 (by decide) ?_
  refine lv_iadd hx hb dX9_set_55 ?_
  refine z_cst (v := 1930) (by decide +kernel) ?_
  refine lv_iconst (v := (-1)) hx hb dX9_set_56 (by decide) ?_
  refine z_iast (j := 1930) hx hb hK hP hD hS 4 rfl rfl (Nat.le_of_ble_eq_true rfl) (Nat.le_of_ble_eq_true rfl) dX9_set_57 (fun ff14 H locs y15 hP hD hS => ?_)
  have hP : va_P K.1 classes [(a1, zI K 645 ff4), (a2, zI K 645 ff6), (a3, zI K 645 ff8), (a4, zI K 645 ff10), (a5, zI K 1935 ff14), (a0, zO 7 6 g0)] H := hP
  have hD : va_D A [(a1, zI K 645 ff4), (a2, zI K 645 ff6), (a3, zI K 645 ff8), (a4, zI K 645 ff10), (a5, zI K 1935 ff14), (a0, zO 7 6 g0)] := hD
  refine lv_aload_n hx hb dX9_set_58 rfl (lv_at hl 0 rfl) ?_
  refine z_get (v := .ref a5) hx hb hg hown hK hP i_X9 rfl 5 rfl 4 (by decide) mt41 e5 dX9_set_59 ?_
  refine lv_iconst (v := 3) hx hb dX9_set_62 (by decide) ?_
  refine lv_iload_n hx hb dX9_set_63 rfl (lv_at hl 1 rfl) ?_
  refine lv_imul hx hb dX9_set_64 ?_
  refine z_cst (v := 1929) (by decide +kernel) ?_
  refine lv_iconst (v := 2) hx hb dX9_set_65 (by decide) ?_
  refine lv_iadd hx hb dX9_set_66 ?_
  refine z_cst (v := 1931) (by decide +kernel) ?_
  refine lv_iconst (v := (-1)) hx hb dX9_set_67 (by decide) ?_
  refine z_iast (j := 1931) hx hb hK hP hD hS 4 rfl rfl (Nat.le_of_ble_eq_true rfl) (Nat.le_of_ble_eq_true rfl) dX9_set_68 (fun ff16 H locs y17 hP hD hS => ?_)
  have hP : va_P K.1 classes [(a1, zI K 645 ff4), (a2, zI K 645 ff6), (a3, zI K 645 ff8), (a4, zI K 645 ff10), (a5, zI K 1935 ff16), (a0, zO 7 6 g0)] H := hP
  have hD : va_D A [(a1, zI K 645 ff4), (a2, zI K 645 ff6), (a3, zI K 645 ff8), (a4, zI K 645 ff10), (a5, zI K 1935 ff16), (a0, zO 7 6 g0)] := hD
  subst y17
  subst y15
  subst y13
  subst y11
  subst y9
  subst y7
  subst y5
  have hP9 : va_P K.1 classes [(a0, zO 7 6 g0), (a1, zI K 645 (va_up f1 643 0)), (a2, zI K 645 (va_up f2 643 x0)), (a3, zI K 645 (va_up f3 643 0)), (a4, zI K 645 (va_up f4 643 0)), (a5, zI K 1935 (va_up (va_up (va_up f5 1929 (-1)) 1930 (-1)) 1931 (-1)))] H := hP.sub [5, 0, 1, 2, 3, 4] rfl
  have hD9 : va_D A [(a0, zO 7 6 g0), (a1, zI K 645 (va_up f1 643 0)), (a2, zI K 645 (va_up f2 643 x0)), (a3, zI K 645 (va_up f3 643 0)), (a4, zI K 645 (va_up f4 643 0)), (a5, zI K 1935 (va_up (va_up (va_up f5 1929 (-1)) 1930 (-1)) 1931 (-1)))] := hD.sub [5, 0, 1, 2, 3, 4] (by decide) rfl
  exact z_vret hx hb hr (fun _ => 0) trivial hP9 hD9 hS (Nat.le_of_ble_eq_true rfl) (Nat.le_of_ble_eq_true rfl) hlocks dX9_set_69
set_option maxHeartbeats 4000000 in
set_option maxRecDepth 100000 in
theorem cX9_has_8 (l : Launch) (K : zK) (sz : Nat) (a0 : Nat) (g0 : Nat → Value) (e0 : g0 5 = (.int 645)) : Met l yX9_has (Cond.code yX9_has cX9_has 2 (some .boolean) :: WG) { frames := 0, cells := 0, slots := 0, locals := 0 } (zPre K [(a0, zO 7 6 g0)] sz [.ref a0, .int 644]) (va_Qi (fun (r : Int32) (_ : Nat → Nat) => r = 1) (zB K (va_A [(a0, zO 7 6 g0)] sz) (fun u : Nat → Nat => [(a0, zO 7 6 g0)])) (va_A [(a0, zO 7 6 g0)] sz)) 0 0 (va_A [(a0, zO 7 6 g0)] sz) := by
  refine z_met (Qc := fun A => (va_Qi (fun (r : Int32) (_ : Nat → Nat) => r = 1) (zB K A (fun u : Nat → Nat => [(a0, zO 7 6 g0)])) A)) (by decide +kernel) (Nat.le_of_ble_eq_true rfl) ?_
  intro p e s m args below meth c A ls H hx hb hr hg hown hlocks hml hin hK hP hD hA hS hZ hl
  have hown : s.vm.findClass RX9 = some m.cls := hown
  have hl : lv_has ls 2 [(0, .ref a0), (1, .int 644)] := hl
  refine lv_iload_n hx hb dX9_has_0 rfl (lv_at hl 1 rfl) ?_
  refine lv_if_lt (tgt := 16) hx hb dX9_has_1 (by decide) (fun c => absurd c (by decide)) (fun _ => ?_)
  refine lv_iload_n hx hb dX9_has_4 rfl (lv_at hl 1 rfl) ?_
  refine lv_aload_n hx hb dX9_has_5 rfl (lv_at hl 0 rfl) ?_
  refine z_get (v := .int 645) hx hb hg hown hK hP i_X9 rfl 0 rfl 5 (by decide) mt42 e0 dX9_has_6 ?_
  refine lv_icmp_ge (tgt := 16) hx hb dX9_has_9 (by decide) (fun c => absurd c (by decide)) (fun _ => ?_)
  refine lv_iconst (v := 1) hx hb dX9_has_12 (by decide) ?_
  refine lv_goto (tgt := 17) hx hb dX9_has_13 (by decide) ?_
  have hP9 : va_P K.1 classes [(a0, zO 7 6 g0)] H := hP.sub [0] rfl
  have hD9 : va_D A [(a0, zO 7 6 g0)] := hD.sub [0] (by decide) rfl
  exact z_zret hx hb hr rfl (fun _ => 0) rfl hP9 hD9 hS (Nat.le_of_ble_eq_true rfl) (Nat.le_of_ble_eq_true rfl) hlocks dX9_has_17
set_option maxHeartbeats 4000000 in
set_option maxRecDepth 100000 in
theorem cX9_set_9 (l : Launch) (K : zK) (sz : Nat) (a0 : Nat) (a1 : Nat) (a2 : Nat) (a3 : Nat) (a4 : Nat) (a5 : Nat) (g0 : Nat → Value) (f1 : Nat → Int32) (f2 : Nat → Int32) (f3 : Nat → Int32) (f4 : Nat → Int32) (f5 : Nat → Int32) (e0 : g0 5 = (.int 645)) (e1 : g0 0 = (.ref a1)) (e2 : g0 1 = (.ref a2)) (e3 : g0 2 = (.ref a3)) (e4 : g0 3 = (.ref a4)) (e5 : g0 4 = (.ref a5)) : Met l yX9_set (Cond.code yX9_set cX9_set 6 none :: WG) { frames := 1, cells := 0, slots := 0, locals := 21 } (zPre K [(a0, zO 7 6 g0), (a1, zI K 645 f1), (a2, zI K 645 f2), (a3, zI K 645 f3), (a4, zI K 645 f4), (a5, zI K 1935 f5)] sz [.ref a0, .int 644, .int 4, .int 0, .int 0, .int 0]) (va_Qv (fun _ : Nat → Nat => True) (zB K (va_A [(a0, zO 7 6 g0), (a1, zI K 645 f1), (a2, zI K 645 f2), (a3, zI K 645 f3), (a4, zI K 645 f4), (a5, zI K 1935 f5)] sz) (fun u : Nat → Nat => [(a0, zO 7 6 g0), (a1, zI K 645 (va_up f1 644 4)), (a2, zI K 645 (va_up f2 644 0)), (a3, zI K 645 (va_up f3 644 0)), (a4, zI K 645 (va_up f4 644 0)), (a5, zI K 1935 (va_up (va_up (va_up f5 1932 (-1)) 1933 (-1)) 1934 (-1)))])) (va_A [(a0, zO 7 6 g0), (a1, zI K 645 f1), (a2, zI K 645 f2), (a3, zI K 645 f3), (a4, zI K 645 f4), (a5, zI K 1935 f5)] sz)) 0 0 (va_A [(a0, zO 7 6 g0), (a1, zI K 645 f1), (a2, zI K 645 f2), (a3, zI K 645 f3), (a4, zI K 645 f4), (a5, zI K 1935 f5)] sz) := by
  refine z_met (Qc := fun A => (va_Qv (fun _ : Nat → Nat => True) (zB K A (fun u : Nat → Nat => [(a0, zO 7 6 g0), (a1, zI K 645 (va_up f1 644 4)), (a2, zI K 645 (va_up f2 644 0)), (a3, zI K 645 (va_up f3 644 0)), (a4, zI K 645 (va_up f4 644 0)), (a5, zI K 1935 (va_up (va_up (va_up f5 1932 (-1)) 1933 (-1)) 1934 (-1)))])) A)) (by decide +kernel) (Nat.le_of_ble_eq_true rfl) ?_
  intro p e s m args below meth c A ls H hx hb hr hg hown hlocks hml hin hK hP hD hA hS hZ hl
  have hown : s.vm.findClass RX9 = some m.cls := hown
  have hl : lv_has ls 6 [(0, .ref a0), (1, .int 644), (2, .int 4), (3, .int 0), (4, .int 0), (5, .int 0)] := hl
  refine lv_aload_n hx hb dX9_set_0 rfl (lv_at hl 0 rfl) ?_
  refine lv_iload_n hx hb dX9_set_1 rfl (lv_at hl 1 rfl) ?_
  refine z_calli [(a0, zO 7 6 g0)] [(a1, zI K 645 f1), (a2, zI K 645 f2), (a3, zI K 645 f3), (a4, zI K 645 f4), (a5, zI K 1935 f5)] [0] [1, 2, 3, 4, 5] hP hD hS hA rfl rfl (by decide) (by decide) (by decide +kernel) 0 0 rfl rfl (fun hPc hDc hF => z_runV (As := [.int 644]) (rest := []) ⟨hx, hb, hml, hown, hg⟩ (cX9_has_8 l K H.size a0 g0 e0) kV_RX9_31 hd_X9_has rfl rfl ⟨(Nat.le_of_ble_eq_true rfl), (Nat.le_of_ble_eq_true rfl)⟩ hK hS hZ hPc hDc hF 0 rfl rfl rfl hl.1 rfl (Nat.le_of_ble_eq_true rfl) dX9_set_2 ⟨(Nat.le_of_ble_eq_true rfl), (Nat.le_of_ble_eq_true rfl)⟩) (fun r3 u1 H locs w2 hP hD hS => ?_)
  subst w2
  have hP : va_P K.1 classes [(a1, zI K 645 f1), (a2, zI K 645 f2), (a3, zI K 645 f3), (a4, zI K 645 f4), (a5, zI K 1935 f5), (a0, zO 7 6 g0)] H := hP
  have hD : va_D A [(a1, zI K 645 f1), (a2, zI K 645 f2), (a3, zI K 645 f3), (a4, zI K 645 f4), (a5, zI K 1935 f5), (a0, zO 7 6 g0)] := hD
  refine lv_if_eq (tgt := 69) hx hb dX9_set_5 (by decide) (fun c => absurd c (by decide)) (fun _ => ?_)
  refine lv_aload_n hx hb dX9_set_8 rfl (lv_at hl 0 rfl) ?_
  refine z_get (v := .ref a1) hx hb hg hown hK hP i_X9 rfl 5 rfl 0 (by decide) mt37 e1 dX9_set_9 ?_
  refine lv_iload_n hx hb dX9_set_12 rfl (lv_at hl 1 rfl) ?_
  refine lv_iload_n hx hb dX9_set_13 rfl (lv_at hl 2 rfl) ?_
  refine z_iast (j := 644) hx hb hK hP hD hS 0 rfl rfl (Nat.le_of_ble_eq_true rfl) (Nat.le_of_ble_eq_true rfl) dX9_set_14 (fun ff4 H locs y5 hP hD hS => ?_)
  have hP : va_P K.1 classes [(a1, zI K 645 ff4), (a2, zI K 645 f2), (a3, zI K 645 f3), (a4, zI K 645 f4), (a5, zI K 1935 f5), (a0, zO 7 6 g0)] H := hP
  have hD : va_D A [(a1, zI K 645 ff4), (a2, zI K 645 f2), (a3, zI K 645 f3), (a4, zI K 645 f4), (a5, zI K 1935 f5), (a0, zO 7 6 g0)] := hD
  refine lv_aload_n hx hb dX9_set_15 rfl (lv_at hl 0 rfl) ?_
  refine z_get (v := .ref a2) hx hb hg hown hK hP i_X9 rfl 5 rfl 1 (by decide) mt38 e2 dX9_set_16 ?_
  refine lv_iload_n hx hb dX9_set_19 rfl (lv_at hl 1 rfl) ?_
  refine lv_iload_n hx hb dX9_set_20 rfl (lv_at hl 3 rfl) ?_
  refine z_iast (j := 644) hx hb hK hP hD hS 1 rfl rfl (Nat.le_of_ble_eq_true rfl) (Nat.le_of_ble_eq_true rfl) dX9_set_21 (fun ff6 H locs y7 hP hD hS => ?_)
  have hP : va_P K.1 classes [(a1, zI K 645 ff4), (a2, zI K 645 ff6), (a3, zI K 645 f3), (a4, zI K 645 f4), (a5, zI K 1935 f5), (a0, zO 7 6 g0)] H := hP
  have hD : va_D A [(a1, zI K 645 ff4), (a2, zI K 645 ff6), (a3, zI K 645 f3), (a4, zI K 645 f4), (a5, zI K 1935 f5), (a0, zO 7 6 g0)] := hD
  refine lv_aload_n hx hb dX9_set_22 rfl (lv_at hl 0 rfl) ?_
  refine z_get (v := .ref a3) hx hb hg hown hK hP i_X9 rfl 5 rfl 2 (by decide) mt39 e3 dX9_set_23 ?_
  refine lv_iload_n hx hb dX9_set_26 rfl (lv_at hl 1 rfl) ?_
  refine lv_iload hx hb dX9_set_27 (lv_at hl 4 rfl) ?_
  refine z_iast (j := 644) hx hb hK hP hD hS 2 rfl rfl (Nat.le_of_ble_eq_true rfl) (Nat.le_of_ble_eq_true rfl) dX9_set_29 (fun ff8 H locs y9 hP hD hS => ?_)
  have hP : va_P K.1 classes [(a1, zI K 645 ff4), (a2, zI K 645 ff6), (a3, zI K 645 ff8), (a4, zI K 645 f4), (a5, zI K 1935 f5), (a0, zO 7 6 g0)] H := hP
  have hD : va_D A [(a1, zI K 645 ff4), (a2, zI K 645 ff6), (a3, zI K 645 ff8), (a4, zI K 645 f4), (a5, zI K 1935 f5), (a0, zO 7 6 g0)] := hD
  refine lv_aload_n hx hb dX9_set_30 rfl (lv_at hl 0 rfl) ?_
  refine z_get (v := .ref a4) hx hb hg hown hK hP i_X9 rfl 5 rfl 3 (by decide) mt40 e4 dX9_set_31 ?_
  refine lv_iload_n hx hb dX9_set_34 rfl (lv_at hl 1 rfl) ?_
  refine lv_iload hx hb dX9_set_35 (lv_at hl 5 rfl) ?_
  refine z_iast (j := 644) hx hb hK hP hD hS 3 rfl rfl (Nat.le_of_ble_eq_true rfl) (Nat.le_of_ble_eq_true rfl) dX9_set_37 (fun ff10 H locs y11 hP hD hS => ?_)
  have hP : va_P K.1 classes [(a1, zI K 645 ff4), (a2, zI K 645 ff6), (a3, zI K 645 ff8), (a4, zI K 645 ff10), (a5, zI K 1935 f5), (a0, zO 7 6 g0)] H := hP
  have hD : va_D A [(a1, zI K 645 ff4), (a2, zI K 645 ff6), (a3, zI K 645 ff8), (a4, zI K 645 ff10), (a5, zI K 1935 f5), (a0, zO 7 6 g0)] := hD
  refine lv_aload_n hx hb dX9_set_38 rfl (lv_at hl 0 rfl) ?_
  refine z_get (v := .ref a5) hx hb hg hown hK hP i_X9 rfl 5 rfl 4 (by decide) mt41 e5 dX9_set_39 ?_
  refine lv_iconst (v := 3) hx hb dX9_set_42 (by decide) ?_
  refine lv_iload_n hx hb dX9_set_43 rfl (lv_at hl 1 rfl) ?_
  refine lv_imul hx hb dX9_set_44 ?_
  refine z_cst (v := 1932) (by decide +kernel) ?_
  refine lv_iconst (v := (-1)) hx hb dX9_set_45 (by decide) ?_
  refine z_iast (j := 1932) hx hb hK hP hD hS 4 rfl rfl (Nat.le_of_ble_eq_true rfl) (Nat.le_of_ble_eq_true rfl) dX9_set_46 (fun ff12 H locs y13 hP hD hS => ?_)
  have hP : va_P K.1 classes [(a1, zI K 645 ff4), (a2, zI K 645 ff6), (a3, zI K 645 ff8), (a4, zI K 645 ff10), (a5, zI K 1935 ff12), (a0, zO 7 6 g0)] H := hP
  have hD : va_D A [(a1, zI K 645 ff4), (a2, zI K 645 ff6), (a3, zI K 645 ff8), (a4, zI K 645 ff10), (a5, zI K 1935 ff12), (a0, zO 7 6 g0)] := hD
  refine lv_aload_n hx hb dX9_set_47 rfl (lv_at hl 0 rfl) ?_
  refine z_get (v := .ref a5) hx hb hg hown hK hP i_X9 rfl 5 rfl 4 (by decide) mt41 e5 dX9_set_48 ?_
  refine lv_iconst (v := 3) hx hb dX9_set_51 (by decide) ?_
  refine lv_iload_n hx hb dX9_set_52 rfl (lv_at hl 1 rfl) ?_
  refine lv_imul hx hb dX9_set_53 ?_
  refine z_cst (v := 1932) (by decide +kernel) ?_
  refine lv_iconst (v := 1) hx hb dX9_set_54 (by decide) ?_
  refine lv_iadd hx hb dX9_set_55 ?_
  refine z_cst (v := 1933) (by decide +kernel) ?_
  refine lv_iconst (v := (-1)) hx hb dX9_set_56 (by decide) ?_
  refine z_iast (j := 1933) hx hb hK hP hD hS 4 rfl rfl (Nat.le_of_ble_eq_true rfl) (Nat.le_of_ble_eq_true rfl) dX9_set_57 (fun ff14 H locs y15 hP hD hS => ?_)
  have hP : va_P K.1 classes [(a1, zI K 645 ff4), (a2, zI K 645 ff6), (a3, zI K 645 ff8), (a4, zI K 645 ff10), (a5, zI K 1935 ff14), (a0, zO 7 6 g0)] H := hP
  have hD : va_D A [(a1, zI K 645 ff4), (a2, zI K 645 ff6), (a3, zI K 645 ff8), (a4, zI K 645 ff10), (a5, zI K 1935 ff14), (a0, zO 7 6 g0)] := hD
  refine lv_aload_n hx hb dX9_set_58 rfl (lv_at hl 0 rfl) ?_
  refine z_get (v := .ref a5) hx hb hg hown hK hP i_X9 rfl 5 rfl 4 (by decide) mt41 e5 dX9_set_59 ?_
  refine lv_iconst (v := 3) hx hb dX9_set_62 (by decide) ?_
  refine lv_iload_n hx hb dX9_set_63 rfl (lv_at hl 1 rfl) ?_
  refine lv_imul hx hb dX9_set_64 ?_
  refine z_cst (v := 1932) (by decide +kernel) ?_
  refine lv_iconst (v := 2) hx hb dX9_set_65 (by decide) ?_
  refine lv_iadd hx hb dX9_set_66 ?_
  refine z_cst (v := 1934) (by decide +kernel) ?_
  refine lv_iconst (v := (-1)) hx hb dX9_set_67 (by decide) ?_
  refine z_iast (j := 1934) hx hb hK hP hD hS 4 rfl rfl (Nat.le_of_ble_eq_true rfl) (Nat.le_of_ble_eq_true rfl) dX9_set_68 (fun ff16 H locs y17 hP hD hS => ?_)
  have hP : va_P K.1 classes [(a1, zI K 645 ff4), (a2, zI K 645 ff6), (a3, zI K 645 ff8), (a4, zI K 645 ff10), (a5, zI K 1935 ff16), (a0, zO 7 6 g0)] H := hP
  have hD : va_D A [(a1, zI K 645 ff4), (a2, zI K 645 ff6), (a3, zI K 645 ff8), (a4, zI K 645 ff10), (a5, zI K 1935 ff16), (a0, zO 7 6 g0)] := hD
  subst y17
  subst y15
  subst y13
  subst y11
  subst y9
  subst y7
  subst y5
  have hP9 : va_P K.1 classes [(a0, zO 7 6 g0), (a1, zI K 645 (va_up f1 644 4)), (a2, zI K 645 (va_up f2 644 0)), (a3, zI K 645 (va_up f3 644 0)), (a4, zI K 645 (va_up f4 644 0)), (a5, zI K 1935 (va_up (va_up (va_up f5 1932 (-1)) 1933 (-1)) 1934 (-1)))] H := hP.sub [5, 0, 1, 2, 3, 4] rfl
  have hD9 : va_D A [(a0, zO 7 6 g0), (a1, zI K 645 (va_up f1 644 4)), (a2, zI K 645 (va_up f2 644 0)), (a3, zI K 645 (va_up f3 644 0)), (a4, zI K 645 (va_up f4 644 0)), (a5, zI K 1935 (va_up (va_up (va_up f5 1932 (-1)) 1933 (-1)) 1934 (-1)))] := hD.sub [5, 0, 1, 2, 3, 4] (by decide) rfl
  exact z_vret hx hb hr (fun _ => 0) trivial hP9 hD9 hS (Nat.le_of_ble_eq_true rfl) (Nat.le_of_ble_eq_true rfl) hlocks dX9_set_69
set_option maxHeartbeats 4000000 in
set_option maxRecDepth 100000 in
theorem cX9_join_3 (l : Launch) (K : zK) (sz : Nat) (a0 : Nat) (a1 : Nat) (g0 : Nat → Value) (f1 : Nat → Int32) (e0 : g0 5 = (.int 645)) (e1 : g0 4 = (.ref a1)) : Met l yX9_join (Cond.code yX9_join cX9_join 5 none :: WG) { frames := 1, cells := 0, slots := 0, locals := 21 } (zPre K [(a0, zO 7 6 g0), (a1, zI K 1935 f1)] sz [.ref a0, .int 644, .int 642, .int 643, .int (-1)]) (va_Qv (fun _ : Nat → Nat => True) (zB K (va_A [(a0, zO 7 6 g0), (a1, zI K 1935 f1)] sz) (fun u : Nat → Nat => [(a0, zO 7 6 g0), (a1, zI K 1935 (va_up (va_up (va_up f1 1932 642) 1933 643) 1934 (-1)))])) (va_A [(a0, zO 7 6 g0), (a1, zI K 1935 f1)] sz)) 0 0 (va_A [(a0, zO 7 6 g0), (a1, zI K 1935 f1)] sz) := by
  refine z_met (Qc := fun A => (va_Qv (fun _ : Nat → Nat => True) (zB K A (fun u : Nat → Nat => [(a0, zO 7 6 g0), (a1, zI K 1935 (va_up (va_up (va_up f1 1932 642) 1933 643) 1934 (-1)))])) A)) (by decide +kernel) (Nat.le_of_ble_eq_true rfl) ?_
  intro p e s m args below meth c A ls H hx hb hr hg hown hlocks hml hin hK hP hD hA hS hZ hl
  have hown : s.vm.findClass RX9 = some m.cls := hown
  have hl : lv_has ls 5 [(0, .ref a0), (1, .int 644), (2, .int 642), (3, .int 643), (4, .int (-1))] := hl
  refine lv_aload_n hx hb dX9_join_0 rfl (lv_at hl 0 rfl) ?_
  refine lv_iload_n hx hb dX9_join_1 rfl (lv_at hl 1 rfl) ?_
  refine z_calli [(a0, zO 7 6 g0)] [(a1, zI K 1935 f1)] [0] [1] hP hD hS hA rfl rfl (by decide) (by decide) (by decide +kernel) 0 0 rfl rfl (fun hPc hDc hF => z_runV (As := [.int 644]) (rest := []) ⟨hx, hb, hml, hown, hg⟩ (cX9_has_8 l K H.size a0 g0 e0) kV_RX9_31 hd_X9_has rfl rfl ⟨(Nat.le_of_ble_eq_true rfl), (Nat.le_of_ble_eq_true rfl)⟩ hK hS hZ hPc hDc hF 0 rfl rfl rfl hl.1 rfl (Nat.le_of_ble_eq_true rfl) dX9_join_2 ⟨(Nat.le_of_ble_eq_true rfl), (Nat.le_of_ble_eq_true rfl)⟩) (fun r3 u1 H locs w2 hP hD hS => ?_)
  subst w2
  have hP : va_P K.1 classes [(a1, zI K 1935 f1), (a0, zO 7 6 g0)] H := hP
  have hD : va_D A [(a1, zI K 1935 f1), (a0, zO 7 6 g0)] := hD
  refine lv_if_eq (tgt := 40) hx hb dX9_join_5 (by decide) (fun c => absurd c (by decide)) (fun _ => ?_)
  refine lv_aload_n hx hb dX9_join_8 rfl (lv_at hl 0 rfl) ?_
  refine z_get (v := .ref a1) hx hb hg hown hK hP i_X9 rfl 1 rfl 4 (by decide) mt41 e1 dX9_join_9 ?_
  refine lv_iconst (v := 3) hx hb dX9_join_12 (by decide) ?_
  refine lv_iload_n hx hb dX9_join_13 rfl (lv_at hl 1 rfl) ?_
  refine lv_imul hx hb dX9_join_14 ?_
  refine z_cst (v := 1932) (by decide +kernel) ?_
  refine lv_iload_n hx hb dX9_join_15 rfl (lv_at hl 2 rfl) ?_
  refine z_iast (j := 1932) hx hb hK hP hD hS 0 rfl rfl (Nat.le_of_ble_eq_true rfl) (Nat.le_of_ble_eq_true rfl) dX9_join_16 (fun ff4 H locs y5 hP hD hS => ?_)
  have hP : va_P K.1 classes [(a1, zI K 1935 ff4), (a0, zO 7 6 g0)] H := hP
  have hD : va_D A [(a1, zI K 1935 ff4), (a0, zO 7 6 g0)] := hD
  refine lv_aload_n hx hb dX9_join_17 rfl (lv_at hl 0 rfl) ?_
  refine z_get (v := .ref a1) hx hb hg hown hK hP i_X9 rfl 1 rfl 4 (by decide) mt41 e1 dX9_join_18 ?_
  refine lv_iconst (v := 3) hx hb dX9_join_21 (by decide) ?_
  refine lv_iload_n hx hb dX9_join_22 rfl (lv_at hl 1 rfl) ?_
  refine lv_imul hx hb dX9_join_23 ?_
  refine z_cst (v := 1932) (by decide +kernel) ?_
  refine lv_iconst (v := 1) hx hb dX9_join_24 (by decide) ?_
  refine lv_iadd hx hb dX9_join_25 ?_
  refine z_cst (v := 1933) (by decide +kernel) ?_
  refine lv_iload_n hx hb dX9_join_26 rfl (lv_at hl 3 rfl) ?_
  refine z_iast (j := 1933) hx hb hK hP hD hS 0 rfl rfl (Nat.le_of_ble_eq_true rfl) (Nat.le_of_ble_eq_true rfl) dX9_join_27 (fun ff6 H locs y7 hP hD hS => ?_)
  have hP : va_P K.1 classes [(a1, zI K 1935 ff6), (a0, zO 7 6 g0)] H := hP
  have hD : va_D A [(a1, zI K 1935 ff6), (a0, zO 7 6 g0)] := hD
  refine lv_aload_n hx hb dX9_join_28 rfl (lv_at hl 0 rfl) ?_
  refine z_get (v := .ref a1) hx hb hg hown hK hP i_X9 rfl 1 rfl 4 (by decide) mt41 e1 dX9_join_29 ?_
  refine lv_iconst (v := 3) hx hb dX9_join_32 (by decide) ?_
  refine lv_iload_n hx hb dX9_join_33 rfl (lv_at hl 1 rfl) ?_
  refine lv_imul hx hb dX9_join_34 ?_
  refine z_cst (v := 1932) (by decide +kernel) ?_
  refine lv_iconst (v := 2) hx hb dX9_join_35 (by decide) ?_
  refine lv_iadd hx hb dX9_join_36 ?_
  refine z_cst (v := 1934) (by decide +kernel) ?_
  refine lv_iload hx hb dX9_join_37 (lv_at hl 4 rfl) ?_
  refine z_iast (j := 1934) hx hb hK hP hD hS 0 rfl rfl (Nat.le_of_ble_eq_true rfl) (Nat.le_of_ble_eq_true rfl) dX9_join_39 (fun ff8 H locs y9 hP hD hS => ?_)
  have hP : va_P K.1 classes [(a1, zI K 1935 ff8), (a0, zO 7 6 g0)] H := hP
  have hD : va_D A [(a1, zI K 1935 ff8), (a0, zO 7 6 g0)] := hD
  subst y9
  subst y7
  subst y5
  have hP9 : va_P K.1 classes [(a0, zO 7 6 g0), (a1, zI K 1935 (va_up (va_up (va_up f1 1932 642) 1933 643) 1934 (-1)))] H := hP.sub [1, 0] rfl
  have hD9 : va_D A [(a0, zO 7 6 g0), (a1, zI K 1935 (va_up (va_up (va_up f1 1932 642) 1933 643) 1934 (-1)))] := hD.sub [1, 0] (by decide) rfl
  exact z_vret hx hb hr (fun _ => 0) trivial hP9 hD9 hS (Nat.le_of_ble_eq_true rfl) (Nat.le_of_ble_eq_true rfl) hlocks dX9_join_40
set_option maxHeartbeats 4000000 in
set_option maxRecDepth 100000 in
theorem cX5_call_1 (l : Launch) (K : zK) (sz : Nat) (a0 : Nat) (a1 : Nat) (a2 : Nat) (a3 : Nat) (a4 : Nat) (a5 : Nat) (a6 : Nat) (g0 : Nat → Value) (g1 : Nat → Value) (f2 : Nat → Int32) (f3 : Nat → Int32) (f4 : Nat → Int32) (f5 : Nat → Int32) (f6 : Nat → Int32) (j0 : Nat) (hj0 : j0 < 8) (j1 : Nat) (hj1 : j1 < 3) (x2 : Int32) (x3 : Int32) (e0 : g0 0 = (.ref a1)) (e1 : g1 5 = (.int 645)) (e2 : g1 0 = (.ref a2)) (e3 : g1 1 = (.ref a3)) (e4 : g1 2 = (.ref a4)) (e5 : g1 3 = (.ref a5)) (e6 : g1 4 = (.ref a6)) : Met l yX5_call (Cond.code yX5_call cX5_call 5 (some .int) :: WG) { frames := 2, cells := 0, slots := 0, locals := 46 } (zPre K [(a0, zO 4 6 g0), (a1, zO 7 6 g1), (a2, zI K 645 f2), (a3, zI K 645 f3), (a4, zI K 645 f4), (a5, zI K 645 f5), (a6, zI K 1935 f6)] sz [.ref a0, .int (nI j0), .int (nI j1), .int x2, .int x3]) (va_Qi (fun (r : Int32) (_ : Nat → Nat) => r = ((640 : Int32) + ((2 : Int32) * (nI j1)))) (zB K (va_A [(a0, zO 4 6 g0), (a1, zO 7 6 g1), (a2, zI K 645 f2), (a3, zI K 645 f3), (a4, zI K 645 f4), (a5, zI K 645 f5), (a6, zI K 1935 f6)] sz) (fun u : Nat → Nat => [(a0, zO 4 6 g0), (a1, zO 7 6 g1), (a2, zI K 645 (va_up (va_up (va_up (va_up (va_up f2 640 2) 641 0) 642 4) 643 0) 644 4)), (a3, zI K 645 (va_up (va_up (va_up (va_up (va_up f3 640 (nI j0)) 641 x2) 642 0) 643 x3) 644 0)), (a4, zI K 645 (va_up (va_up (va_up (va_up (va_up f4 640 0) 641 0) 642 0) 643 0) 644 0)), (a5, zI K 645 (va_up (va_up (va_up (va_up (va_up f5 640 0) 641 0) 642 0) 643 0) 644 0)), (a6, zI K 1935 (va_up (va_up (va_up (va_up (va_up (va_up (va_up (va_up (va_up (va_up (va_up (va_up (va_up (va_up (va_up (va_up (va_up (va_up (va_up (va_up (va_up f6 1920 (-1)) 1921 (-1)) 1922 (-1)) 1923 (-1)) 1924 (-1)) 1925 (-1)) 1926 (-1)) 1927 (-1)) 1928 (-1)) 1926 640) 1927 641) 1928 (-1)) 1929 (-1)) 1930 (-1)) 1931 (-1)) 1932 (-1)) 1933 (-1)) 1934 (-1)) 1932 642) 1933 643) 1934 (-1)))])) (va_A [(a0, zO 4 6 g0), (a1, zO 7 6 g1), (a2, zI K 645 f2), (a3, zI K 645 f3), (a4, zI K 645 f4), (a5, zI K 645 f5), (a6, zI K 1935 f6)] sz)) 0 0 (va_A [(a0, zO 4 6 g0), (a1, zO 7 6 g1), (a2, zI K 645 f2), (a3, zI K 645 f3), (a4, zI K 645 f4), (a5, zI K 645 f5), (a6, zI K 1935 f6)] sz) := by
  refine z_met (Qc := fun A => (va_Qi (fun (r : Int32) (_ : Nat → Nat) => r = ((640 : Int32) + ((2 : Int32) * (nI j1)))) (zB K A (fun u : Nat → Nat => [(a0, zO 4 6 g0), (a1, zO 7 6 g1), (a2, zI K 645 (va_up (va_up (va_up (va_up (va_up f2 640 2) 641 0) 642 4) 643 0) 644 4)), (a3, zI K 645 (va_up (va_up (va_up (va_up (va_up f3 640 (nI j0)) 641 x2) 642 0) 643 x3) 644 0)), (a4, zI K 645 (va_up (va_up (va_up (va_up (va_up f4 640 0) 641 0) 642 0) 643 0) 644 0)), (a5, zI K 645 (va_up (va_up (va_up (va_up (va_up f5 640 0) 641 0) 642 0) 643 0) 644 0)), (a6, zI K 1935 (va_up (va_up (va_up (va_up (va_up (va_up (va_up (va_up (va_up (va_up (va_up (va_up (va_up (va_up (va_up (va_up (va_up (va_up (va_up (va_up (va_up f6 1920 (-1)) 1921 (-1)) 1922 (-1)) 1923 (-1)) 1924 (-1)) 1925 (-1)) 1926 (-1)) 1927 (-1)) 1928 (-1)) 1926 640) 1927 641) 1928 (-1)) 1929 (-1)) 1930 (-1)) 1931 (-1)) 1932 (-1)) 1933 (-1)) 1934 (-1)) 1932 642) 1933 643) 1934 (-1)))])) A)) (by decide +kernel) (Nat.le_of_ble_eq_true rfl) ?_
  intro p e s m args below meth c A ls H hx hb hr hg hown hlocks hml hin hK hP hD hA hS hZ hl
  have hown : s.vm.findClass RX5 = some m.cls := hown
  have hl : lv_has ls 5 [(0, .ref a0), (1, .int (nI j0)), (2, .int (nI j1)), (3, .int x2), (4, .int x3)] := hl
  refine lv_aload_n hx hb dX5_call_0 rfl (lv_at hl 0 rfl) ?_
  refine z_get (v := .ref a1) hx hb hg hown hK hP i_X5 rfl 0 rfl 0 (by decide) mt69 e0 dX5_call_1 ?_
  refine lv_sipush (v := 640) hx hb dX5_call_4 (by decide) ?_
  refine lv_iconst (v := 2) hx hb dX5_call_7 (by decide) ?_
  refine lv_iload_n hx hb dX5_call_8 rfl (lv_at hl 1 rfl) ?_
  refine lv_iconst (v := 0) hx hb dX5_call_9 (by decide) ?_
  refine lv_iconst (v := 0) hx hb dX5_call_10 (by decide) ?_
  refine z_callv [(a1, zO 7 6 g1), (a2, zI K 645 f2), (a3, zI K 645 f3), (a4, zI K 645 f4), (a5, zI K 645 f5), (a6, zI K 1935 f6)] [(a0, zO 4 6 g0)] [1, 2, 3, 4, 5, 6] [0] hP hD hS hA rfl rfl (by decide) (by decide) (by decide +kernel) 0 0 rfl rfl (fun hPc hDc hF => z_runV (As := [.int 640, .int 2, .int (nI j0), .int 0, .int 0]) (rest := []) ⟨hx, hb, hml, hown, hg⟩ (cX9_set_5 l K H.size a1 a2 a3 a4 a5 a6 g1 f2 f3 f4 f5 f6 j0 hj0 e1 e2 e3 e4 e5 e6) kV_RX5_81 hd_X9_set rfl rfl ⟨(Nat.le_of_ble_eq_true rfl), (Nat.le_of_ble_eq_true rfl)⟩ hK hS hZ hPc hDc hF 0 rfl rfl rfl hl.1 rfl (Nat.le_of_ble_eq_true rfl) dX5_call_11 ⟨(Nat.le_of_ble_eq_true rfl), (Nat.le_of_ble_eq_true rfl)⟩) (fun u1 H locs w2 hP hD hS => ?_)
  have hP : va_P K.1 classes [(a0, zO 4 6 g0), (a1, zO 7 6 g1), (a2, zI K 645 (va_up f2 640 2)), (a3, zI K 645 (va_up f3 640 (nI j0))), (a4, zI K 645 (va_up f4 640 0)), (a5, zI K 645 (va_up f5 640 0)), (a6, zI K 1935 (va_up (va_up (va_up f6 1920 (-1)) 1921 (-1)) 1922 (-1)))] H := hP
  have hD : va_D A [(a0, zO 4 6 g0), (a1, zO 7 6 g1), (a2, zI K 645 (va_up f2 640 2)), (a3, zI K 645 (va_up f3 640 (nI j0))), (a4, zI K 645 (va_up f4 640 0)), (a5, zI K 645 (va_up f5 640 0)), (a6, zI K 1935 (va_up (va_up (va_up f6 1920 (-1)) 1921 (-1)) 1922 (-1)))] := hD
  obtain ⟨ff4, y5⟩ : ∃ z, z = ((va_up (va_up (va_up f6 1920 (-1)) 1921 (-1)) 1922 (-1)) : Nat → Int32) := ⟨_, rfl⟩
  rw [← y5] at hP hD
  refine lv_aload_n hx hb dX5_call_14 rfl (lv_at hl 0 rfl) ?_
  refine z_get (v := .ref a1) hx hb hg hown hK hP i_X5 rfl 0 rfl 0 (by decide) mt69 e0 dX5_call_15 ?_
  refine lv_sipush (v := 641) hx hb dX5_call_18 (by decide) ?_
  refine lv_iconst (v := 0) hx hb dX5_call_21 (by decide) ?_
  refine lv_iload_n hx hb dX5_call_22 rfl (lv_at hl 3 rfl) ?_
  refine lv_iconst (v := 0) hx hb dX5_call_23 (by decide) ?_
  refine lv_iconst (v := 0) hx hb dX5_call_24 (by decide) ?_
  refine z_callv [(a1, zO 7 6 g1), (a2, zI K 645 (va_up f2 640 2)), (a3, zI K 645 (va_up f3 640 (nI j0))), (a4, zI K 645 (va_up f4 640 0)), (a5, zI K 645 (va_up f5 640 0)), (a6, zI K 1935 ff4)] [(a0, zO 4 6 g0)] [1, 2, 3, 4, 5, 6] [0] hP hD hS hA rfl rfl (by decide) (by decide) (by decide +kernel) 0 0 rfl rfl (fun hPc hDc hF => z_runV (As := [.int 641, .int 0, .int x2, .int 0, .int 0]) (rest := []) ⟨hx, hb, hml, hown, hg⟩ (cX9_set_6 l K H.size a1 a2 a3 a4 a5 a6 g1 (va_up f2 640 2) (va_up f3 640 (nI j0)) (va_up f4 640 0) (va_up f5 640 0) ff4 x2 e1 e2 e3 e4 e5 e6) kV_RX5_81 hd_X9_set rfl rfl ⟨(Nat.le_of_ble_eq_true rfl), (Nat.le_of_ble_eq_true rfl)⟩ hK hS hZ hPc hDc hF 0 rfl rfl rfl hl.1 rfl (Nat.le_of_ble_eq_true rfl) dX5_call_25 ⟨(Nat.le_of_ble_eq_true rfl), (Nat.le_of_ble_eq_true rfl)⟩) (fun u6 H locs w7 hP hD hS => ?_)
  have hP : va_P K.1 classes [(a0, zO 4 6 g0), (a1, zO 7 6 g1), (a2, zI K 645 (va_up (va_up f2 640 2) 641 0)), (a3, zI K 645 (va_up (va_up f3 640 (nI j0)) 641 x2)), (a4, zI K 645 (va_up (va_up f4 640 0) 641 0)), (a5, zI K 645 (va_up (va_up f5 640 0) 641 0)), (a6, zI K 1935 (va_up (va_up (va_up ff4 1923 (-1)) 1924 (-1)) 1925 (-1)))] H := hP
  have hD : va_D A [(a0, zO 4 6 g0), (a1, zO 7 6 g1), (a2, zI K 645 (va_up (va_up f2 640 2) 641 0)), (a3, zI K 645 (va_up (va_up f3 640 (nI j0)) 641 x2)), (a4, zI K 645 (va_up (va_up f4 640 0) 641 0)), (a5, zI K 645 (va_up (va_up f5 640 0) 641 0)), (a6, zI K 1935 (va_up (va_up (va_up ff4 1923 (-1)) 1924 (-1)) 1925 (-1)))] := hD
  obtain ⟨ff9, y10⟩ : ∃ z, z = ((va_up (va_up f2 640 2) 641 0) : Nat → Int32) := ⟨_, rfl⟩
  rw [← y10] at hP hD
  obtain ⟨ff11, y12⟩ : ∃ z, z = ((va_up (va_up f3 640 (nI j0)) 641 x2) : Nat → Int32) := ⟨_, rfl⟩
  rw [← y12] at hP hD
  obtain ⟨ff13, y14⟩ : ∃ z, z = ((va_up (va_up f4 640 0) 641 0) : Nat → Int32) := ⟨_, rfl⟩
  rw [← y14] at hP hD
  obtain ⟨ff15, y16⟩ : ∃ z, z = ((va_up (va_up f5 640 0) 641 0) : Nat → Int32) := ⟨_, rfl⟩
  rw [← y16] at hP hD
  obtain ⟨ff17, y18⟩ : ∃ z, z = ((va_up (va_up (va_up ff4 1923 (-1)) 1924 (-1)) 1925 (-1)) : Nat → Int32) := ⟨_, rfl⟩
  rw [← y18] at hP hD
  refine lv_aload_n hx hb dX5_call_28 rfl (lv_at hl 0 rfl) ?_
  refine z_get (v := .ref a1) hx hb hg hown hK hP i_X5 rfl 0 rfl 0 (by decide) mt69 e0 dX5_call_29 ?_
  refine lv_sipush (v := 642) hx hb dX5_call_32 (by decide) ?_
  refine lv_iconst (v := 4) hx hb dX5_call_35 (by decide) ?_
  refine lv_iconst (v := 0) hx hb dX5_call_36 (by decide) ?_
  refine lv_iconst (v := 0) hx hb dX5_call_37 (by decide) ?_
  refine lv_iconst (v := 0) hx hb dX5_call_38 (by decide) ?_
  refine z_callv [(a1, zO 7 6 g1), (a2, zI K 645 ff9), (a3, zI K 645 ff11), (a4, zI K 645 ff13), (a5, zI K 645 ff15), (a6, zI K 1935 ff17)] [(a0, zO 4 6 g0)] [1, 2, 3, 4, 5, 6] [0] hP hD hS hA rfl rfl (by decide) (by decide) (by decide +kernel) 0 0 rfl rfl (fun hPc hDc hF => z_runV (As := [.int 642, .int 4, .int 0, .int 0, .int 0]) (rest := []) ⟨hx, hb, hml, hown, hg⟩ (cX9_set_7 l K H.size a1 a2 a3 a4 a5 a6 g1 ff9 ff11 ff13 ff15 ff17 e1 e2 e3 e4 e5 e6) kV_RX5_81 hd_X9_set rfl rfl ⟨(Nat.le_of_ble_eq_true rfl), (Nat.le_of_ble_eq_true rfl)⟩ hK hS hZ hPc hDc hF 0 rfl rfl rfl hl.1 rfl (Nat.le_of_ble_eq_true rfl) dX5_call_39 ⟨(Nat.le_of_ble_eq_true rfl), (Nat.le_of_ble_eq_true rfl)⟩) (fun u19 H locs w20 hP hD hS => ?_)
  have hP : va_P K.1 classes [(a0, zO 4 6 g0), (a1, zO 7 6 g1), (a2, zI K 645 (va_up ff9 642 4)), (a3, zI K 645 (va_up ff11 642 0)), (a4, zI K 645 (va_up ff13 642 0)), (a5, zI K 645 (va_up ff15 642 0)), (a6, zI K 1935 (va_up (va_up (va_up ff17 1926 (-1)) 1927 (-1)) 1928 (-1)))] H := hP
  have hD : va_D A [(a0, zO 4 6 g0), (a1, zO 7 6 g1), (a2, zI K 645 (va_up ff9 642 4)), (a3, zI K 645 (va_up ff11 642 0)), (a4, zI K 645 (va_up ff13 642 0)), (a5, zI K 645 (va_up ff15 642 0)), (a6, zI K 1935 (va_up (va_up (va_up ff17 1926 (-1)) 1927 (-1)) 1928 (-1)))] := hD
  obtain ⟨ff22, y23⟩ : ∃ z, z = ((va_up (va_up (va_up ff17 1926 (-1)) 1927 (-1)) 1928 (-1)) : Nat → Int32) := ⟨_, rfl⟩
  rw [← y23] at hP hD
  refine lv_aload_n hx hb dX5_call_42 rfl (lv_at hl 0 rfl) ?_
  refine z_get (v := .ref a1) hx hb hg hown hK hP i_X5 rfl 0 rfl 0 (by decide) mt69 e0 dX5_call_43 ?_
  refine lv_sipush (v := 642) hx hb dX5_call_46 (by decide) ?_
  refine lv_sipush (v := 640) hx hb dX5_call_49 (by decide) ?_
  refine lv_sipush (v := 641) hx hb dX5_call_52 (by decide) ?_
  refine lv_iconst (v := (-1)) hx hb dX5_call_55 (by decide) ?_
  refine z_callv [(a1, zO 7 6 g1), (a6, zI K 1935 ff22)] [(a0, zO 4 6 g0), (a2, zI K 645 (va_up ff9 642 4)), (a3, zI K 645 (va_up ff11 642 0)), (a4, zI K 645 (va_up ff13 642 0)), (a5, zI K 645 (va_up ff15 642 0))] [1, 6] [0, 2, 3, 4, 5] hP hD hS hA rfl rfl (by decide) (by decide) (by decide +kernel) 0 0 rfl rfl (fun hPc hDc hF => z_runV (As := [.int 642, .int 640, .int 641, .int (-1)]) (rest := []) ⟨hx, hb, hml, hown, hg⟩ (cX9_join_2 l K H.size a1 a6 g1 ff22 e1 e6) kV_RX5_85 hd_X9_join rfl rfl ⟨(Nat.le_of_ble_eq_true rfl), (Nat.le_of_ble_eq_true rfl)⟩ hK hS hZ hPc hDc hF 0 rfl rfl rfl hl.1 rfl (Nat.le_of_ble_eq_true rfl) dX5_call_56 ⟨(Nat.le_of_ble_eq_true rfl), (Nat.le_of_ble_eq_true rfl)⟩) (fun u24 H locs w25 hP hD hS => ?_)
  have hP : va_P K.1 classes [(a0, zO 4 6 g0), (a2, zI K 645 (va_up ff9 642 4)), (a3, zI K 645 (va_up ff11 642 0)), (a4, zI K 645 (va_up ff13 642 0)), (a5, zI K 645 (va_up ff15 642 0)), (a1, zO 7 6 g1), (a6, zI K 1935 (va_up (va_up (va_up ff22 1926 640) 1927 641) 1928 (-1)))] H := hP
  have hD : va_D A [(a0, zO 4 6 g0), (a2, zI K 645 (va_up ff9 642 4)), (a3, zI K 645 (va_up ff11 642 0)), (a4, zI K 645 (va_up ff13 642 0)), (a5, zI K 645 (va_up ff15 642 0)), (a1, zO 7 6 g1), (a6, zI K 1935 (va_up (va_up (va_up ff22 1926 640) 1927 641) 1928 (-1)))] := hD
  obtain ⟨ff27, y28⟩ : ∃ z, z = ((va_up (va_up (va_up ff22 1926 640) 1927 641) 1928 (-1)) : Nat → Int32) := ⟨_, rfl⟩
  rw [← y28] at hP hD
  refine lv_aload_n hx hb dX5_call_59 rfl (lv_at hl 0 rfl) ?_
  refine z_get (v := .ref a1) hx hb hg hown hK hP i_X5 rfl 0 rfl 0 (by decide) mt69 e0 dX5_call_60 ?_
  refine lv_sipush (v := 643) hx hb dX5_call_63 (by decide) ?_
  refine lv_iconst (v := 0) hx hb dX5_call_66 (by decide) ?_
  refine lv_iload hx hb dX5_call_67 (lv_at hl 4 rfl) ?_
  refine lv_iconst (v := 0) hx hb dX5_call_69 (by decide) ?_
  refine lv_iconst (v := 0) hx hb dX5_call_70 (by decide) ?_
  refine z_callv [(a1, zO 7 6 g1), (a2, zI K 645 (va_up ff9 642 4)), (a3, zI K 645 (va_up ff11 642 0)), (a4, zI K 645 (va_up ff13 642 0)), (a5, zI K 645 (va_up ff15 642 0)), (a6, zI K 1935 ff27)] [(a0, zO 4 6 g0)] [5, 1, 2, 3, 4, 6] [0] hP hD hS hA rfl rfl (by decide) (by decide) (by decide +kernel) 0 0 rfl rfl (fun hPc hDc hF => z_runV (As := [.int 643, .int 0, .int x3, .int 0, .int 0]) (rest := []) ⟨hx, hb, hml, hown, hg⟩ (cX9_set_8 l K H.size a1 a2 a3 a4 a5 a6 g1 (va_up ff9 642 4) (va_up ff11 642 0) (va_up ff13 642 0) (va_up ff15 642 0) ff27 x3 e1 e2 e3 e4 e5 e6) kV_RX5_81 hd_X9_set rfl rfl ⟨(Nat.le_of_ble_eq_true rfl), (Nat.le_of_ble_eq_true rfl)⟩ hK hS hZ hPc hDc hF 0 rfl rfl rfl hl.1 rfl (Nat.le_of_ble_eq_true rfl) dX5_call_71 ⟨(Nat.le_of_ble_eq_true rfl), (Nat.le_of_ble_eq_true rfl)⟩) (fun u29 H locs w30 hP hD hS => ?_)
  have hP : va_P K.1 classes [(a0, zO 4 6 g0), (a1, zO 7 6 g1), (a2, zI K 645 (va_up (va_up ff9 642 4) 643 0)), (a3, zI K 645 (va_up (va_up ff11 642 0) 643 x3)), (a4, zI K 645 (va_up (va_up ff13 642 0) 643 0)), (a5, zI K 645 (va_up (va_up ff15 642 0) 643 0)), (a6, zI K 1935 (va_up (va_up (va_up ff27 1929 (-1)) 1930 (-1)) 1931 (-1)))] H := hP
  have hD : va_D A [(a0, zO 4 6 g0), (a1, zO 7 6 g1), (a2, zI K 645 (va_up (va_up ff9 642 4) 643 0)), (a3, zI K 645 (va_up (va_up ff11 642 0) 643 x3)), (a4, zI K 645 (va_up (va_up ff13 642 0) 643 0)), (a5, zI K 645 (va_up (va_up ff15 642 0) 643 0)), (a6, zI K 1935 (va_up (va_up (va_up ff27 1929 (-1)) 1930 (-1)) 1931 (-1)))] := hD
  obtain ⟨ff32, y33⟩ : ∃ z, z = ((va_up (va_up ff9 642 4) 643 0) : Nat → Int32) := ⟨_, rfl⟩
  rw [← y33] at hP hD
  obtain ⟨ff34, y35⟩ : ∃ z, z = ((va_up (va_up ff11 642 0) 643 x3) : Nat → Int32) := ⟨_, rfl⟩
  rw [← y35] at hP hD
  obtain ⟨ff36, y37⟩ : ∃ z, z = ((va_up (va_up ff13 642 0) 643 0) : Nat → Int32) := ⟨_, rfl⟩
  rw [← y37] at hP hD
  obtain ⟨ff38, y39⟩ : ∃ z, z = ((va_up (va_up ff15 642 0) 643 0) : Nat → Int32) := ⟨_, rfl⟩
  rw [← y39] at hP hD
  obtain ⟨ff40, y41⟩ : ∃ z, z = ((va_up (va_up (va_up ff27 1929 (-1)) 1930 (-1)) 1931 (-1)) : Nat → Int32) := ⟨_, rfl⟩
  rw [← y41] at hP hD
  refine lv_aload_n hx hb dX5_call_74 rfl (lv_at hl 0 rfl) ?_
  refine z_get (v := .ref a1) hx hb hg hown hK hP i_X5 rfl 0 rfl 0 (by decide) mt69 e0 dX5_call_75 ?_
  refine lv_sipush (v := 644) hx hb dX5_call_78 (by decide) ?_
  refine lv_iconst (v := 4) hx hb dX5_call_81 (by decide) ?_
  refine lv_iconst (v := 0) hx hb dX5_call_82 (by decide) ?_
  refine lv_iconst (v := 0) hx hb dX5_call_83 (by decide) ?_
  refine lv_iconst (v := 0) hx hb dX5_call_84 (by decide) ?_
  refine z_callv [(a1, zO 7 6 g1), (a2, zI K 645 ff32), (a3, zI K 645 ff34), (a4, zI K 645 ff36), (a5, zI K 645 ff38), (a6, zI K 1935 ff40)] [(a0, zO 4 6 g0)] [1, 2, 3, 4, 5, 6] [0] hP hD hS hA rfl rfl (by decide) (by decide) (by decide +kernel) 0 0 rfl rfl (fun hPc hDc hF => z_runV (As := [.int 644, .int 4, .int 0, .int 0, .int 0]) (rest := []) ⟨hx, hb, hml, hown, hg⟩ (cX9_set_9 l K H.size a1 a2 a3 a4 a5 a6 g1 ff32 ff34 ff36 ff38 ff40 e1 e2 e3 e4 e5 e6) kV_RX5_81 hd_X9_set rfl rfl ⟨(Nat.le_of_ble_eq_true rfl), (Nat.le_of_ble_eq_true rfl)⟩ hK hS hZ hPc hDc hF 0 rfl rfl rfl hl.1 rfl (Nat.le_of_ble_eq_true rfl) dX5_call_85 ⟨(Nat.le_of_ble_eq_true rfl), (Nat.le_of_ble_eq_true rfl)⟩) (fun u42 H locs w43 hP hD hS => ?_)
  have hP : va_P K.1 classes [(a0, zO 4 6 g0), (a1, zO 7 6 g1), (a2, zI K 645 (va_up ff32 644 4)), (a3, zI K 645 (va_up ff34 644 0)), (a4, zI K 645 (va_up ff36 644 0)), (a5, zI K 645 (va_up ff38 644 0)), (a6, zI K 1935 (va_up (va_up (va_up ff40 1932 (-1)) 1933 (-1)) 1934 (-1)))] H := hP
  have hD : va_D A [(a0, zO 4 6 g0), (a1, zO 7 6 g1), (a2, zI K 645 (va_up ff32 644 4)), (a3, zI K 645 (va_up ff34 644 0)), (a4, zI K 645 (va_up ff36 644 0)), (a5, zI K 645 (va_up ff38 644 0)), (a6, zI K 1935 (va_up (va_up (va_up ff40 1932 (-1)) 1933 (-1)) 1934 (-1)))] := hD
  obtain ⟨ff45, y46⟩ : ∃ z, z = ((va_up (va_up (va_up ff40 1932 (-1)) 1933 (-1)) 1934 (-1)) : Nat → Int32) := ⟨_, rfl⟩
  rw [← y46] at hP hD
  refine lv_aload_n hx hb dX5_call_88 rfl (lv_at hl 0 rfl) ?_
  refine z_get (v := .ref a1) hx hb hg hown hK hP i_X5 rfl 0 rfl 0 (by decide) mt69 e0 dX5_call_89 ?_
  refine lv_sipush (v := 644) hx hb dX5_call_92 (by decide) ?_
  refine lv_sipush (v := 642) hx hb dX5_call_95 (by decide) ?_
  refine lv_sipush (v := 643) hx hb dX5_call_98 (by decide) ?_
  refine lv_iconst (v := (-1)) hx hb dX5_call_101 (by decide) ?_
  refine z_callv [(a1, zO 7 6 g1), (a6, zI K 1935 ff45)] [(a0, zO 4 6 g0), (a2, zI K 645 (va_up ff32 644 4)), (a3, zI K 645 (va_up ff34 644 0)), (a4, zI K 645 (va_up ff36 644 0)), (a5, zI K 645 (va_up ff38 644 0))] [1, 6] [0, 2, 3, 4, 5] hP hD hS hA rfl rfl (by decide) (by decide) (by decide +kernel) 0 0 rfl rfl (fun hPc hDc hF => z_runV (As := [.int 644, .int 642, .int 643, .int (-1)]) (rest := []) ⟨hx, hb, hml, hown, hg⟩ (cX9_join_3 l K H.size a1 a6 g1 ff45 e1 e6) kV_RX5_85 hd_X9_join rfl rfl ⟨(Nat.le_of_ble_eq_true rfl), (Nat.le_of_ble_eq_true rfl)⟩ hK hS hZ hPc hDc hF 0 rfl rfl rfl hl.1 rfl (Nat.le_of_ble_eq_true rfl) dX5_call_102 ⟨(Nat.le_of_ble_eq_true rfl), (Nat.le_of_ble_eq_true rfl)⟩) (fun u47 H locs w48 hP hD hS => ?_)
  have hP : va_P K.1 classes [(a0, zO 4 6 g0), (a2, zI K 645 (va_up ff32 644 4)), (a3, zI K 645 (va_up ff34 644 0)), (a4, zI K 645 (va_up ff36 644 0)), (a5, zI K 645 (va_up ff38 644 0)), (a1, zO 7 6 g1), (a6, zI K 1935 (va_up (va_up (va_up ff45 1932 642) 1933 643) 1934 (-1)))] H := hP
  have hD : va_D A [(a0, zO 4 6 g0), (a2, zI K 645 (va_up ff32 644 4)), (a3, zI K 645 (va_up ff34 644 0)), (a4, zI K 645 (va_up ff36 644 0)), (a5, zI K 645 (va_up ff38 644 0)), (a1, zO 7 6 g1), (a6, zI K 1935 (va_up (va_up (va_up ff45 1932 642) 1933 643) 1934 (-1)))] := hD
  obtain ⟨ff50, y51⟩ : ∃ z, z = ((va_up (va_up (va_up ff45 1932 642) 1933 643) 1934 (-1)) : Nat → Int32) := ⟨_, rfl⟩
  rw [← y51] at hP hD
  refine lv_sipush (v := 640) hx hb dX5_call_105 (by decide) ?_
  refine lv_iconst (v := 2) hx hb dX5_call_108 (by decide) ?_
  refine lv_iload_n hx hb dX5_call_109 rfl (lv_at hl 2 rfl) ?_
  refine lv_imul hx hb dX5_call_110 ?_
  refine lv_iadd hx hb dX5_call_111 ?_
  subst y51
  subst y46
  subst y41
  subst y39
  subst y37
  subst y35
  subst y33
  subst y28
  subst y23
  subst y18
  subst y16
  subst y14
  subst y12
  subst y10
  subst y5
  have hP9 : va_P K.1 classes [(a0, zO 4 6 g0), (a1, zO 7 6 g1), (a2, zI K 645 (va_up (va_up (va_up (va_up (va_up f2 640 2) 641 0) 642 4) 643 0) 644 4)), (a3, zI K 645 (va_up (va_up (va_up (va_up (va_up f3 640 (nI j0)) 641 x2) 642 0) 643 x3) 644 0)), (a4, zI K 645 (va_up (va_up (va_up (va_up (va_up f4 640 0) 641 0) 642 0) 643 0) 644 0)), (a5, zI K 645 (va_up (va_up (va_up (va_up (va_up f5 640 0) 641 0) 642 0) 643 0) 644 0)), (a6, zI K 1935 (va_up (va_up (va_up (va_up (va_up (va_up (va_up (va_up (va_up (va_up (va_up (va_up (va_up (va_up (va_up (va_up (va_up (va_up (va_up (va_up (va_up f6 1920 (-1)) 1921 (-1)) 1922 (-1)) 1923 (-1)) 1924 (-1)) 1925 (-1)) 1926 (-1)) 1927 (-1)) 1928 (-1)) 1926 640) 1927 641) 1928 (-1)) 1929 (-1)) 1930 (-1)) 1931 (-1)) 1932 (-1)) 1933 (-1)) 1934 (-1)) 1932 642) 1933 643) 1934 (-1)))] H := hP.sub [0, 5, 1, 2, 3, 4, 6] rfl
  have hD9 : va_D A [(a0, zO 4 6 g0), (a1, zO 7 6 g1), (a2, zI K 645 (va_up (va_up (va_up (va_up (va_up f2 640 2) 641 0) 642 4) 643 0) 644 4)), (a3, zI K 645 (va_up (va_up (va_up (va_up (va_up f3 640 (nI j0)) 641 x2) 642 0) 643 x3) 644 0)), (a4, zI K 645 (va_up (va_up (va_up (va_up (va_up f4 640 0) 641 0) 642 0) 643 0) 644 0)), (a5, zI K 645 (va_up (va_up (va_up (va_up (va_up f5 640 0) 641 0) 642 0) 643 0) 644 0)), (a6, zI K 1935 (va_up (va_up (va_up (va_up (va_up (va_up (va_up (va_up (va_up (va_up (va_up (va_up (va_up (va_up (va_up (va_up (va_up (va_up (va_up (va_up (va_up f6 1920 (-1)) 1921 (-1)) 1922 (-1)) 1923 (-1)) 1924 (-1)) 1925 (-1)) 1926 (-1)) 1927 (-1)) 1928 (-1)) 1926 640) 1927 641) 1928 (-1)) 1929 (-1)) 1930 (-1)) 1931 (-1)) 1932 (-1)) 1933 (-1)) 1934 (-1)) 1932 642) 1933 643) 1934 (-1)))] := hD.sub [0, 5, 1, 2, 3, 4, 6] (by decide) rfl
  exact z_iret hx hb hr (fun _ => 0) rfl hP9 hD9 hS (Nat.le_of_ble_eq_true rfl) (Nat.le_of_ble_eq_true rfl) hlocks dX5_call_112
set_option maxHeartbeats 4000000 in
set_option maxRecDepth 100000 in
theorem cX5_hasFound_1 (l : Launch) (K : zK) (sz : Nat) (a0 : Nat) (a1 : Nat) (g0 : Nat → Value) (f1 : Nat → Int32) (e0 : g0 2 = (.ref a1)) (e1 : f1 0 = 0) (e2 : f1 1 = 0) (e3 : f1 2 = 0) (e4 : f1 3 = 0) (e5 : f1 4 = 0) (e6 : f1 5 = 0) (e7 : f1 6 = 0) (e8 : f1 7 = 0) : Met l yX5_hasFound (Cond.code yX5_hasFound cX5_hasFound 2 (some .boolean) :: WG) { frames := 0, cells := 0, slots := 0, locals := 0 } (zPre K [(a0, zO 4 6 g0), (a1, zI K 8 f1)] sz [.ref a0]) (va_Qi (fun (r : Int32) (_ : Nat → Nat) => r = 0) (zB K (va_A [(a0, zO 4 6 g0), (a1, zI K 8 f1)] sz) (fun u : Nat → Nat => [(a0, zO 4 6 g0), (a1, zI K 8 f1)])) (va_A [(a0, zO 4 6 g0), (a1, zI K 8 f1)] sz)) 0 0 (va_A [(a0, zO 4 6 g0), (a1, zI K 8 f1)] sz) := by
  refine z_met (Qc := fun A => (va_Qi (fun (r : Int32) (_ : Nat → Nat) => r = 0) (zB K A (fun u : Nat → Nat => [(a0, zO 4 6 g0), (a1, zI K 8 f1)])) A)) (by decide +kernel) (Nat.le_of_ble_eq_true rfl) ?_
  intro p e s m args below meth c A ls H hx hb hr hg hown hlocks hml hin hK hP hD hA hS hZ hl
  have hown : s.vm.findClass RX5 = some m.cls := hown
  have hl : lv_has ls 2 [(0, .ref a0)] := hl
  refine lv_iconst (v := 0) hx hb dX5_hasFound_0 (by decide) ?_
  refine lv_istore_n (lv' := [(1, .int 0), (0, .ref a0)]) hx hb dX5_hasFound_1 rfl hl (by decide) rfl (fun ls hl => ?_)
  refine lv_iload_n hx hb dX5_hasFound_2 rfl (lv_at hl 0 rfl) ?_
  refine lv_bipush (v := 8) hx hb dX5_hasFound_3 (by decide) ?_
  refine lv_icmp_ge (tgt := 26) hx hb dX5_hasFound_5 (by decide) (fun c => absurd c (by decide)) (fun _ => ?_)
  refine lv_aload_n hx hb dX5_hasFound_8 rfl (lv_at hl 1 rfl) ?_
  refine z_get (v := .ref a1) hx hb hg hown hK hP i_X5 rfl 0 rfl 2 (by decide) mt75 e0 dX5_hasFound_9 ?_
  refine lv_iload_n hx hb dX5_hasFound_12 rfl (lv_at hl 0 rfl) ?_
  refine z_iald (v := 0) (j := 0) hx hb hK hP 1 rfl rfl (Nat.le_of_ble_eq_true rfl) (Nat.le_of_ble_eq_true rfl) e1 dX5_hasFound_13 ?_
  refine lv_iconst (v := 2) hx hb dX5_hasFound_14 (by decide) ?_
  refine lv_icmp_ne (tgt := 20) hx hb dX5_hasFound_15 (by decide) (fun _ => ?_) (fun c => absurd c (by decide))
  refine lv_iinc (v := 1) (lv' := [(1, .int 1), (0, .ref a0)]) hx hb dX5_hasFound_20 hl (k := 0) rfl (by decide +kernel) (by decide) rfl (fun ls hl => ?_)
  refine lv_goto (tgt := 2) hx hb dX5_hasFound_23 (by decide) ?_
  refine lv_iload_n hx hb dX5_hasFound_2 rfl (lv_at hl 0 rfl) ?_
  refine lv_bipush (v := 8) hx hb dX5_hasFound_3 (by decide) ?_
  refine lv_icmp_ge (tgt := 26) hx hb dX5_hasFound_5 (by decide) (fun c => absurd c (by decide)) (fun _ => ?_)
  refine lv_aload_n hx hb dX5_hasFound_8 rfl (lv_at hl 1 rfl) ?_
  refine z_get (v := .ref a1) hx hb hg hown hK hP i_X5 rfl 0 rfl 2 (by decide) mt75 e0 dX5_hasFound_9 ?_
  refine lv_iload_n hx hb dX5_hasFound_12 rfl (lv_at hl 0 rfl) ?_
  refine z_iald (v := 0) (j := 1) hx hb hK hP 1 rfl rfl (Nat.le_of_ble_eq_true rfl) (Nat.le_of_ble_eq_true rfl) e2 dX5_hasFound_13 ?_
  refine lv_iconst (v := 2) hx hb dX5_hasFound_14 (by decide) ?_
  refine lv_icmp_ne (tgt := 20) hx hb dX5_hasFound_15 (by decide) (fun _ => ?_) (fun c => absurd c (by decide))
  refine lv_iinc (v := 2) (lv' := [(1, .int 2), (0, .ref a0)]) hx hb dX5_hasFound_20 hl (k := 0) rfl (by decide +kernel) (by decide) rfl (fun ls hl => ?_)
  refine lv_goto (tgt := 2) hx hb dX5_hasFound_23 (by decide) ?_
  refine lv_iload_n hx hb dX5_hasFound_2 rfl (lv_at hl 0 rfl) ?_
  refine lv_bipush (v := 8) hx hb dX5_hasFound_3 (by decide) ?_
  refine lv_icmp_ge (tgt := 26) hx hb dX5_hasFound_5 (by decide) (fun c => absurd c (by decide)) (fun _ => ?_)
  refine lv_aload_n hx hb dX5_hasFound_8 rfl (lv_at hl 1 rfl) ?_
  refine z_get (v := .ref a1) hx hb hg hown hK hP i_X5 rfl 0 rfl 2 (by decide) mt75 e0 dX5_hasFound_9 ?_
  refine lv_iload_n hx hb dX5_hasFound_12 rfl (lv_at hl 0 rfl) ?_
  refine z_iald (v := 0) (j := 2) hx hb hK hP 1 rfl rfl (Nat.le_of_ble_eq_true rfl) (Nat.le_of_ble_eq_true rfl) e3 dX5_hasFound_13 ?_
  refine lv_iconst (v := 2) hx hb dX5_hasFound_14 (by decide) ?_
  refine lv_icmp_ne (tgt := 20) hx hb dX5_hasFound_15 (by decide) (fun _ => ?_) (fun c => absurd c (by decide))
  refine lv_iinc (v := 3) (lv' := [(1, .int 3), (0, .ref a0)]) hx hb dX5_hasFound_20 hl (k := 0) rfl (by decide +kernel) (by decide) rfl (fun ls hl => ?_)
  refine lv_goto (tgt := 2) hx hb dX5_hasFound_23 (by decide) ?_
  refine lv_iload_n hx hb dX5_hasFound_2 rfl (lv_at hl 0 rfl) ?_
  refine lv_bipush (v := 8) hx hb dX5_hasFound_3 (by decide) ?_
  refine lv_icmp_ge (tgt := 26) hx hb dX5_hasFound_5 (by decide) (fun c => absurd c (by decide)) (fun _ => ?_)
  refine lv_aload_n hx hb dX5_hasFound_8 rfl (lv_at hl 1 rfl) ?_
  refine z_get (v := .ref a1) hx hb hg hown hK hP i_X5 rfl 0 rfl 2 (by decide) mt75 e0 dX5_hasFound_9 ?_
  refine lv_iload_n hx hb dX5_hasFound_12 rfl (lv_at hl 0 rfl) ?_
  refine z_iald (v := 0) (j := 3) hx hb hK hP 1 rfl rfl (Nat.le_of_ble_eq_true rfl) (Nat.le_of_ble_eq_true rfl) e4 dX5_hasFound_13 ?_
  refine lv_iconst (v := 2) hx hb dX5_hasFound_14 (by decide) ?_
  refine lv_icmp_ne (tgt := 20) hx hb dX5_hasFound_15 (by decide) (fun _ => ?_) (fun c => absurd c (by decide))
  refine lv_iinc (v := 4) (lv' := [(1, .int 4), (0, .ref a0)]) hx hb dX5_hasFound_20 hl (k := 0) rfl (by decide +kernel) (by decide) rfl (fun ls hl => ?_)
  refine lv_goto (tgt := 2) hx hb dX5_hasFound_23 (by decide) ?_
  refine lv_iload_n hx hb dX5_hasFound_2 rfl (lv_at hl 0 rfl) ?_
  refine lv_bipush (v := 8) hx hb dX5_hasFound_3 (by decide) ?_
  refine lv_icmp_ge (tgt := 26) hx hb dX5_hasFound_5 (by decide) (fun c => absurd c (by decide)) (fun _ => ?_)
  refine lv_aload_n hx hb dX5_hasFound_8 rfl (lv_at hl 1 rfl) ?_
  refine z_get (v := .ref a1) hx hb hg hown hK hP i_X5 rfl 0 rfl 2 (by decide) mt75 e0 dX5_hasFound_9 ?_
  refine lv_iload_n hx hb dX5_hasFound_12 rfl (lv_at hl 0 rfl) ?_
  refine z_iald (v := 0) (j := 4) hx hb hK hP 1 rfl rfl (Nat.le_of_ble_eq_true rfl) (Nat.le_of_ble_eq_true rfl) e5 dX5_hasFound_13 ?_
  refine lv_iconst (v := 2) hx hb dX5_hasFound_14 (by decide) ?_
  refine lv_icmp_ne (tgt := 20) hx hb dX5_hasFound_15 (by decide) (fun _ => ?_) (fun c => absurd c (by decide))
  refine lv_iinc (v := 5) (lv' := [(1, .int 5), (0, .ref a0)]) hx hb dX5_hasFound_20 hl (k := 0) rfl (by decide +kernel) (by decide) rfl (fun ls hl => ?_)
  refine lv_goto (tgt := 2) hx hb dX5_hasFound_23 (by decide) ?_
  refine lv_iload_n hx hb dX5_hasFound_2 rfl (lv_at hl 0 rfl) ?_
  refine lv_bipush (v := 8) hx hb dX5_hasFound_3 (by decide) ?_
  refine lv_icmp_ge (tgt := 26) hx hb dX5_hasFound_5 (by decide) (fun c => absurd c (by decide)) (fun _ => ?_)
  refine lv_aload_n hx hb dX5_hasFound_8 rfl (lv_at hl 1 rfl) ?_
  refine z_get (v := .ref a1) hx hb hg hown hK hP i_X5 rfl 0 rfl 2 (by decide) mt75 e0 dX5_hasFound_9 ?_
  refine lv_iload_n hx hb dX5_hasFound_12 rfl (lv_at hl 0 rfl) ?_
  refine z_iald (v := 0) (j := 5) hx hb hK hP 1 rfl rfl (Nat.le_of_ble_eq_true rfl) (Nat.le_of_ble_eq_true rfl) e6 dX5_hasFound_13 ?_
  refine lv_iconst (v := 2) hx hb dX5_hasFound_14 (by decide) ?_
  refine lv_icmp_ne (tgt := 20) hx hb dX5_hasFound_15 (by decide) (fun _ => ?_) (fun c => absurd c (by decide))
  refine lv_iinc (v := 6) (lv' := [(1, .int 6), (0, .ref a0)]) hx hb dX5_hasFound_20 hl (k := 0) rfl (by decide +kernel) (by decide) rfl (fun ls hl => ?_)
  refine lv_goto (tgt := 2) hx hb dX5_hasFound_23 (by decide) ?_
  refine lv_iload_n hx hb dX5_hasFound_2 rfl (lv_at hl 0 rfl) ?_
  refine lv_bipush (v := 8) hx hb dX5_hasFound_3 (by decide) ?_
  refine lv_icmp_ge (tgt := 26) hx hb dX5_hasFound_5 (by decide) (fun c => absurd c (by decide)) (fun _ => ?_)
  refine lv_aload_n hx hb dX5_hasFound_8 rfl (lv_at hl 1 rfl) ?_
  refine z_get (v := .ref a1) hx hb hg hown hK hP i_X5 rfl 0 rfl 2 (by decide) mt75 e0 dX5_hasFound_9 ?_
  refine lv_iload_n hx hb dX5_hasFound_12 rfl (lv_at hl 0 rfl) ?_
  refine z_iald (v := 0) (j := 6) hx hb hK hP 1 rfl rfl (Nat.le_of_ble_eq_true rfl) (Nat.le_of_ble_eq_true rfl) e7 dX5_hasFound_13 ?_
  refine lv_iconst (v := 2) hx hb dX5_hasFound_14 (by decide) ?_
  refine lv_icmp_ne (tgt := 20) hx hb dX5_hasFound_15 (by decide) (fun _ => ?_) (fun c => absurd c (by decide))
  refine lv_iinc (v := 7) (lv' := [(1, .int 7), (0, .ref a0)]) hx hb dX5_hasFound_20 hl (k := 0) rfl (by decide +kernel) (by decide) rfl (fun ls hl => ?_)
  refine lv_goto (tgt := 2) hx hb dX5_hasFound_23 (by decide) ?_
  refine lv_iload_n hx hb dX5_hasFound_2 rfl (lv_at hl 0 rfl) ?_
  refine lv_bipush (v := 8) hx hb dX5_hasFound_3 (by decide) ?_
  refine lv_icmp_ge (tgt := 26) hx hb dX5_hasFound_5 (by decide) (fun c => absurd c (by decide)) (fun _ => ?_)
  refine lv_aload_n hx hb dX5_hasFound_8 rfl (lv_at hl 1 rfl) ?_
  refine z_get (v := .ref a1) hx hb hg hown hK hP i_X5 rfl 0 rfl 2 (by decide) mt75 e0 dX5_hasFound_9 ?_
  refine lv_iload_n hx hb dX5_hasFound_12 rfl (lv_at hl 0 rfl) ?_
  refine z_iald (v := 0) (j := 7) hx hb hK hP 1 rfl rfl (Nat.le_of_ble_eq_true rfl) (Nat.le_of_ble_eq_true rfl) e8 dX5_hasFound_13 ?_
  refine lv_iconst (v := 2) hx hb dX5_hasFound_14 (by decide) ?_
  refine lv_icmp_ne (tgt := 20) hx hb dX5_hasFound_15 (by decide) (fun _ => ?_) (fun c => absurd c (by decide))
  refine lv_iinc (v := 8) (lv' := [(1, .int 8), (0, .ref a0)]) hx hb dX5_hasFound_20 hl (k := 0) rfl (by decide +kernel) (by decide) rfl (fun ls hl => ?_)
  refine lv_goto (tgt := 2) hx hb dX5_hasFound_23 (by decide) ?_
  refine lv_iload_n hx hb dX5_hasFound_2 rfl (lv_at hl 0 rfl) ?_
  refine lv_bipush (v := 8) hx hb dX5_hasFound_3 (by decide) ?_
  refine lv_icmp_ge (tgt := 26) hx hb dX5_hasFound_5 (by decide) (fun _ => ?_) (fun c => absurd (by decide) c)
  refine lv_iconst (v := 0) hx hb dX5_hasFound_26 (by decide) ?_
  have hP9 : va_P K.1 classes [(a0, zO 4 6 g0), (a1, zI K 8 f1)] H := hP.sub [0, 1] rfl
  have hD9 : va_D A [(a0, zO 4 6 g0), (a1, zI K 8 f1)] := hD.sub [0, 1] (by decide) rfl
  exact z_zret hx hb hr rfl (fun _ => 0) rfl hP9 hD9 hS (Nat.le_of_ble_eq_true rfl) (Nat.le_of_ble_eq_true rfl) hlocks dX5_hasFound_27
set_option maxHeartbeats 4000000 in
set_option maxRecDepth 100000 in
theorem cX7_init_1 (l : Launch) (K : zK) (sz : Nat) (a0 : Nat) (g0 : Nat → Value) : Met l yX7_init (Cond.code yX7_init cX7_init 1 none :: WG) { frames := 1, cells := 3, slots := 4200, locals := 12 } (zPre K [(a0, zO 6 3 g0)] sz [.ref a0]) (va_Qv (fun _ : Nat → Nat => True) (zB K (va_A [(a0, zO 6 3 g0)] sz) (fun u : Nat → Nat => [(a0, zO 6 3 (va_up (va_up (va_up g0 0 (.ref (u 0))) 1 (.ref (u 1))) 2 (.ref (u 2)))), ((u 0), zJ K 1400 (fun _ => 0)), ((u 1), zJ K 1400 (fun _ => 0)), ((u 2), zJ K 1400 (fun _ => 0))])) (va_A [(a0, zO 6 3 g0)] sz)) 3 4200 (va_A [(a0, zO 6 3 g0)] sz) := by
  refine z_met (Qc := fun A => (va_Qv (fun _ : Nat → Nat => True) (zB K A (fun u : Nat → Nat => [(a0, zO 6 3 (va_up (va_up (va_up g0 0 (.ref (u 0))) 1 (.ref (u 1))) 2 (.ref (u 2)))), ((u 0), zJ K 1400 (fun _ => 0)), ((u 1), zJ K 1400 (fun _ => 0)), ((u 2), zJ K 1400 (fun _ => 0))])) A)) (by decide +kernel) (Nat.le_of_ble_eq_true rfl) ?_
  intro p e s m args below meth c A ls H hx hb hr hg hown hlocks hml hin hK hP hD hA hS hZ hl
  have hown : s.vm.findClass RX7 = some m.cls := hown
  have hl : lv_has ls 1 [(0, .ref a0)] := hl
  refine lv_aload_n hx hb dX7_init_0 rfl (lv_at hl 0 rfl) ?_
  refine W.objInit hx hb hown (hg _ mt937) (hg _ mt29) (hg _ mt30o) rfl (by rw [hml]; exact hl.1) rfl dX7_init_1 (Nat.le_of_ble_eq_true rfl) (Nat.le_of_ble_eq_true rfl) ?_
  refine W.eq (g2 := F0 m 4 ls []) rfl ?_
  refine lv_aload_n hx hb dX7_init_4 rfl (lv_at hl 0 rfl) ?_
  refine lv_sipush (v := 1400) hx hb dX7_init_5 (by decide) ?_
  refine z_newj hx hb (hg _ mt92) hK hP hD hS hA (N' := 1400) rfl (Nat.le_of_ble_eq_true rfl) 1 1400 rfl rfl (Nat.le_of_ble_eq_true rfl) (Nat.le_of_ble_eq_true rfl) dX7_init_8 (fun q1 H hP hD hS => ?_)
  have hP : va_P K.1 classes [(a0, zO 6 3 g0), (q1, zJ K 1400 (fun _ => 0))] H := hP
  have hD : va_D A [(a0, zO 6 3 g0), (q1, zJ K 1400 (fun _ => 0))] := hD
  refine z_putF hx hb hg hown hK hP hD hS i_X7 rfl tyX7_ok nmX7 hin 0 rfl 0 (by decide) mt938 rfl rfl rfl rfl dX7_init_10 (fun gg2 H locs y3 hP hD hS => ?_)
  have hP : va_P K.1 classes [(a0, zO 6 3 gg2), (q1, zJ K 1400 (fun _ => 0))] H := hP
  have hD : va_D A [(a0, zO 6 3 gg2), (q1, zJ K 1400 (fun _ => 0))] := hD
  refine lv_aload_n hx hb dX7_init_13 rfl (lv_at hl 0 rfl) ?_
  refine lv_sipush (v := 1400) hx hb dX7_init_14 (by decide) ?_
  refine z_newj hx hb (hg _ mt92) hK hP hD hS hA (N' := 1400) rfl (Nat.le_of_ble_eq_true rfl) 2 2800 rfl rfl (Nat.le_of_ble_eq_true rfl) (Nat.le_of_ble_eq_true rfl) dX7_init_17 (fun q4 H hP hD hS => ?_)
  have hP : va_P K.1 classes [(a0, zO 6 3 gg2), (q1, zJ K 1400 (fun _ => 0)), (q4, zJ K 1400 (fun _ => 0))] H := hP
  have hD : va_D A [(a0, zO 6 3 gg2), (q1, zJ K 1400 (fun _ => 0)), (q4, zJ K 1400 (fun _ => 0))] := hD
  refine z_putF hx hb hg hown hK hP hD hS i_X7 rfl tyX7_ok nmX7 hin 0 rfl 1 (by decide) mt940 rfl rfl rfl rfl dX7_init_19 (fun gg5 H locs y6 hP hD hS => ?_)
  have hP : va_P K.1 classes [(a0, zO 6 3 gg5), (q1, zJ K 1400 (fun _ => 0)), (q4, zJ K 1400 (fun _ => 0))] H := hP
  have hD : va_D A [(a0, zO 6 3 gg5), (q1, zJ K 1400 (fun _ => 0)), (q4, zJ K 1400 (fun _ => 0))] := hD
  refine lv_aload_n hx hb dX7_init_22 rfl (lv_at hl 0 rfl) ?_
  refine lv_sipush (v := 1400) hx hb dX7_init_23 (by decide) ?_
  refine z_newj hx hb (hg _ mt92) hK hP hD hS hA (N' := 1400) rfl (Nat.le_of_ble_eq_true rfl) 3 4200 rfl rfl (Nat.le_of_ble_eq_true rfl) (Nat.le_of_ble_eq_true rfl) dX7_init_26 (fun q7 H hP hD hS => ?_)
  have hP : va_P K.1 classes [(a0, zO 6 3 gg5), (q1, zJ K 1400 (fun _ => 0)), (q4, zJ K 1400 (fun _ => 0)), (q7, zJ K 1400 (fun _ => 0))] H := hP
  have hD : va_D A [(a0, zO 6 3 gg5), (q1, zJ K 1400 (fun _ => 0)), (q4, zJ K 1400 (fun _ => 0)), (q7, zJ K 1400 (fun _ => 0))] := hD
  refine z_putF hx hb hg hown hK hP hD hS i_X7 rfl tyX7_ok nmX7 hin 0 rfl 2 (by decide) mt942 rfl rfl rfl rfl dX7_init_28 (fun gg8 H locs y9 hP hD hS => ?_)
  have hP : va_P K.1 classes [(a0, zO 6 3 gg8), (q1, zJ K 1400 (fun _ => 0)), (q4, zJ K 1400 (fun _ => 0)), (q7, zJ K 1400 (fun _ => 0))] H := hP
  have hD : va_D A [(a0, zO 6 3 gg8), (q1, zJ K 1400 (fun _ => 0)), (q4, zJ K 1400 (fun _ => 0)), (q7, zJ K 1400 (fun _ => 0))] := hD
  subst y9
  subst y6
  subst y3
  have hP9 : va_P K.1 classes [(a0, zO 6 3 (va_up (va_up (va_up g0 0 (.ref q1)) 1 (.ref q4)) 2 (.ref q7))), (q1, zJ K 1400 (fun _ => 0)), (q4, zJ K 1400 (fun _ => 0)), (q7, zJ K 1400 (fun _ => 0))] H := hP.sub [0, 1, 2, 3] rfl
  have hD9 : va_D A [(a0, zO 6 3 (va_up (va_up (va_up g0 0 (.ref q1)) 1 (.ref q4)) 2 (.ref q7))), (q1, zJ K 1400 (fun _ => 0)), (q4, zJ K 1400 (fun _ => 0)), (q7, zJ K 1400 (fun _ => 0))] := hD.sub [0, 1, 2, 3] (by decide) rfl
  exact z_vret hx hb hr (fun k => ([q1, q4, q7] : List Nat).getD k 0) trivial hP9 hD9 hS (Nat.le_of_ble_eq_true rfl) (Nat.le_of_ble_eq_true rfl) hlocks dX7_init_31
set_option maxHeartbeats 4000000 in
set_option maxRecDepth 100000 in
theorem cX3_makeRow_1 (l : Launch) (K : zK) (sz : Nat) (a0 : Nat) (a1 : Nat) (g0 : Nat → Value) (f1 : Nat → Option Nat) (e0 : g0 3 = (.int 0)) (e1 : g0 2 = (.ref a1)) : Met l yX3_makeRow (Cond.code yX3_makeRow cX3_makeRow 1 none :: WG) { frames := 2, cells := 4, slots := 4203, locals := 32 } (zPre K [(a0, zO 3 7 g0), (a1, zR K 512 f1)] sz [.ref a0]) (va_Qv (fun _ : Nat → Nat => True) (zB K (va_A [(a0, zO 3 7 g0), (a1, zR K 512 f1)] sz) (fun u : Nat → Nat => [(a0, zO 3 7 (va_up g0 3 (.int 1))), (a1, zR K 512 (va_up f1 0 (some (u 0)))), ((u 0), zO 6 3 (va_up (va_up (va_up (fun k => defaultValue (tyX7 k)) 0 (.ref (u 1))) 1 (.ref (u 2))) 2 (.ref (u 3)))), ((u 1), zJ K 1400 (fun _ => 0)), ((u 2), zJ K 1400 (fun _ => 0)), ((u 3), zJ K 1400 (fun _ => 0))])) (va_A [(a0, zO 3 7 g0), (a1, zR K 512 f1)] sz)) 4 4203 (va_A [(a0, zO 3 7 g0), (a1, zR K 512 f1)] sz) := by
  refine z_met (Qc := fun A => (va_Qv (fun _ : Nat → Nat => True) (zB K A (fun u : Nat → Nat => [(a0, zO 3 7 (va_up g0 3 (.int 1))), (a1, zR K 512 (va_up f1 0 (some (u 0)))), ((u 0), zO 6 3 (va_up (va_up (va_up (fun k => defaultValue (tyX7 k)) 0 (.ref (u 1))) 1 (.ref (u 2))) 2 (.ref (u 3)))), ((u 1), zJ K 1400 (fun _ => 0)), ((u 2), zJ K 1400 (fun _ => 0)), ((u 3), zJ K 1400 (fun _ => 0))])) A)) (by decide +kernel) (Nat.le_of_ble_eq_true rfl) ?_
  intro p e s m args below meth c A ls H hx hb hr hg hown hlocks hml hin hK hP hD hA hS hZ hl
  have hown : s.vm.findClass RX3 = some m.cls := hown
  have hl : lv_has ls 1 [(0, .ref a0)] := hl
  refine lv_aload_n hx hb dX3_makeRow_0 rfl (lv_at hl 0 rfl) ?_
  refine z_get (v := .int 0) hx hb hg hown hK hP i_X3 rfl 0 rfl 3 (by decide) mt205 e0 dX3_makeRow_1 ?_
  refine lv_aload_n hx hb dX3_makeRow_4 rfl (lv_at hl 0 rfl) ?_
  refine z_get (v := .ref a1) hx hb hg hown hK hP i_X3 rfl 0 rfl 2 (by decide) mt204 e1 dX3_makeRow_5 ?_
  refine z_lenr (v := 512) hx hb hK hP 1 rfl (by decide +kernel) dX3_makeRow_8 ?_
  refine lv_icmp_ge (tgt := 41) hx hb dX3_makeRow_9 (by decide) (fun c => absurd c (by decide)) (fun _ => ?_)
  refine lv_aload_n hx hb dX3_makeRow_12 rfl (lv_at hl 0 rfl) ?_
  refine z_get (v := .ref a1) hx hb hg hown hK hP i_X3 rfl 0 rfl 2 (by decide) mt204 e1 dX3_makeRow_13 ?_
  refine lv_aload_n hx hb dX3_makeRow_16 rfl (lv_at hl 0 rfl) ?_
  refine z_get (v := .int 0) hx hb hg hown hK hP i_X3 rfl 0 rfl 3 (by decide) mt205 e0 dX3_makeRow_17 ?_
  refine z_new (ci := 6) hx hb hg hown hK hP hD hS hA i_X7 rfl tyX7_ok mt200 mt933 mt21 1 3 rfl rfl (Nat.le_of_ble_eq_true rfl) (Nat.le_of_ble_eq_true rfl) dX3_makeRow_20 (fun q1 H hP hD hS => ?_)
  have hP : va_P K.1 classes [(a0, zO 3 7 g0), (a1, zR K 512 f1), (q1, zO 6 3 (fun k => defaultValue (tyX7 k)))] H := hP
  have hD : va_D A [(a0, zO 3 7 g0), (a1, zR K 512 f1), (q1, zO 6 3 (fun k => defaultValue (tyX7 k)))] := hD
  refine lv_dup hx hb dX3_makeRow_23 rfl ?_
  refine z_callv [(q1, zO 6 3 (fun k => defaultValue (tyX7 k)))] [(a0, zO 3 7 g0), (a1, zR K 512 f1)] [2] [0, 1] hP hD hS hA rfl rfl (by decide) (by decide) (by decide +kernel) 4 4203 rfl rfl (fun hPc hDc hF => z_runI (As := []) (rest := [.ref q1, .int 0, .ref a1]) ⟨hx, hb, hml, hown, hg⟩ (cX7_init_1 l K H.size q1 (fun k => defaultValue (tyX7 k))) mt936 mt21 mt934 mt935 rfl hd_X7_init rfl rfl ⟨(Nat.le_of_ble_eq_true rfl), (Nat.le_of_ble_eq_true rfl)⟩ hK hS hZ hPc hDc hF rfl hl.1 rfl (Nat.le_of_ble_eq_true rfl) dX3_makeRow_24 ⟨(Nat.le_of_ble_eq_true rfl), (Nat.le_of_ble_eq_true rfl)⟩) (fun u2 H locs w3 hP hD hS => ?_)
  have hP : va_P K.1 classes [(a0, zO 3 7 g0), (a1, zR K 512 f1), (q1, zO 6 3 (va_up (va_up (va_up (fun k => defaultValue (tyX7 k)) 0 (.ref (u2 0))) 1 (.ref (u2 1))) 2 (.ref (u2 2)))), ((u2 0), zJ K 1400 (fun _ => 0)), ((u2 1), zJ K 1400 (fun _ => 0)), ((u2 2), zJ K 1400 (fun _ => 0))] H := hP
  have hD : va_D A [(a0, zO 3 7 g0), (a1, zR K 512 f1), (q1, zO 6 3 (va_up (va_up (va_up (fun k => defaultValue (tyX7 k)) 0 (.ref (u2 0))) 1 (.ref (u2 1))) 2 (.ref (u2 2)))), ((u2 0), zJ K 1400 (fun _ => 0)), ((u2 1), zJ K 1400 (fun _ => 0)), ((u2 2), zJ K 1400 (fun _ => 0))] := hD
  obtain ⟨gg5, y6⟩ : ∃ z, z = ((va_up (va_up (va_up (fun k => defaultValue (tyX7 k)) 0 (.ref (u2 0))) 1 (.ref (u2 1))) 2 (.ref (u2 2))) : Nat → Value) := ⟨_, rfl⟩
  rw [← y6] at hP hD
  refine z_aast (C := RX7) (T := TX7) (N := 3) (ci := 6) (j := 0) hx hb hK hP hD hS 1 2 rfl rfl rfl (Nat.le_of_ble_eq_true rfl) (Nat.le_of_ble_eq_true rfl) dX3_makeRow_27 (fun ff7 H locs y8 hP hD hS => ?_)
  have hP : va_P K.1 classes [(a0, zO 3 7 g0), (a1, zR K 512 ff7), (q1, zO 6 3 gg5), ((u2 0), zJ K 1400 (fun _ => 0)), ((u2 1), zJ K 1400 (fun _ => 0)), ((u2 2), zJ K 1400 (fun _ => 0))] H := hP
  have hD : va_D A [(a0, zO 3 7 g0), (a1, zR K 512 ff7), (q1, zO 6 3 gg5), ((u2 0), zJ K 1400 (fun _ => 0)), ((u2 1), zJ K 1400 (fun _ => 0)), ((u2 2), zJ K 1400 (fun _ => 0))] := hD
  refine lv_aload_n hx hb dX3_makeRow_28 rfl (lv_at hl 0 rfl) ?_
  refine lv_dup hx hb dX3_makeRow_29 rfl ?_
  refine z_get (v := .int 0) hx hb hg hown hK hP i_X3 rfl 0 rfl 3 (by decide) mt205 e0 dX3_makeRow_30 ?_
  refine lv_iconst (v := 1) hx hb dX3_makeRow_33 (by decide) ?_
  refine lv_iadd hx hb dX3_makeRow_34 ?_
  refine z_cst (v := 1) (by decide +kernel) ?_
  refine z_put hx hb hg hown hK hP hD hS i_X3 rfl tyX3_ok nmX3 0 rfl 3 (by decide) mt205 rfl rfl rfl dX3_makeRow_35 (fun gg9 H locs y10 hP hD hS => ?_)
  have hP : va_P K.1 classes [(a0, zO 3 7 gg9), (a1, zR K 512 ff7), (q1, zO 6 3 gg5), ((u2 0), zJ K 1400 (fun _ => 0)), ((u2 1), zJ K 1400 (fun _ => 0)), ((u2 2), zJ K 1400 (fun _ => 0))] H := hP
  have hD : va_D A [(a0, zO 3 7 gg9), (a1, zR K 512 ff7), (q1, zO 6 3 gg5), ((u2 0), zJ K 1400 (fun _ => 0)), ((u2 1), zJ K 1400 (fun _ => 0)), ((u2 2), zJ K 1400 (fun _ => 0))] := hD
  refine lv_goto (tgt := 60) hx hb dX3_makeRow_38 (by decide) ?_
  subst y10
  subst y8
  subst y6
  have hP9 : va_P K.1 classes [(a0, zO 3 7 (va_up g0 3 (.int 1))), (a1, zR K 512 (va_up f1 0 (some q1))), (q1, zO 6 3 (va_up (va_up (va_up (fun k => defaultValue (tyX7 k)) 0 (.ref (u2 0))) 1 (.ref (u2 1))) 2 (.ref (u2 2)))), ((u2 0), zJ K 1400 (fun _ => 0)), ((u2 1), zJ K 1400 (fun _ => 0)), ((u2 2), zJ K 1400 (fun _ => 0))] H := hP.sub [0, 1, 2, 3, 4, 5] rfl
  have hD9 : va_D A [(a0, zO 3 7 (va_up g0 3 (.int 1))), (a1, zR K 512 (va_up f1 0 (some q1))), (q1, zO 6 3 (va_up (va_up (va_up (fun k => defaultValue (tyX7 k)) 0 (.ref (u2 0))) 1 (.ref (u2 1))) 2 (.ref (u2 2)))), ((u2 0), zJ K 1400 (fun _ => 0)), ((u2 1), zJ K 1400 (fun _ => 0)), ((u2 2), zJ K 1400 (fun _ => 0))] := hD.sub [0, 1, 2, 3, 4, 5] (by decide) rfl
  exact z_vret hx hb hr (fun k => ([q1, (u2 0), (u2 1), (u2 2)] : List Nat).getD k 0) trivial hP9 hD9 hS (Nat.le_of_ble_eq_true rfl) (Nat.le_of_ble_eq_true rfl) hlocks dX3_makeRow_60
set_option maxHeartbeats 4000000 in
set_option maxRecDepth 100000 in
theorem cX3_prepare_1 (l : Launch) (K : zK) (sz : Nat) (a0 : Nat) (a1 : Nat) (a2 : Nat) (a3 : Nat) (a4 : Nat) (a5 : Nat) (g0 : Nat → Value) (g1 : Nat → Value) (f2 : Nat → Int32) (g3 : Nat → Value) (f4 : Nat → Int32) (f5 : Nat → Option Nat) (e0 : g0 6 = (.int 0)) (e1 : g0 4 = (.int 0)) (e2 : g0 0 = (.ref a1)) (e3 : g1 2 = (.ref a2)) (e4 : f2 0 = 0) (e5 : f2 1 = 0) (e6 : f2 2 = 0) (e7 : f2 3 = 0) (e8 : f2 4 = 0) (e9 : f2 5 = 0) (e10 : f2 6 = 0) (e11 : f2 7 = 0) (e12 : g0 1 = (.ref a3)) (e13 : g3 2 = (.ref a4)) (e14 : f4 0 = 0) (e15 : f4 1 = 0) (e16 : f4 2 = 0) (e17 : f4 3 = 0) (e18 : f4 4 = 0) (e19 : f4 5 = 0) (e20 : f4 6 = 0) (e21 : f4 7 = 0) (e22 : g0 3 = (.int 0)) (e23 : g0 2 = (.ref a5)) : Met l yX3_prepare (Cond.code yX3_prepare cX3_prepare 1 none :: WG) { frames := 3, cells := 4, slots := 4203, locals := 52 } (zPre K [(a0, zO 3 7 g0), (a1, zO 4 6 g1), (a2, zI K 8 f2), (a3, zO 4 6 g3), (a4, zI K 8 f4), (a5, zR K 512 f5)] sz [.ref a0]) (va_Qv (fun _ : Nat → Nat => True) (zB K (va_A [(a0, zO 3 7 g0), (a1, zO 4 6 g1), (a2, zI K 8 f2), (a3, zO 4 6 g3), (a4, zI K 8 f4), (a5, zR K 512 f5)] sz) (fun u : Nat → Nat => [(a0, zO 3 7 (va_up (va_up (va_up (va_up (va_up g0 5 (.int 0)) 5 (.int 0)) 3 (.int 1)) 4 (.int 0)) 6 (.int 0))), (a1, zO 4 6 g1), (a2, zI K 8 f2), (a3, zO 4 6 g3), (a4, zI K 8 f4), (a5, zR K 512 (va_up f5 0 (some (u 0)))), ((u 0), zO 6 3 (va_up (va_up (va_up (fun k => defaultValue (tyX7 k)) 0 (.ref (u 1))) 1 (.ref (u 2))) 2 (.ref (u 3)))), ((u 1), zJ K 1400 (fun _ => 0)), ((u 2), zJ K 1400 (fun _ => 0)), ((u 3), zJ K 1400 (fun _ => 0))])) (va_A [(a0, zO 3 7 g0), (a1, zO 4 6 g1), (a2, zI K 8 f2), (a3, zO 4 6 g3), (a4, zI K 8 f4), (a5, zR K 512 f5)] sz)) 4 4203 (va_A [(a0, zO 3 7 g0), (a1, zO 4 6 g1), (a2, zI K 8 f2), (a3, zO 4 6 g3), (a4, zI K 8 f4), (a5, zR K 512 f5)] sz) := by
  refine z_met (Qc := fun A => (va_Qv (fun _ : Nat → Nat => True) (zB K A (fun u : Nat → Nat => [(a0, zO 3 7 (va_up (va_up (va_up (va_up (va_up g0 5 (.int 0)) 5 (.int 0)) 3 (.int 1)) 4 (.int 0)) 6 (.int 0))), (a1, zO 4 6 g1), (a2, zI K 8 f2), (a3, zO 4 6 g3), (a4, zI K 8 f4), (a5, zR K 512 (va_up f5 0 (some (u 0)))), ((u 0), zO 6 3 (va_up (va_up (va_up (fun k => defaultValue (tyX7 k)) 0 (.ref (u 1))) 1 (.ref (u 2))) 2 (.ref (u 3)))), ((u 1), zJ K 1400 (fun _ => 0)), ((u 2), zJ K 1400 (fun _ => 0)), ((u 3), zJ K 1400 (fun _ => 0))])) A)) (by decide +kernel) (Nat.le_of_ble_eq_true rfl) ?_
  intro p e s m args below meth c A ls H hx hb hr hg hown hlocks hml hin hK hP hD hA hS hZ hl
  have hown : s.vm.findClass RX3 = some m.cls := hown
  have hl : lv_has ls 1 [(0, .ref a0)] := hl
  refine lv_aload_n hx hb dX3_prepare_0 rfl (lv_at hl 0 rfl) ?_
  refine z_get (v := .int 0) hx hb hg hown hK hP i_X3 rfl 0 rfl 6 (by decide) mt208 e0 dX3_prepare_1 ?_
  refine lv_if_ne (tgt := 15) hx hb dX3_prepare_4 (by decide) (fun c => absurd (by decide) c) (fun _ => ?_)
  refine lv_aload_n hx hb dX3_prepare_7 rfl (lv_at hl 0 rfl) ?_
  refine lv_aload_n hx hb dX3_prepare_8 rfl (lv_at hl 0 rfl) ?_
  refine z_get (v := .int 0) hx hb hg hown hK hP i_X3 rfl 0 rfl 4 (by decide) mt206 e1 dX3_prepare_9 ?_
  refine z_put hx hb hg hown hK hP hD hS i_X3 rfl tyX3_ok nmX3 0 rfl 5 (by decide) mt207 rfl rfl rfl dX3_prepare_12 (fun gg1 H locs y2 hP hD hS => ?_)
  have hP : va_P K.1 classes [(a0, zO 3 7 gg1), (a1, zO 4 6 g1), (a2, zI K 8 f2), (a3, zO 4 6 g3), (a4, zI K 8 f4), (a5, zR K 512 f5)] H := hP
  have hD : va_D A [(a0, zO 3 7 gg1), (a1, zO 4 6 g1), (a2, zI K 8 f2), (a3, zO 4 6 g3), (a4, zI K 8 f4), (a5, zR K 512 f5)] := hD
  refine lv_aload_n hx hb dX3_prepare_15 rfl (lv_at hl 0 rfl) ?_
  refine z_get (v := .ref a1) hx hb hg hown hK hP i_X3 rfl 0 rfl 0 (by decide) mt202 (zu_of y2 (zu_ne (by decide) e2)) dX3_prepare_16 ?_
  refine z_calli [(a1, zO 4 6 g1), (a2, zI K 8 f2)] [(a0, zO 3 7 gg1), (a3, zO 4 6 g3), (a4, zI K 8 f4), (a5, zR K 512 f5)] [1, 2] [0, 3, 4, 5] hP hD hS hA rfl rfl (by decide) (by decide) (by decide +kernel) 0 0 rfl rfl (fun hPc hDc hF => z_runV (As := []) (rest := []) ⟨hx, hb, hml, hown, hg⟩ (cX5_hasFound_1 l K H.size a1 a2 g1 f2 e3 e4 e5 e6 e7 e8 e9 e10 e11) kV_RX3_38 hd_X5_hasFound rfl rfl ⟨(Nat.le_of_ble_eq_true rfl), (Nat.le_of_ble_eq_true rfl)⟩ hK hS hZ hPc hDc hF 0 rfl rfl rfl hl.1 rfl (Nat.le_of_ble_eq_true rfl) dX3_prepare_19 ⟨(Nat.le_of_ble_eq_true rfl), (Nat.le_of_ble_eq_true rfl)⟩) (fun r5 u3 H locs w4 hP hD hS => ?_)
  subst w4
  have hP : va_P K.1 classes [(a0, zO 3 7 gg1), (a3, zO 4 6 g3), (a4, zI K 8 f4), (a5, zR K 512 f5), (a1, zO 4 6 g1), (a2, zI K 8 f2)] H := hP
  have hD : va_D A [(a0, zO 3 7 gg1), (a3, zO 4 6 g3), (a4, zI K 8 f4), (a5, zR K 512 f5), (a1, zO 4 6 g1), (a2, zI K 8 f2)] := hD
  refine lv_if_ne (tgt := 40) hx hb dX3_prepare_22 (by decide) (fun c => absurd (by decide) c) (fun _ => ?_)
  refine lv_aload_n hx hb dX3_prepare_25 rfl (lv_at hl 0 rfl) ?_
  refine z_get (v := .ref a3) hx hb hg hown hK hP i_X3 rfl 0 rfl 1 (by decide) mt203 (zu_of y2 (zu_ne (by decide) e12)) dX3_prepare_26 ?_
  refine z_calli [(a3, zO 4 6 g3), (a4, zI K 8 f4)] [(a0, zO 3 7 gg1), (a5, zR K 512 f5), (a1, zO 4 6 g1), (a2, zI K 8 f2)] [1, 2] [0, 3, 4, 5] hP hD hS hA rfl rfl (by decide) (by decide) (by decide +kernel) 0 0 rfl rfl (fun hPc hDc hF => z_runV (As := []) (rest := []) ⟨hx, hb, hml, hown, hg⟩ (cX5_hasFound_1 l K H.size a3 a4 g3 f4 e13 e14 e15 e16 e17 e18 e19 e20 e21) kV_RX3_38 hd_X5_hasFound rfl rfl ⟨(Nat.le_of_ble_eq_true rfl), (Nat.le_of_ble_eq_true rfl)⟩ hK hS hZ hPc hDc hF 0 rfl rfl rfl hl.1 rfl (Nat.le_of_ble_eq_true rfl) dX3_prepare_29 ⟨(Nat.le_of_ble_eq_true rfl), (Nat.le_of_ble_eq_true rfl)⟩) (fun r8 u6 H locs w7 hP hD hS => ?_)
  subst w7
  have hP : va_P K.1 classes [(a0, zO 3 7 gg1), (a5, zR K 512 f5), (a1, zO 4 6 g1), (a2, zI K 8 f2), (a3, zO 4 6 g3), (a4, zI K 8 f4)] H := hP
  have hD : va_D A [(a0, zO 3 7 gg1), (a5, zR K 512 f5), (a1, zO 4 6 g1), (a2, zI K 8 f2), (a3, zO 4 6 g3), (a4, zI K 8 f4)] := hD
  refine lv_if_ne (tgt := 40) hx hb dX3_prepare_32 (by decide) (fun c => absurd (by decide) c) (fun _ => ?_)
  refine lv_aload_n hx hb dX3_prepare_35 rfl (lv_at hl 0 rfl) ?_
  refine lv_iconst (v := 0) hx hb dX3_prepare_36 (by decide) ?_
  refine z_put hx hb hg hown hK hP hD hS i_X3 rfl tyX3_ok nmX3 0 rfl 5 (by decide) mt207 rfl rfl rfl dX3_prepare_37 (fun gg9 H locs y10 hP hD hS => ?_)
  have hP : va_P K.1 classes [(a0, zO 3 7 gg9), (a5, zR K 512 f5), (a1, zO 4 6 g1), (a2, zI K 8 f2), (a3, zO 4 6 g3), (a4, zI K 8 f4)] H := hP
  have hD : va_D A [(a0, zO 3 7 gg9), (a5, zR K 512 f5), (a1, zO 4 6 g1), (a2, zI K 8 f2), (a3, zO 4 6 g3), (a4, zI K 8 f4)] := hD
  refine lv_aload_n hx hb dX3_prepare_40 rfl (lv_at hl 0 rfl) ?_
  refine z_get (v := .int 0) hx hb hg hown hK hP i_X3 rfl 0 rfl 3 (by decide) mt205 (zu_of y10 (zu_ne (by decide) (zu_of y2 (zu_ne (by decide) e22)))) dX3_prepare_41 ?_
  refine lv_sipush (v := 1400) hx hb dX3_prepare_44 (by decide) ?_
  refine lv_imul hx hb dX3_prepare_47 ?_
  refine z_cst (v := 0) (by decide +kernel) ?_
  refine lv_aload_n hx hb dX3_prepare_48 rfl (lv_at hl 0 rfl) ?_
  refine z_get (v := .int 0) hx hb hg hown hK hP i_X3 rfl 0 rfl 5 (by decide) mt207 (zu_of y10 zu_eq) dX3_prepare_49 ?_
  refine lv_isub hx hb dX3_prepare_52 ?_
  refine z_cst (v := 0) (by decide +kernel) ?_
  refine lv_sipush (v := 1400) hx hb dX3_prepare_53 (by decide) ?_
  refine lv_icmp_ge (tgt := 63) hx hb dX3_prepare_56 (by decide) (fun c => absurd c (by decide)) (fun _ => ?_)
  refine lv_aload_n hx hb dX3_prepare_59 rfl (lv_at hl 0 rfl) ?_
  refine z_callv [(a0, zO 3 7 gg9), (a5, zR K 512 f5)] [(a1, zO 4 6 g1), (a2, zI K 8 f2), (a3, zO 4 6 g3), (a4, zI K 8 f4)] [0, 1] [2, 3, 4, 5] hP hD hS hA rfl rfl (by decide) (by decide) (by decide +kernel) 4 4203 rfl rfl (fun hPc hDc hF => z_runV (As := []) (rest := []) ⟨hx, hb, hml, hown, hg⟩ (cX3_makeRow_1 l K H.size a0 a5 gg9 f5 (zu_of y10 (zu_ne (by decide) (zu_of y2 (zu_ne (by decide) e22)))) (zu_of y10 (zu_ne (by decide) (zu_of y2 (zu_ne (by decide) e23))))) kV_RX3_44 hd_X3_makeRow rfl rfl ⟨(Nat.le_of_ble_eq_true rfl), (Nat.le_of_ble_eq_true rfl)⟩ hK hS hZ hPc hDc hF 0 rfl rfl rfl hl.1 rfl (Nat.le_of_ble_eq_true rfl) dX3_prepare_60 ⟨(Nat.le_of_ble_eq_true rfl), (Nat.le_of_ble_eq_true rfl)⟩) (fun u11 H locs w12 hP hD hS => ?_)
  have hP : va_P K.1 classes [(a1, zO 4 6 g1), (a2, zI K 8 f2), (a3, zO 4 6 g3), (a4, zI K 8 f4), (a0, zO 3 7 (va_up gg9 3 (.int 1))), (a5, zR K 512 (va_up f5 0 (some (u11 0)))), ((u11 0), zO 6 3 (va_up (va_up (va_up (fun k => defaultValue (tyX7 k)) 0 (.ref (u11 1))) 1 (.ref (u11 2))) 2 (.ref (u11 3)))), ((u11 1), zJ K 1400 (fun _ => 0)), ((u11 2), zJ K 1400 (fun _ => 0)), ((u11 3), zJ K 1400 (fun _ => 0))] H := hP
  have hD : va_D A [(a1, zO 4 6 g1), (a2, zI K 8 f2), (a3, zO 4 6 g3), (a4, zI K 8 f4), (a0, zO 3 7 (va_up gg9 3 (.int 1))), (a5, zR K 512 (va_up f5 0 (some (u11 0)))), ((u11 0), zO 6 3 (va_up (va_up (va_up (fun k => defaultValue (tyX7 k)) 0 (.ref (u11 1))) 1 (.ref (u11 2))) 2 (.ref (u11 3)))), ((u11 1), zJ K 1400 (fun _ => 0)), ((u11 2), zJ K 1400 (fun _ => 0)), ((u11 3), zJ K 1400 (fun _ => 0))] := hD
  obtain ⟨gg14, y15⟩ : ∃ z, z = ((va_up (va_up (va_up (fun k => defaultValue (tyX7 k)) 0 (.ref (u11 1))) 1 (.ref (u11 2))) 2 (.ref (u11 3))) : Nat → Value) := ⟨_, rfl⟩
  rw [← y15] at hP hD
  refine lv_aload_n hx hb dX3_prepare_63 rfl (lv_at hl 0 rfl) ?_
  refine lv_aload_n hx hb dX3_prepare_64 rfl (lv_at hl 0 rfl) ?_
  refine z_get (v := .int 0) hx hb hg hown hK hP i_X3 rfl 4 rfl 5 (by decide) mt207 (zu_ne (by decide) (zu_of y10 zu_eq)) dX3_prepare_65 ?_
  refine z_put hx hb hg hown hK hP hD hS i_X3 rfl tyX3_ok nmX3 4 rfl 4 (by decide) mt206 rfl rfl rfl dX3_prepare_68 (fun gg16 H locs y17 hP hD hS => ?_)
  have hP : va_P K.1 classes [(a1, zO 4 6 g1), (a2, zI K 8 f2), (a3, zO 4 6 g3), (a4, zI K 8 f4), (a0, zO 3 7 gg16), (a5, zR K 512 (va_up f5 0 (some (u11 0)))), ((u11 0), zO 6 3 gg14), ((u11 1), zJ K 1400 (fun _ => 0)), ((u11 2), zJ K 1400 (fun _ => 0)), ((u11 3), zJ K 1400 (fun _ => 0))] H := hP
  have hD : va_D A [(a1, zO 4 6 g1), (a2, zI K 8 f2), (a3, zO 4 6 g3), (a4, zI K 8 f4), (a0, zO 3 7 gg16), (a5, zR K 512 (va_up f5 0 (some (u11 0)))), ((u11 0), zO 6 3 gg14), ((u11 1), zJ K 1400 (fun _ => 0)), ((u11 2), zJ K 1400 (fun _ => 0)), ((u11 3), zJ K 1400 (fun _ => 0))] := hD
  refine lv_aload_n hx hb dX3_prepare_71 rfl (lv_at hl 0 rfl) ?_
  refine lv_iconst (v := 0) hx hb dX3_prepare_72 (by decide) ?_
  refine z_put hx hb hg hown hK hP hD hS i_X3 rfl tyX3_ok nmX3 4 rfl 6 (by decide) mt208 rfl rfl rfl dX3_prepare_73 (fun gg18 H locs y19 hP hD hS => ?_)
  have hP : va_P K.1 classes [(a1, zO 4 6 g1), (a2, zI K 8 f2), (a3, zO 4 6 g3), (a4, zI K 8 f4), (a0, zO 3 7 gg18), (a5, zR K 512 (va_up f5 0 (some (u11 0)))), ((u11 0), zO 6 3 gg14), ((u11 1), zJ K 1400 (fun _ => 0)), ((u11 2), zJ K 1400 (fun _ => 0)), ((u11 3), zJ K 1400 (fun _ => 0))] H := hP
  have hD : va_D A [(a1, zO 4 6 g1), (a2, zI K 8 f2), (a3, zO 4 6 g3), (a4, zI K 8 f4), (a0, zO 3 7 gg18), (a5, zR K 512 (va_up f5 0 (some (u11 0)))), ((u11 0), zO 6 3 gg14), ((u11 1), zJ K 1400 (fun _ => 0)), ((u11 2), zJ K 1400 (fun _ => 0)), ((u11 3), zJ K 1400 (fun _ => 0))] := hD
  subst y19
  subst y17
  subst y15
  subst y10
  subst y2
  have hP9 : va_P K.1 classes [(a0, zO 3 7 (va_up (va_up (va_up (va_up (va_up g0 5 (.int 0)) 5 (.int 0)) 3 (.int 1)) 4 (.int 0)) 6 (.int 0))), (a1, zO 4 6 g1), (a2, zI K 8 f2), (a3, zO 4 6 g3), (a4, zI K 8 f4), (a5, zR K 512 (va_up f5 0 (some (u11 0)))), ((u11 0), zO 6 3 (va_up (va_up (va_up (fun k => defaultValue (tyX7 k)) 0 (.ref (u11 1))) 1 (.ref (u11 2))) 2 (.ref (u11 3)))), ((u11 1), zJ K 1400 (fun _ => 0)), ((u11 2), zJ K 1400 (fun _ => 0)), ((u11 3), zJ K 1400 (fun _ => 0))] H := hP.sub [4, 0, 1, 2, 3, 5, 6, 7, 8, 9] rfl
  have hD9 : va_D A [(a0, zO 3 7 (va_up (va_up (va_up (va_up (va_up g0 5 (.int 0)) 5 (.int 0)) 3 (.int 1)) 4 (.int 0)) 6 (.int 0))), (a1, zO 4 6 g1), (a2, zI K 8 f2), (a3, zO 4 6 g3), (a4, zI K 8 f4), (a5, zR K 512 (va_up f5 0 (some (u11 0)))), ((u11 0), zO 6 3 (va_up (va_up (va_up (fun k => defaultValue (tyX7 k)) 0 (.ref (u11 1))) 1 (.ref (u11 2))) 2 (.ref (u11 3)))), ((u11 1), zJ K 1400 (fun _ => 0)), ((u11 2), zJ K 1400 (fun _ => 0)), ((u11 3), zJ K 1400 (fun _ => 0))] := hD.sub [4, 0, 1, 2, 3, 5, 6, 7, 8, 9] (by decide) rfl
  exact z_vret hx hb hr (fun k => ([(u11 0), (u11 1), (u11 2), (u11 3)] : List Nat).getD k 0) trivial hP9 hD9 hS (Nat.le_of_ble_eq_true rfl) (Nat.le_of_ble_eq_true rfl) hlocks dX3_prepare_76
set_option maxHeartbeats 4000000 in
set_option maxRecDepth 100000 in
theorem cX2_clear_1 (l : Launch) (K : zK) (sz : Nat) (a0 : Nat) (g0 : Nat → Value) : Met l yX2_clear (Cond.code yX2_clear cX2_clear 1 none :: WG) { frames := 0, cells := 0, slots := 0, locals := 0 } (zPre K [(a0, zO 2 6 g0)] sz [.ref a0]) (va_Qv (fun _ : Nat → Nat => True) (zB K (va_A [(a0, zO 2 6 g0)] sz) (fun u : Nat → Nat => [(a0, zO 2 6 (va_up g0 5 (.int 0)))])) (va_A [(a0, zO 2 6 g0)] sz)) 0 0 (va_A [(a0, zO 2 6 g0)] sz) := by
  refine z_met (Qc := fun A => (va_Qv (fun _ : Nat → Nat => True) (zB K A (fun u : Nat → Nat => [(a0, zO 2 6 (va_up g0 5 (.int 0)))])) A)) (by decide +kernel) (Nat.le_of_ble_eq_true rfl) ?_
  intro p e s m args below meth c A ls H hx hb hr hg hown hlocks hml hin hK hP hD hA hS hZ hl
  have hown : s.vm.findClass RX2 = some m.cls := hown
  have hl : lv_has ls 1 [(0, .ref a0)] := hl
  refine lv_aload_n hx hb dX2_clear_0 rfl (lv_at hl 0 rfl) ?_
  refine lv_iconst (v := 0) hx hb dX2_clear_1 (by decide) ?_
  refine z_put hx hb hg hown hK hP hD hS i_X2 rfl tyX2_ok nmX2 0 rfl 5 (by decide) mt235 rfl rfl rfl dX2_clear_2 (fun gg1 H locs y2 hP hD hS => ?_)
  have hP : va_P K.1 classes [(a0, zO 2 6 gg1)] H := hP
  have hD : va_D A [(a0, zO 2 6 gg1)] := hD
  subst y2
  have hP9 : va_P K.1 classes [(a0, zO 2 6 (va_up g0 5 (.int 0)))] H := hP.sub [0] rfl
  have hD9 : va_D A [(a0, zO 2 6 (va_up g0 5 (.int 0)))] := hD.sub [0] (by decide) rfl
  exact z_vret hx hb hr (fun _ => 0) trivial hP9 hD9 hS (Nat.le_of_ble_eq_true rfl) (Nat.le_of_ble_eq_true rfl) hlocks dX2_clear_5
set_option maxHeartbeats 4000000 in
set_option maxRecDepth 100000 in
theorem cJ7_fill_53178_1 (l : Launch) (K : zK) (sz : Nat) (a0 : Nat) (f0 : Nat → Int32) : Met l yJ7_fill_53178 (Cond.code yJ7_fill_53178 cJ7_fill_53178 4 none :: WG) { frames := 0, cells := 0, slots := 0, locals := 0 } (zPre K [(a0, zI K 10 f0)] sz [.ref a0, .int 0]) (va_Qv (fun _ : Nat → Nat => True) (zB K (va_A [(a0, zI K 10 f0)] sz) (fun u : Nat → Nat => [(a0, zI K 10 (va_up (va_up (va_up (va_up (va_up (va_up (va_up (va_up (va_up (va_up f0 0 0) 1 0) 2 0) 3 0) 4 0) 5 0) 6 0) 7 0) 8 0) 9 0))])) (va_A [(a0, zI K 10 f0)] sz)) 0 0 (va_A [(a0, zI K 10 f0)] sz) := by
  refine z_met (Qc := fun A => (va_Qv (fun _ : Nat → Nat => True) (zB K A (fun u : Nat → Nat => [(a0, zI K 10 (va_up (va_up (va_up (va_up (va_up (va_up (va_up (va_up (va_up (va_up f0 0 0) 1 0) 2 0) 3 0) 4 0) 5 0) 6 0) 7 0) 8 0) 9 0))])) A)) (by decide +kernel) (Nat.le_of_ble_eq_true rfl) ?_
  intro p e s m args below meth c A ls H hx hb hr hg hown hlocks hml hin hK hP hD hA hS hZ hl
  have hown : s.vm.findClass "java/util/Arrays" = some m.cls := hown
  have hl : lv_has ls 4 [(0, .ref a0), (1, .int 0)] := hl
  refine lv_iconst (v := 0) hx hb dJ7_fill_53178_0 (by decide) ?_
  refine lv_istore_n (lv' := [(2, .int 0), (0, .ref a0), (1, .int 0)]) hx hb dJ7_fill_53178_1 rfl hl (by decide) rfl (fun ls hl => ?_)
  refine lv_aload_n hx hb dJ7_fill_53178_2 rfl (lv_at hl 1 rfl) ?_
  refine z_leni (v := 10) hx hb hK hP 0 rfl (by decide +kernel) dJ7_fill_53178_3 ?_
  refine lv_istore_n (lv' := [(3, .int 10), (2, .int 0), (0, .ref a0), (1, .int 0)]) hx hb dJ7_fill_53178_4 rfl hl (by decide) rfl (fun ls hl => ?_)
  refine lv_iload_n hx hb dJ7_fill_53178_5 rfl (lv_at hl 1 rfl) ?_
  refine lv_iload_n hx hb dJ7_fill_53178_6 rfl (lv_at hl 0 rfl) ?_
  refine lv_icmp_ge (tgt := 20) hx hb dJ7_fill_53178_7 (by decide) (fun c => absurd c (by decide)) (fun _ => ?_)
  refine lv_aload_n hx hb dJ7_fill_53178_10 rfl (lv_at hl 2 rfl) ?_
  refine lv_iload_n hx hb dJ7_fill_53178_11 rfl (lv_at hl 1 rfl) ?_
  refine lv_iload_n hx hb dJ7_fill_53178_12 rfl (lv_at hl 3 rfl) ?_
  refine z_iast (j := 0) hx hb hK hP hD hS 0 rfl rfl (Nat.le_of_ble_eq_true rfl) (Nat.le_of_ble_eq_true rfl) dJ7_fill_53178_13 (fun ff1 H locs y2 hP hD hS => ?_)
  have hP : va_P K.1 classes [(a0, zI K 10 ff1)] H := hP
  have hD : va_D A [(a0, zI K 10 ff1)] := hD
  refine lv_iinc (v := 1) (lv' := [(2, .int 1), (3, .int 10), (0, .ref a0), (1, .int 0)]) hx hb dJ7_fill_53178_14 hl (k := 1) rfl (by decide +kernel) (by decide) rfl (fun ls hl => ?_)
  refine lv_goto (tgt := 5) hx hb dJ7_fill_53178_17 (by decide) ?_
  refine lv_iload_n hx hb dJ7_fill_53178_5 rfl (lv_at hl 0 rfl) ?_
  refine lv_iload_n hx hb dJ7_fill_53178_6 rfl (lv_at hl 1 rfl) ?_
  refine lv_icmp_ge (tgt := 20) hx hb dJ7_fill_53178_7 (by decide) (fun c => absurd c (by decide)) (fun _ => ?_)
  refine lv_aload_n hx hb dJ7_fill_53178_10 rfl (lv_at hl 2 rfl) ?_
  refine lv_iload_n hx hb dJ7_fill_53178_11 rfl (lv_at hl 0 rfl) ?_
  refine lv_iload_n hx hb dJ7_fill_53178_12 rfl (lv_at hl 3 rfl) ?_
  refine z_iast (j := 1) hx hb hK hP hD hS 0 rfl rfl (Nat.le_of_ble_eq_true rfl) (Nat.le_of_ble_eq_true rfl) dJ7_fill_53178_13 (fun ff3 H locs y4 hP hD hS => ?_)
  have hP : va_P K.1 classes [(a0, zI K 10 ff3)] H := hP
  have hD : va_D A [(a0, zI K 10 ff3)] := hD
  refine lv_iinc (v := 2) (lv' := [(2, .int 2), (3, .int 10), (0, .ref a0), (1, .int 0)]) hx hb dJ7_fill_53178_14 hl (k := 0) rfl (by decide +kernel) (by decide) rfl (fun ls hl => ?_)
  refine lv_goto (tgt := 5) hx hb dJ7_fill_53178_17 (by decide) ?_
  refine lv_iload_n hx hb dJ7_fill_53178_5 rfl (lv_at hl 0 rfl) ?_
  refine lv_iload_n hx hb dJ7_fill_53178_6 rfl (lv_at hl 1 rfl) ?_
  refine lv_icmp_ge (tgt := 20) hx hb dJ7_fill_53178_7 (by decide) (fun c => absurd c (by decide)) (fun _ => ?_)
  refine lv_aload_n hx hb dJ7_fill_53178_10 rfl (lv_at hl 2 rfl) ?_
  refine lv_iload_n hx hb dJ7_fill_53178_11 rfl (lv_at hl 0 rfl) ?_
  refine lv_iload_n hx hb dJ7_fill_53178_12 rfl (lv_at hl 3 rfl) ?_
  refine z_iast (j := 2) hx hb hK hP hD hS 0 rfl rfl (Nat.le_of_ble_eq_true rfl) (Nat.le_of_ble_eq_true rfl) dJ7_fill_53178_13 (fun ff5 H locs y6 hP hD hS => ?_)
  have hP : va_P K.1 classes [(a0, zI K 10 ff5)] H := hP
  have hD : va_D A [(a0, zI K 10 ff5)] := hD
  refine lv_iinc (v := 3) (lv' := [(2, .int 3), (3, .int 10), (0, .ref a0), (1, .int 0)]) hx hb dJ7_fill_53178_14 hl (k := 0) rfl (by decide +kernel) (by decide) rfl (fun ls hl => ?_)
  refine lv_goto (tgt := 5) hx hb dJ7_fill_53178_17 (by decide) ?_
  refine lv_iload_n hx hb dJ7_fill_53178_5 rfl (lv_at hl 0 rfl) ?_
  refine lv_iload_n hx hb dJ7_fill_53178_6 rfl (lv_at hl 1 rfl) ?_
  refine lv_icmp_ge (tgt := 20) hx hb dJ7_fill_53178_7 (by decide) (fun c => absurd c (by decide)) (fun _ => ?_)
  refine lv_aload_n hx hb dJ7_fill_53178_10 rfl (lv_at hl 2 rfl) ?_
  refine lv_iload_n hx hb dJ7_fill_53178_11 rfl (lv_at hl 0 rfl) ?_
  refine lv_iload_n hx hb dJ7_fill_53178_12 rfl (lv_at hl 3 rfl) ?_
  refine z_iast (j := 3) hx hb hK hP hD hS 0 rfl rfl (Nat.le_of_ble_eq_true rfl) (Nat.le_of_ble_eq_true rfl) dJ7_fill_53178_13 (fun ff7 H locs y8 hP hD hS => ?_)
  have hP : va_P K.1 classes [(a0, zI K 10 ff7)] H := hP
  have hD : va_D A [(a0, zI K 10 ff7)] := hD
  refine lv_iinc (v := 4) (lv' := [(2, .int 4), (3, .int 10), (0, .ref a0), (1, .int 0)]) hx hb dJ7_fill_53178_14 hl (k := 0) rfl (by decide +kernel) (by decide) rfl (fun ls hl => ?_)
  refine lv_goto (tgt := 5) hx hb dJ7_fill_53178_17 (by decide) ?_
  refine lv_iload_n hx hb dJ7_fill_53178_5 rfl (lv_at hl 0 rfl) ?_
  refine lv_iload_n hx hb dJ7_fill_53178_6 rfl (lv_at hl 1 rfl) ?_
  refine lv_icmp_ge (tgt := 20) hx hb dJ7_fill_53178_7 (by decide) (fun c => absurd c (by decide)) (fun _ => ?_)
  refine lv_aload_n hx hb dJ7_fill_53178_10 rfl (lv_at hl 2 rfl) ?_
  refine lv_iload_n hx hb dJ7_fill_53178_11 rfl (lv_at hl 0 rfl) ?_
  refine lv_iload_n hx hb dJ7_fill_53178_12 rfl (lv_at hl 3 rfl) ?_
  refine z_iast (j := 4) hx hb hK hP hD hS 0 rfl rfl (Nat.le_of_ble_eq_true rfl) (Nat.le_of_ble_eq_true rfl) dJ7_fill_53178_13 (fun ff9 H locs y10 hP hD hS => ?_)
  have hP : va_P K.1 classes [(a0, zI K 10 ff9)] H := hP
  have hD : va_D A [(a0, zI K 10 ff9)] := hD
  refine lv_iinc (v := 5) (lv' := [(2, .int 5), (3, .int 10), (0, .ref a0), (1, .int 0)]) hx hb dJ7_fill_53178_14 hl (k := 0) rfl (by decide +kernel) (by decide) rfl (fun ls hl => ?_)
  refine lv_goto (tgt := 5) hx hb dJ7_fill_53178_17 (by decide) ?_
  refine lv_iload_n hx hb dJ7_fill_53178_5 rfl (lv_at hl 0 rfl) ?_
  refine lv_iload_n hx hb dJ7_fill_53178_6 rfl (lv_at hl 1 rfl) ?_
  refine lv_icmp_ge (tgt := 20) hx hb dJ7_fill_53178_7 (by decide) (fun c => absurd c (by decide)) (fun _ => ?_)
  refine lv_aload_n hx hb dJ7_fill_53178_10 rfl (lv_at hl 2 rfl) ?_
  refine lv_iload_n hx hb dJ7_fill_53178_11 rfl (lv_at hl 0 rfl) ?_
  refine lv_iload_n hx hb dJ7_fill_53178_12 rfl (lv_at hl 3 rfl) ?_
  refine z_iast (j := 5) hx hb hK hP hD hS 0 rfl rfl (Nat.le_of_ble_eq_true rfl) (Nat.le_of_ble_eq_true rfl) dJ7_fill_53178_13 (fun ff11 H locs y12 hP hD hS => ?_)
  have hP : va_P K.1 classes [(a0, zI K 10 ff11)] H := hP
  have hD : va_D A [(a0, zI K 10 ff11)] := hD
  refine lv_iinc (v := 6) (lv' := [(2, .int 6), (3, .int 10), (0, .ref a0), (1, .int 0)]) hx hb dJ7_fill_53178_14 hl (k := 0) rfl (by decide +kernel) (by decide) rfl (fun ls hl => ?_)
  refine lv_goto (tgt := 5) hx hb dJ7_fill_53178_17 (by decide) ?_
  refine lv_iload_n hx hb dJ7_fill_53178_5 rfl (lv_at hl 0 rfl) ?_
  refine lv_iload_n hx hb dJ7_fill_53178_6 rfl (lv_at hl 1 rfl) ?_
  refine lv_icmp_ge (tgt := 20) hx hb dJ7_fill_53178_7 (by decide) (fun c => absurd c (by decide)) (fun _ => ?_)
  refine lv_aload_n hx hb dJ7_fill_53178_10 rfl (lv_at hl 2 rfl) ?_
  refine lv_iload_n hx hb dJ7_fill_53178_11 rfl (lv_at hl 0 rfl) ?_
  refine lv_iload_n hx hb dJ7_fill_53178_12 rfl (lv_at hl 3 rfl) ?_
  refine z_iast (j := 6) hx hb hK hP hD hS 0 rfl rfl (Nat.le_of_ble_eq_true rfl) (Nat.le_of_ble_eq_true rfl) dJ7_fill_53178_13 (fun ff13 H locs y14 hP hD hS => ?_)
  have hP : va_P K.1 classes [(a0, zI K 10 ff13)] H := hP
  have hD : va_D A [(a0, zI K 10 ff13)] := hD
  refine lv_iinc (v := 7) (lv' := [(2, .int 7), (3, .int 10), (0, .ref a0), (1, .int 0)]) hx hb dJ7_fill_53178_14 hl (k := 0) rfl (by decide +kernel) (by decide) rfl (fun ls hl => ?_)
  refine lv_goto (tgt := 5) hx hb dJ7_fill_53178_17 (by decide) ?_
  refine lv_iload_n hx hb dJ7_fill_53178_5 rfl (lv_at hl 0 rfl) ?_
  refine lv_iload_n hx hb dJ7_fill_53178_6 rfl (lv_at hl 1 rfl) ?_
  refine lv_icmp_ge (tgt := 20) hx hb dJ7_fill_53178_7 (by decide) (fun c => absurd c (by decide)) (fun _ => ?_)
  refine lv_aload_n hx hb dJ7_fill_53178_10 rfl (lv_at hl 2 rfl) ?_
  refine lv_iload_n hx hb dJ7_fill_53178_11 rfl (lv_at hl 0 rfl) ?_
  refine lv_iload_n hx hb dJ7_fill_53178_12 rfl (lv_at hl 3 rfl) ?_
  refine z_iast (j := 7) hx hb hK hP hD hS 0 rfl rfl (Nat.le_of_ble_eq_true rfl) (Nat.le_of_ble_eq_true rfl) dJ7_fill_53178_13 (fun ff15 H locs y16 hP hD hS => ?_)
  have hP : va_P K.1 classes [(a0, zI K 10 ff15)] H := hP
  have hD : va_D A [(a0, zI K 10 ff15)] := hD
  refine lv_iinc (v := 8) (lv' := [(2, .int 8), (3, .int 10), (0, .ref a0), (1, .int 0)]) hx hb dJ7_fill_53178_14 hl (k := 0) rfl (by decide +kernel) (by decide) rfl (fun ls hl => ?_)
  refine lv_goto (tgt := 5) hx hb dJ7_fill_53178_17 (by decide) ?_
  refine lv_iload_n hx hb dJ7_fill_53178_5 rfl (lv_at hl 0 rfl) ?_
  refine lv_iload_n hx hb dJ7_fill_53178_6 rfl (lv_at hl 1 rfl) ?_
  refine lv_icmp_ge (tgt := 20) hx hb dJ7_fill_53178_7 (by decide) (fun c => absurd c (by decide)) (fun _ => ?_)
  refine lv_aload_n hx hb dJ7_fill_53178_10 rfl (lv_at hl 2 rfl) ?_
  refine lv_iload_n hx hb dJ7_fill_53178_11 rfl (lv_at hl 0 rfl) ?_
  refine lv_iload_n hx hb dJ7_fill_53178_12 rfl (lv_at hl 3 rfl) ?_
  refine z_iast (j := 8) hx hb hK hP hD hS 0 rfl rfl (Nat.le_of_ble_eq_true rfl) (Nat.le_of_ble_eq_true rfl) dJ7_fill_53178_13 (fun ff17 H locs y18 hP hD hS => ?_)
  have hP : va_P K.1 classes [(a0, zI K 10 ff17)] H := hP
  have hD : va_D A [(a0, zI K 10 ff17)] := hD
  refine lv_iinc (v := 9) (lv' := [(2, .int 9), (3, .int 10), (0, .ref a0), (1, .int 0)]) hx hb dJ7_fill_53178_14 hl (k := 0) rfl (by decide +kernel) (by decide) rfl (fun ls hl => ?_)
  refine lv_goto (tgt := 5) hx hb dJ7_fill_53178_17 (by decide) ?_
  refine lv_iload_n hx hb dJ7_fill_53178_5 rfl (lv_at hl 0 rfl) ?_
  refine lv_iload_n hx hb dJ7_fill_53178_6 rfl (lv_at hl 1 rfl) ?_
  refine lv_icmp_ge (tgt := 20) hx hb dJ7_fill_53178_7 (by decide) (fun c => absurd c (by decide)) (fun _ => ?_)
  refine lv_aload_n hx hb dJ7_fill_53178_10 rfl (lv_at hl 2 rfl) ?_
  refine lv_iload_n hx hb dJ7_fill_53178_11 rfl (lv_at hl 0 rfl) ?_
  refine lv_iload_n hx hb dJ7_fill_53178_12 rfl (lv_at hl 3 rfl) ?_
  refine z_iast (j := 9) hx hb hK hP hD hS 0 rfl rfl (Nat.le_of_ble_eq_true rfl) (Nat.le_of_ble_eq_true rfl) dJ7_fill_53178_13 (fun ff19 H locs y20 hP hD hS => ?_)
  have hP : va_P K.1 classes [(a0, zI K 10 ff19)] H := hP
  have hD : va_D A [(a0, zI K 10 ff19)] := hD
  refine lv_iinc (v := 10) (lv' := [(2, .int 10), (3, .int 10), (0, .ref a0), (1, .int 0)]) hx hb dJ7_fill_53178_14 hl (k := 0) rfl (by decide +kernel) (by decide) rfl (fun ls hl => ?_)
  refine lv_goto (tgt := 5) hx hb dJ7_fill_53178_17 (by decide) ?_
  refine lv_iload_n hx hb dJ7_fill_53178_5 rfl (lv_at hl 0 rfl) ?_
  refine lv_iload_n hx hb dJ7_fill_53178_6 rfl (lv_at hl 1 rfl) ?_
  refine lv_icmp_ge (tgt := 20) hx hb dJ7_fill_53178_7 (by decide) (fun _ => ?_) (fun c => absurd (by decide) c)
  subst y20
  subst y18
  subst y16
  subst y14
  subst y12
  subst y10
  subst y8
  subst y6
  subst y4
  subst y2
  have hP9 : va_P K.1 classes [(a0, zI K 10 (va_up (va_up (va_up (va_up (va_up (va_up (va_up (va_up (va_up (va_up f0 0 0) 1 0) 2 0) 3 0) 4 0) 5 0) 6 0) 7 0) 8 0) 9 0))] H := hP.sub [0] rfl
  have hD9 : va_D A [(a0, zI K 10 (va_up (va_up (va_up (va_up (va_up (va_up (va_up (va_up (va_up (va_up f0 0 0) 1 0) 2 0) 3 0) 4 0) 5 0) 6 0) 7 0) 8 0) 9 0))] := hD.sub [0] (by decide) rfl
  exact z_vret hx hb hr (fun _ => 0) trivial hP9 hD9 hS (Nat.le_of_ble_eq_true rfl) (Nat.le_of_ble_eq_true rfl) hlocks dJ7_fill_53178_20
set_option maxHeartbeats 4000000 in
set_option maxRecDepth 100000 in
theorem cX1_goTo_1 (l : Launch) (K : zK) (sz : Nat) (a0 : Nat) (g0 : Nat → Value) (j0 : Nat) (hj0 : j0 < 3) : Met l yX1_goTo (Cond.code yX1_goTo cX1_goTo 2 none :: WG) { frames := 0, cells := 0, slots := 0, locals := 0 } (zPre K [(a0, zO 1 18 g0)] sz [.ref a0, .int ((640 : Int32) + ((2 : Int32) * (nI j0)))]) (va_Qv (fun _ : Nat → Nat => True) (zB K (va_A [(a0, zO 1 18 g0)] sz) (fun u : Nat → Nat => [(a0, zO 1 18 (va_up (va_up g0 12 (.int ((640 : Int32) + ((2 : Int32) * (nI j0))))) 11 (.int 0)))])) (va_A [(a0, zO 1 18 g0)] sz)) 0 0 (va_A [(a0, zO 1 18 g0)] sz) := by
  refine z_met (Qc := fun A => (va_Qv (fun _ : Nat → Nat => True) (zB K A (fun u : Nat → Nat => [(a0, zO 1 18 (va_up (va_up g0 12 (.int ((640 : Int32) + ((2 : Int32) * (nI j0))))) 11 (.int 0)))])) A)) (by decide +kernel) (Nat.le_of_ble_eq_true rfl) ?_
  intro p e s m args below meth c A ls H hx hb hr hg hown hlocks hml hin hK hP hD hA hS hZ hl
  have hown : s.vm.findClass RX1 = some m.cls := hown
  have hl : lv_has ls 2 [(0, .ref a0), (1, .int ((640 : Int32) + ((2 : Int32) * (nI j0))))] := hl
  refine lv_aload_n hx hb dX1_goTo_0 rfl (lv_at hl 0 rfl) ?_
  refine lv_iload_n hx hb dX1_goTo_1 rfl (lv_at hl 1 rfl) ?_
  refine z_put hx hb hg hown hK hP hD hS i_X1 rfl tyX1_ok nmX1 0 rfl 12 (by decide) mt261 rfl rfl rfl dX1_goTo_2 (fun gg1 H locs y2 hP hD hS => ?_)
  have hP : va_P K.1 classes [(a0, zO 1 18 gg1)] H := hP
  have hD : va_D A [(a0, zO 1 18 gg1)] := hD
  refine lv_aload_n hx hb dX1_goTo_5 rfl (lv_at hl 0 rfl) ?_
  refine lv_iconst (v := 0) hx hb dX1_goTo_6 (by decide) ?_
  refine z_put hx hb hg hown hK hP hD hS i_X1 rfl tyX1_ok nmX1 0 rfl 11 (by decide) mt260 rfl rfl rfl dX1_goTo_7 (fun gg3 H locs y4 hP hD hS => ?_)
  have hP : va_P K.1 classes [(a0, zO 1 18 gg3)] H := hP
  have hD : va_D A [(a0, zO 1 18 gg3)] := hD
  subst y4
  subst y2
  have hP9 : va_P K.1 classes [(a0, zO 1 18 (va_up (va_up g0 12 (.int ((640 : Int32) + ((2 : Int32) * (nI j0))))) 11 (.int 0)))] H := hP.sub [0] rfl
  have hD9 : va_D A [(a0, zO 1 18 (va_up (va_up g0 12 (.int ((640 : Int32) + ((2 : Int32) * (nI j0))))) 11 (.int 0)))] := hD.sub [0] (by decide) rfl
  exact z_vret hx hb hr (fun _ => 0) trivial hP9 hD9 hS (Nat.le_of_ble_eq_true rfl) (Nat.le_of_ble_eq_true rfl) hlocks dX1_goTo_10
set_option maxHeartbeats 4000000 in
set_option maxRecDepth 100000 in
theorem cX11_checkRange_17 (l : Launch) (K : zK) (sz : Nat) (a0 : Nat) (g0 : Nat → Value) : Met l yX11_checkRange (Cond.code yX11_checkRange cX11_checkRange 3 none :: WG) { frames := 0, cells := 0, slots := 0, locals := 0 } (zPre K [(a0, zO 9 9 g0)] sz [.ref a0, .int 1, .int 601]) (va_Qv (fun _ : Nat → Nat => True) (zB K (va_A [(a0, zO 9 9 g0)] sz) (fun u : Nat → Nat => [(a0, zO 9 9 g0)])) (va_A [(a0, zO 9 9 g0)] sz)) 0 0 (va_A [(a0, zO 9 9 g0)] sz) := by
  refine z_met (Qc := fun A => (va_Qv (fun _ : Nat → Nat => True) (zB K A (fun u : Nat → Nat => [(a0, zO 9 9 g0)])) A)) (by decide +kernel) (Nat.le_of_ble_eq_true rfl) ?_
  intro p e s m args below meth c A ls H hx hb hr hg hown hlocks hml hin hK hP hD hA hS hZ hl
  have hown : s.vm.findClass RX11 = some m.cls := hown
  have hl : lv_has ls 3 [(0, .ref a0), (1, .int 1), (2, .int 601)] := hl
  refine lv_iload_n hx hb dX11_checkRange_0 rfl (lv_at hl 1 rfl) ?_
  refine lv_if_lt (tgt := 9) hx hb dX11_checkRange_1 (by decide) (fun c => absurd c (by decide)) (fun _ => ?_)
  refine lv_iload_n hx hb dX11_checkRange_4 rfl (lv_at hl 1 rfl) ?_
  refine lv_iload_n hx hb dX11_checkRange_5 rfl (lv_at hl 2 rfl) ?_
  refine lv_icmp_lt (tgt := 19) hx hb dX11_checkRange_6 (by decide) (fun _ => ?_) (fun c => absurd (by decide) c)
  have hP9 : va_P K.1 classes [(a0, zO 9 9 g0)] H := hP.sub [0] rfl
  have hD9 : va_D A [(a0, zO 9 9 g0)] := hD.sub [0] (by decide) rfl
  exact z_vret hx hb hr (fun _ => 0) trivial hP9 hD9 hS (Nat.le_of_ble_eq_true rfl) (Nat.le_of_ble_eq_true rfl) hlocks dX11_checkRange_19
set_option maxHeartbeats 4000000 in
set_option maxRecDepth 100000 in
theorem cX1_stop_1 (l : Launch) (K : zK) (sz : Nat) (a0 : Nat) (g0 : Nat → Value) (e0 : g0 8 = (.int 0)) : Met l yX1_stop (Cond.code yX1_stop cX1_stop 2 none :: WG) { frames := 0, cells := 0, slots := 0, locals := 0 } (zPre K [(a0, zO 1 18 g0)] sz [.ref a0, .int 7]) (va_Qv (fun _ : Nat → Nat => True) (zB K (va_A [(a0, zO 1 18 g0)] sz) (fun u : Nat → Nat => [(a0, zO 1 18 (va_up (va_up g0 16 (.int 7)) 11 (.int 4)))])) (va_A [(a0, zO 1 18 g0)] sz)) 0 0 (va_A [(a0, zO 1 18 g0)] sz) := by
  refine z_met (Qc := fun A => (va_Qv (fun _ : Nat → Nat => True) (zB K A (fun u : Nat → Nat => [(a0, zO 1 18 (va_up (va_up g0 16 (.int 7)) 11 (.int 4)))])) A)) (by decide +kernel) (Nat.le_of_ble_eq_true rfl) ?_
  intro p e s m args below meth c A ls H hx hb hr hg hown hlocks hml hin hK hP hD hA hS hZ hl
  have hown : s.vm.findClass RX1 = some m.cls := hown
  have hl : lv_has ls 2 [(0, .ref a0), (1, .int 7)] := hl
  refine lv_aload_n hx hb dX1_stop_0 rfl (lv_at hl 0 rfl) ?_
  refine z_get (v := .int 0) hx hb hg hown hK hP i_X1 rfl 0 rfl 8 (by decide) mt257 e0 dX1_stop_1 ?_
  refine lv_if_ne (tgt := 12) hx hb dX1_stop_4 (by decide) (fun c => absurd (by decide) c) (fun _ => ?_)
  refine lv_aload_n hx hb dX1_stop_7 rfl (lv_at hl 0 rfl) ?_
  refine lv_iload_n hx hb dX1_stop_8 rfl (lv_at hl 1 rfl) ?_
  refine z_put hx hb hg hown hK hP hD hS i_X1 rfl tyX1_ok nmX1 0 rfl 16 (by decide) mt265 rfl rfl rfl dX1_stop_9 (fun gg1 H locs y2 hP hD hS => ?_)
  have hP : va_P K.1 classes [(a0, zO 1 18 gg1)] H := hP
  have hD : va_D A [(a0, zO 1 18 gg1)] := hD
  refine lv_aload_n hx hb dX1_stop_12 rfl (lv_at hl 0 rfl) ?_
  refine lv_iconst (v := 4) hx hb dX1_stop_13 (by decide) ?_
  refine z_put hx hb hg hown hK hP hD hS i_X1 rfl tyX1_ok nmX1 0 rfl 11 (by decide) mt260 rfl rfl rfl dX1_stop_14 (fun gg3 H locs y4 hP hD hS => ?_)
  have hP : va_P K.1 classes [(a0, zO 1 18 gg3)] H := hP
  have hD : va_D A [(a0, zO 1 18 gg3)] := hD
  subst y4
  subst y2
  have hP9 : va_P K.1 classes [(a0, zO 1 18 (va_up (va_up g0 16 (.int 7)) 11 (.int 4)))] H := hP.sub [0] rfl
  have hD9 : va_D A [(a0, zO 1 18 (va_up (va_up g0 16 (.int 7)) 11 (.int 4)))] := hD.sub [0] (by decide) rfl
  exact z_vret hx hb hr (fun _ => 0) trivial hP9 hD9 hS (Nat.le_of_ble_eq_true rfl) (Nat.le_of_ble_eq_true rfl) hlocks dX1_stop_17
set_option maxHeartbeats 4000000 in
set_option maxRecDepth 100000 in
theorem cX1_step_1 (l : Launch) (K : zK) (sz : Nat) (a0 : Nat) (g0 : Nat → Value) (e0 : g0 10 = (.int 0)) (e1 : g0 8 = (.int 0)) (e2 : g0 9 = (.int 1)) : Met l yX1_step (Cond.code yX1_step cX1_step 2 none :: WG) { frames := 1, cells := 0, slots := 0, locals := 21 } (zPre K [(a0, zO 1 18 g0)] sz [.ref a0]) (va_Qv (fun _ : Nat → Nat => True) (zB K (va_A [(a0, zO 1 18 g0)] sz) (fun u : Nat → Nat => [(a0, zO 1 18 (va_up (va_up g0 16 (.int 7)) 11 (.int 4)))])) (va_A [(a0, zO 1 18 g0)] sz)) 0 0 (va_A [(a0, zO 1 18 g0)] sz) := by
  refine z_met (Qc := fun A => (va_Qv (fun _ : Nat → Nat => True) (zB K A (fun u : Nat → Nat => [(a0, zO 1 18 (va_up (va_up g0 16 (.int 7)) 11 (.int 4)))])) A)) (by decide +kernel) (Nat.le_of_ble_eq_true rfl) ?_
  intro p e s m args below meth c A ls H hx hb hr hg hown hlocks hml hin hK hP hD hA hS hZ hl
  have hown : s.vm.findClass RX1 = some m.cls := hown
  have hl : lv_has ls 2 [(0, .ref a0)] := hl
  refine lv_aload_n hx hb dX1_step_0 rfl (lv_at hl 0 rfl) ?_
  refine z_get (v := .int 0) hx hb hg hown hK hP i_X1 rfl 0 rfl 10 (by decide) mt259 e0 dX1_step_1 ?_
  refine lv_aload_n hx hb dX1_step_4 rfl (lv_at hl 0 rfl) ?_
  refine z_get (v := .int 0) hx hb hg hown hK hP i_X1 rfl 0 rfl 8 (by decide) mt257 e1 dX1_step_5 ?_
  refine lv_if_eq (tgt := 17) hx hb dX1_step_8 (by decide) (fun _ => ?_) (fun c => absurd (by decide) c)
  refine lv_sipush (v := 600) hx hb dX1_step_17 (by decide) ?_
  refine lv_icmp_lt (tgt := 30) hx hb dX1_step_20 (by decide) (fun _ => ?_) (fun c => absurd (by decide) c)
  refine lv_aload_n hx hb dX1_step_30 rfl (lv_at hl 0 rfl) ?_
  refine z_get (v := .int 0) hx hb hg hown hK hP i_X1 rfl 0 rfl 8 (by decide) mt257 e1 dX1_step_31 ?_
  refine lv_if_ne (tgt := 57) hx hb dX1_step_34 (by decide) (fun c => absurd (by decide) c) (fun _ => ?_)
  refine lv_aload_n hx hb dX1_step_37 rfl (lv_at hl 0 rfl) ?_
  refine z_get (v := .int 0) hx hb hg hown hK hP i_X1 rfl 0 rfl 10 (by decide) mt259 e0 dX1_step_38 ?_
  refine lv_iconst (v := 1) hx hb dX1_step_41 (by decide) ?_
  refine lv_iadd hx hb dX1_step_42 ?_
  refine z_cst (v := 1) (by decide +kernel) ?_
  refine lv_aload_n hx hb dX1_step_43 rfl (lv_at hl 0 rfl) ?_
  refine z_get (v := .int 1) hx hb hg hown hK hP i_X1 rfl 0 rfl 9 (by decide) mt258 e2 dX1_step_44 ?_
  refine lv_icmp_ne (tgt := 57) hx hb dX1_step_47 (by decide) (fun c => absurd (by decide) c) (fun _ => ?_)
  refine lv_aload_n hx hb dX1_step_50 rfl (lv_at hl 0 rfl) ?_
  refine lv_bipush (v := 7) hx hb dX1_step_51 (by decide) ?_
  refine z_callv [(a0, zO 1 18 g0)] [] [0] [] hP hD hS hA rfl rfl (by decide) (by decide) (by decide +kernel) 0 0 rfl rfl (fun hPc hDc hF => z_runV (As := [.int 7]) (rest := []) ⟨hx, hb, hml, hown, hg⟩ (cX1_stop_1 l K H.size a0 g0 e1) kV_RX1_119 hd_X1_stop rfl rfl ⟨(Nat.le_of_ble_eq_true rfl), (Nat.le_of_ble_eq_true rfl)⟩ hK hS hZ hPc hDc hF 0 rfl rfl rfl hl.1 rfl (Nat.le_of_ble_eq_true rfl) dX1_step_53 ⟨(Nat.le_of_ble_eq_true rfl), (Nat.le_of_ble_eq_true rfl)⟩) (fun u1 H locs w2 hP hD hS => ?_)
  have hP : va_P K.1 classes [(a0, zO 1 18 (va_up (va_up g0 16 (.int 7)) 11 (.int 4)))] H := hP
  have hD : va_D A [(a0, zO 1 18 (va_up (va_up g0 16 (.int 7)) 11 (.int 4)))] := hD
  obtain ⟨gg4, y5⟩ : ∃ z, z = ((va_up (va_up g0 16 (.int 7)) 11 (.int 4)) : Nat → Value) := ⟨_, rfl⟩
  rw [← y5] at hP hD
  subst y5
  have hP9 : va_P K.1 classes [(a0, zO 1 18 (va_up (va_up g0 16 (.int 7)) 11 (.int 4)))] H := hP.sub [0] rfl
  have hD9 : va_D A [(a0, zO 1 18 (va_up (va_up g0 16 (.int 7)) 11 (.int 4)))] := hD.sub [0] (by decide) rfl
  exact z_vret hx hb hr (fun _ => 0) trivial hP9 hD9 hS (Nat.le_of_ble_eq_true rfl) (Nat.le_of_ble_eq_true rfl) hlocks dX1_step_56
set_option maxHeartbeats 4000000 in
set_option maxRecDepth 100000 in
theorem cX2_pop_1 (l : Launch) (K : zK) (sz : Nat) (a0 : Nat) (g0 : Nat → Value) (e0 : g0 5 = (.int 0)) : Met l yX2_pop (Cond.code yX2_pop cX2_pop 1 (some .boolean) :: WG) { frames := 0, cells := 0, slots := 0, locals := 0 } (zPre K [(a0, zO 2 6 g0)] sz [.ref a0]) (va_Qi (fun (r : Int32) (_ : Nat → Nat) => r = 0) (zB K (va_A [(a0, zO 2 6 g0)] sz) (fun u : Nat → Nat => [(a0, zO 2 6 g0)])) (va_A [(a0, zO 2 6 g0)] sz)) 0 0 (va_A [(a0, zO 2 6 g0)] sz) := by
  refine z_met (Qc := fun A => (va_Qi (fun (r : Int32) (_ : Nat → Nat) => r = 0) (zB K A (fun u : Nat → Nat => [(a0, zO 2 6 g0)])) A)) (by decide +kernel) (Nat.le_of_ble_eq_true rfl) ?_
  intro p e s m args below meth c A ls H hx hb hr hg hown hlocks hml hin hK hP hD hA hS hZ hl
  have hown : s.vm.findClass RX2 = some m.cls := hown
  have hl : lv_has ls 1 [(0, .ref a0)] := hl
  refine lv_aload_n hx hb dX2_pop_0 rfl (lv_at hl 0 rfl) ?_
  refine z_get (v := .int 0) hx hb hg hown hK hP i_X2 rfl 0 rfl 5 (by decide) mt235 e0 dX2_pop_1 ?_
  refine lv_if_gt (tgt := 9) hx hb dX2_pop_4 (by decide) (fun c => absurd c (by decide)) (fun _ => ?_)
  refine lv_iconst (v := 0) hx hb dX2_pop_7 (by decide) ?_
  have hP9 : va_P K.1 classes [(a0, zO 2 6 g0)] H := hP.sub [0] rfl
  have hD9 : va_D A [(a0, zO 2 6 g0)] := hD.sub [0] (by decide) rfl
  exact z_zret hx hb hr rfl (fun _ => 0) rfl hP9 hD9 hS (Nat.le_of_ble_eq_true rfl) (Nat.le_of_ble_eq_true rfl) hlocks dX2_pop_8
set_option maxHeartbeats 4000000 in
set_option maxRecDepth 100000 in
theorem cX1_leave_1 (l : Launch) (K : zK) (sz : Nat) (a0 : Nat) (a1 : Nat) (g0 : Nat → Value) (g1 : Nat → Value) (e0 : g0 1 = (.ref a1)) (e1 : g1 5 = (.int 0)) : Met l yX1_leave (Cond.code yX1_leave cX1_leave 1 none :: WG) { frames := 1, cells := 0, slots := 0, locals := 20 } (zPre K [(a0, zO 1 18 g0), (a1, zO 2 6 g1)] sz [.ref a0]) (va_Qv (fun _ : Nat → Nat => True) (zB K (va_A [(a0, zO 1 18 g0), (a1, zO 2 6 g1)] sz) (fun u : Nat → Nat => [(a0, zO 1 18 (va_up g0 11 (.int 5))), (a1, zO 2 6 g1)])) (va_A [(a0, zO 1 18 g0), (a1, zO 2 6 g1)] sz)) 0 0 (va_A [(a0, zO 1 18 g0), (a1, zO 2 6 g1)] sz) := by
  refine z_met (Qc := fun A => (va_Qv (fun _ : Nat → Nat => True) (zB K A (fun u : Nat → Nat => [(a0, zO 1 18 (va_up g0 11 (.int 5))), (a1, zO 2 6 g1)])) A)) (by decide +kernel) (Nat.le_of_ble_eq_true rfl) ?_
  intro p e s m args below meth c A ls H hx hb hr hg hown hlocks hml hin hK hP hD hA hS hZ hl
  have hown : s.vm.findClass RX1 = some m.cls := hown
  have hl : lv_has ls 1 [(0, .ref a0)] := hl
  refine lv_aload_n hx hb dX1_leave_0 rfl (lv_at hl 0 rfl) ?_
  refine z_get (v := .ref a1) hx hb hg hown hK hP i_X1 rfl 0 rfl 1 (by decide) mt250 e0 dX1_leave_1 ?_
  refine z_calli [(a1, zO 2 6 g1)] [(a0, zO 1 18 g0)] [1] [0] hP hD hS hA rfl rfl (by decide) (by decide) (by decide +kernel) 0 0 rfl rfl (fun hPc hDc hF => z_runV (As := []) (rest := []) ⟨hx, hb, hml, hown, hg⟩ (cX2_pop_1 l K H.size a1 g1 e1) kV_RX1_244 hd_X2_pop rfl rfl ⟨(Nat.le_of_ble_eq_true rfl), (Nat.le_of_ble_eq_true rfl)⟩ hK hS hZ hPc hDc hF 0 rfl rfl rfl hl.1 rfl (Nat.le_of_ble_eq_true rfl) dX1_leave_4 ⟨(Nat.le_of_ble_eq_true rfl), (Nat.le_of_ble_eq_true rfl)⟩) (fun r3 u1 H locs w2 hP hD hS => ?_)
  subst w2
  have hP : va_P K.1 classes [(a0, zO 1 18 g0), (a1, zO 2 6 g1)] H := hP
  have hD : va_D A [(a0, zO 1 18 g0), (a1, zO 2 6 g1)] := hD
  refine lv_if_eq (tgt := 17) hx hb dX1_leave_7 (by decide) (fun _ => ?_) (fun c => absurd (by decide) c)
  refine lv_aload_n hx hb dX1_leave_17 rfl (lv_at hl 0 rfl) ?_
  refine lv_iconst (v := 5) hx hb dX1_leave_18 (by decide) ?_
  refine z_put hx hb hg hown hK hP hD hS i_X1 rfl tyX1_ok nmX1 0 rfl 11 (by decide) mt260 rfl rfl rfl dX1_leave_19 (fun gg4 H locs y5 hP hD hS => ?_)
  have hP : va_P K.1 classes [(a0, zO 1 18 gg4), (a1, zO 2 6 g1)] H := hP
  have hD : va_D A [(a0, zO 1 18 gg4), (a1, zO 2 6 g1)] := hD
  subst y5
  have hP9 : va_P K.1 classes [(a0, zO 1 18 (va_up g0 11 (.int 5))), (a1, zO 2 6 g1)] H := hP.sub [0, 1] rfl
  have hD9 : va_D A [(a0, zO 1 18 (va_up g0 11 (.int 5))), (a1, zO 2 6 g1)] := hD.sub [0, 1] (by decide) rfl
  exact z_vret hx hb hr (fun _ => 0) trivial hP9 hD9 hS (Nat.le_of_ble_eq_true rfl) (Nat.le_of_ble_eq_true rfl) hlocks dX1_leave_22
set_option maxHeartbeats 4000000 in
set_option maxRecDepth 100000 in
theorem cX1_rest_1 (l : Launch) (K : zK) (sz : Nat) (a0 : Nat) (g0 : Nat → Value) (e0 : g0 16 = (.int 7)) : Met l yX1_rest (Cond.code yX1_rest cX1_rest 4 none :: WG) { frames := 0, cells := 0, slots := 0, locals := 0 } (zPre K [(a0, zO 1 18 g0)] sz [.ref a0]) (va_Qv (fun _ : Nat → Nat => True) (zB K (va_A [(a0, zO 1 18 g0)] sz) (fun u : Nat → Nat => [(a0, zO 1 18 (va_up g0 11 (.int 6)))])) (va_A [(a0, zO 1 18 g0)] sz)) 0 0 (va_A [(a0, zO 1 18 g0)] sz) := by
  refine z_met (Qc := fun A => (va_Qv (fun _ : Nat → Nat => True) (zB K A (fun u : Nat → Nat => [(a0, zO 1 18 (va_up g0 11 (.int 6)))])) A)) (by decide +kernel) (Nat.le_of_ble_eq_true rfl) ?_
  intro p e s m args below meth c A ls H hx hb hr hg hown hlocks hml hin hK hP hD hA hS hZ hl
  have hown : s.vm.findClass RX1 = some m.cls := hown
  have hl : lv_has ls 4 [(0, .ref a0)] := hl
  refine lv_aload_n hx hb dX1_rest_0 rfl (lv_at hl 0 rfl) ?_
  refine z_get (v := .int 7) hx hb hg hown hK hP i_X1 rfl 0 rfl 16 (by decide) mt265 e0 dX1_rest_1 ?_
  refine lv_if_eq (tgt := 23) hx hb dX1_rest_4 (by decide) (fun c => absurd c (by decide)) (fun _ => ?_)
  refine lv_aload_n hx hb dX1_rest_7 rfl (lv_at hl 0 rfl) ?_
  refine z_get (v := .int 7) hx hb hg hown hK hP i_X1 rfl 0 rfl 16 (by decide) mt265 e0 dX1_rest_8 ?_
  refine lv_iconst (v := 1) hx hb dX1_rest_11 (by decide) ?_
  refine lv_icmp_eq (tgt := 23) hx hb dX1_rest_12 (by decide) (fun c => absurd c (by decide)) (fun _ => ?_)
  refine lv_aload_n hx hb dX1_rest_15 rfl (lv_at hl 0 rfl) ?_
  refine z_get (v := .int 7) hx hb hg hown hK hP i_X1 rfl 0 rfl 16 (by decide) mt265 e0 dX1_rest_16 ?_
  refine lv_iconst (v := 2) hx hb dX1_rest_19 (by decide) ?_
  refine lv_icmp_ne (tgt := 27) hx hb dX1_rest_20 (by decide) (fun _ => ?_) (fun c => absurd c (by decide))
  refine lv_iconst (v := 0) hx hb dX1_rest_27 (by decide) ?_
  refine lv_istore_n (lv' := [(1, .int 0), (0, .ref a0)]) hx hb dX1_rest_28 rfl hl (by decide) rfl (fun ls hl => ?_)
  refine lv_iload_n hx hb dX1_rest_29 rfl (lv_at hl 0 rfl) ?_
  refine lv_if_eq (tgt := 52) hx hb dX1_rest_30 (by decide) (fun _ => ?_) (fun c => absurd (by decide) c)
  refine lv_aload_n hx hb dX1_rest_52 rfl (lv_at hl 1 rfl) ?_
  refine lv_bipush (v := 6) hx hb dX1_rest_53 (by decide) ?_
  refine z_put hx hb hg hown hK hP hD hS i_X1 rfl tyX1_ok nmX1 0 rfl 11 (by decide) mt260 rfl rfl rfl dX1_rest_55 (fun gg1 H locs y2 hP hD hS => ?_)
  have hP : va_P K.1 classes [(a0, zO 1 18 gg1)] H := hP
  have hD : va_D A [(a0, zO 1 18 gg1)] := hD
  subst y2
  have hP9 : va_P K.1 classes [(a0, zO 1 18 (va_up g0 11 (.int 6)))] H := hP.sub [0] rfl
  have hD9 : va_D A [(a0, zO 1 18 (va_up g0 11 (.int 6)))] := hD.sub [0] (by decide) rfl
  exact z_vret hx hb hr (fun _ => 0) trivial hP9 hD9 hS (Nat.le_of_ble_eq_true rfl) (Nat.le_of_ble_eq_true rfl) hlocks dX1_rest_58
set_option maxHeartbeats 4000000 in
set_option maxRecDepth 100000 in
theorem cX1_find_1 (l : Launch) (K : zK) (sz : Nat) (a0 : Nat) (a1 : Nat) (a2 : Nat) (a3 : Nat) (a4 : Nat) (a5 : Nat) (a6 : Nat) (a7 : Nat) (a8 : Nat) (g0 : Nat → Value) (g2 : Nat → Value) (g1 : Nat → Value) (f3 : Nat → Int32) (g4 : Nat → Value) (f5 : Nat → Int32) (f6 : Nat → Option Nat) (g7 : Nat → Value) (f8 : Nat → Int32) (j0 : Nat) (hj0 : j0 < 3) (e0 : g0 0 = (.ref a2)) (e1 : g2 6 = (.int 0)) (e2 : g2 4 = (.int 0)) (e3 : g2 0 = (.ref a1)) (e4 : g1 2 = (.ref a3)) (e5 : f3 0 = 0) (e6 : f3 1 = 0) (e7 : f3 2 = 0) (e8 : f3 3 = 0) (e9 : f3 4 = 0) (e10 : f3 5 = 0) (e11 : f3 6 = 0) (e12 : f3 7 = 0) (e13 : g2 1 = (.ref a4)) (e14 : g4 2 = (.ref a5)) (e15 : f5 0 = 0) (e16 : f5 1 = 0) (e17 : f5 2 = 0) (e18 : f5 3 = 0) (e19 : f5 4 = 0) (e20 : f5 5 = 0) (e21 : f5 6 = 0) (e22 : f5 7 = 0) (e23 : g2 3 = (.int 0)) (e24 : g2 2 = (.ref a6)) (e25 : g0 1 = (.ref a7)) (e26 : g0 2 = (.ref a8)) : Met l yX1_find (Cond.code yX1_find cX1_find 6 (some .int) :: WG) { frames := 4, cells := 4, slots := 4203, locals := 72 } (zPre K [(a0, zO 1 18 g0), (a2, zO 3 7 g2), (a1, zO 4 6 g1), (a3, zI K 8 f3), (a4, zO 4 6 g4), (a5, zI K 8 f5), (a6, zR K 512 f6), (a7, zO 2 6 g7), (a8, zI K 10 f8)] sz [.ref a0, .ref a1, .int ((640 : Int32) + ((2 : Int32) * (nI j0))), .int 1, .int 1]) (va_Qi (fun (r : Int32) (_ : Nat → Nat) => r = 7) (zB K (va_A [(a0, zO 1 18 g0), (a2, zO 3 7 g2), (a1, zO 4 6 g1), (a3, zI K 8 f3), (a4, zO 4 6 g4), (a5, zI K 8 f5), (a6, zR K 512 f6), (a7, zO 2 6 g7), (a8, zI K 10 f8)] sz) (fun u : Nat → Nat => [(a0, zO 1 18 (va_up (va_up (va_up (va_up (va_up (va_up (va_up (va_up (va_up (va_up (va_up (va_up (va_up (va_up (va_up (va_up (va_up g0 6 (.ref a1)) 7 (.int 1)) 9 (.int 1)) 4 (.int 0)) 5 (.int 0)) 8 (.int 0)) 10 (.int 0)) 13 (.int (-1))) 14 (.int 0)) 16 (.int 6)) 17 (.int 0)) 12 (.int ((640 : Int32) + ((2 : Int32) * (nI j0))))) 11 (.int 0)) 16 (.int 7)) 11 (.int 4)) 11 (.int 5)) 11 (.int 6))), (a2, zO 3 7 (va_up (va_up (va_up (va_up (va_up g2 5 (.int 0)) 5 (.int 0)) 3 (.int 1)) 4 (.int 0)) 6 (.int 0))), (a1, zO 4 6 g1), (a3, zI K 8 f3), (a4, zO 4 6 g4), (a5, zI K 8 f5), (a6, zR K 512 (va_up f6 0 (some (u 0)))), (a7, zO 2 6 (va_up g7 5 (.int 0))), (a8, zI K 10 (va_up (va_up (va_up (va_up (va_up (va_up (va_up (va_up (va_up (va_up f8 0 0) 1 0) 2 0) 3 0) 4 0) 5 0) 6 0) 7 0) 8 0) 9 0)), ((u 0), zO 6 3 (va_up (va_up (va_up (fun k => defaultValue (tyX7 k)) 0 (.ref (u 1))) 1 (.ref (u 2))) 2 (.ref (u 3)))), ((u 1), zJ K 1400 (fun _ => 0)), ((u 2), zJ K 1400 (fun _ => 0)), ((u 3), zJ K 1400 (fun _ => 0))])) (va_A [(a0, zO 1 18 g0), (a2, zO 3 7 g2), (a1, zO 4 6 g1), (a3, zI K 8 f3), (a4, zO 4 6 g4), (a5, zI K 8 f5), (a6, zR K 512 f6), (a7, zO 2 6 g7), (a8, zI K 10 f8)] sz)) 4 4203 (va_A [(a0, zO 1 18 g0), (a2, zO 3 7 g2), (a1, zO 4 6 g1), (a3, zI K 8 f3), (a4, zO 4 6 g4), (a5, zI K 8 f5), (a6, zR K 512 f6), (a7, zO 2 6 g7), (a8, zI K 10 f8)] sz) := by
  refine z_met (Qc := fun A => (va_Qi (fun (r : Int32) (_ : Nat → Nat) => r = 7) (zB K A (fun u : Nat → Nat => [(a0, zO 1 18 (va_up (va_up (va_up (va_up (va_up (va_up (va_up (va_up (va_up (va_up (va_up (va_up (va_up (va_up (va_up (va_up (va_up g0 6 (.ref a1)) 7 (.int 1)) 9 (.int 1)) 4 (.int 0)) 5 (.int 0)) 8 (.int 0)) 10 (.int 0)) 13 (.int (-1))) 14 (.int 0)) 16 (.int 6)) 17 (.int 0)) 12 (.int ((640 : Int32) + ((2 : Int32) * (nI j0))))) 11 (.int 0)) 16 (.int 7)) 11 (.int 4)) 11 (.int 5)) 11 (.int 6))), (a2, zO 3 7 (va_up (va_up (va_up (va_up (va_up g2 5 (.int 0)) 5 (.int 0)) 3 (.int 1)) 4 (.int 0)) 6 (.int 0))), (a1, zO 4 6 g1), (a3, zI K 8 f3), (a4, zO 4 6 g4), (a5, zI K 8 f5), (a6, zR K 512 (va_up f6 0 (some (u 0)))), (a7, zO 2 6 (va_up g7 5 (.int 0))), (a8, zI K 10 (va_up (va_up (va_up (va_up (va_up (va_up (va_up (va_up (va_up (va_up f8 0 0) 1 0) 2 0) 3 0) 4 0) 5 0) 6 0) 7 0) 8 0) 9 0)), ((u 0), zO 6 3 (va_up (va_up (va_up (fun k => defaultValue (tyX7 k)) 0 (.ref (u 1))) 1 (.ref (u 2))) 2 (.ref (u 3)))), ((u 1), zJ K 1400 (fun _ => 0)), ((u 2), zJ K 1400 (fun _ => 0)), ((u 3), zJ K 1400 (fun _ => 0))])) A)) (by decide +kernel) (Nat.le_of_ble_eq_true rfl) ?_
  intro p e s m args below meth c A ls H hx hb hr hg hown hlocks hml hin hK hP hD hA hS hZ hl
  have hown : s.vm.findClass RX1 = some m.cls := hown
  have hl : lv_has ls 6 [(0, .ref a0), (1, .ref a1), (2, .int ((640 : Int32) + ((2 : Int32) * (nI j0)))), (3, .int 1), (4, .int 1)] := hl
  refine lv_aload_n hx hb dX1_find_0 rfl (lv_at hl 0 rfl) ?_
  refine z_get (v := .ref a2) hx hb hg hown hK hP i_X1 rfl 0 rfl 0 (by decide) mt249 e0 dX1_find_1 ?_
  refine z_callv [(a2, zO 3 7 g2), (a1, zO 4 6 g1), (a3, zI K 8 f3), (a4, zO 4 6 g4), (a5, zI K 8 f5), (a6, zR K 512 f6)] [(a0, zO 1 18 g0), (a7, zO 2 6 g7), (a8, zI K 10 f8)] [1, 2, 3, 4, 5, 6] [0, 7, 8] hP hD hS hA rfl rfl (by decide) (by decide) (by decide +kernel) 4 4203 rfl rfl (fun hPc hDc hF => z_runV (As := []) (rest := []) ⟨hx, hb, hml, hown, hg⟩ (cX3_prepare_1 l K H.size a2 a1 a3 a4 a5 a6 g2 g1 f3 g4 f5 f6 e1 e2 e3 e4 e5 e6 e7 e8 e9 e10 e11 e12 e13 e14 e15 e16 e17 e18 e19 e20 e21 e22 e23 e24) kV_RX1_46 hd_X3_prepare rfl rfl ⟨(Nat.le_of_ble_eq_true rfl), (Nat.le_of_ble_eq_true rfl)⟩ hK hS hZ hPc hDc hF 0 rfl rfl rfl hl.1 rfl (Nat.le_of_ble_eq_true rfl) dX1_find_4 ⟨(Nat.le_of_ble_eq_true rfl), (Nat.le_of_ble_eq_true rfl)⟩) (fun u1 H locs w2 hP hD hS => ?_)
  have hP : va_P K.1 classes [(a0, zO 1 18 g0), (a7, zO 2 6 g7), (a8, zI K 10 f8), (a2, zO 3 7 (va_up (va_up (va_up (va_up (va_up g2 5 (.int 0)) 5 (.int 0)) 3 (.int 1)) 4 (.int 0)) 6 (.int 0))), (a1, zO 4 6 g1), (a3, zI K 8 f3), (a4, zO 4 6 g4), (a5, zI K 8 f5), (a6, zR K 512 (va_up f6 0 (some (u1 0)))), ((u1 0), zO 6 3 (va_up (va_up (va_up (fun k => defaultValue (tyX7 k)) 0 (.ref (u1 1))) 1 (.ref (u1 2))) 2 (.ref (u1 3)))), ((u1 1), zJ K 1400 (fun _ => 0)), ((u1 2), zJ K 1400 (fun _ => 0)), ((u1 3), zJ K 1400 (fun _ => 0))] H := hP
  have hD : va_D A [(a0, zO 1 18 g0), (a7, zO 2 6 g7), (a8, zI K 10 f8), (a2, zO 3 7 (va_up (va_up (va_up (va_up (va_up g2 5 (.int 0)) 5 (.int 0)) 3 (.int 1)) 4 (.int 0)) 6 (.int 0))), (a1, zO 4 6 g1), (a3, zI K 8 f3), (a4, zO 4 6 g4), (a5, zI K 8 f5), (a6, zR K 512 (va_up f6 0 (some (u1 0)))), ((u1 0), zO 6 3 (va_up (va_up (va_up (fun k => defaultValue (tyX7 k)) 0 (.ref (u1 1))) 1 (.ref (u1 2))) 2 (.ref (u1 3)))), ((u1 1), zJ K 1400 (fun _ => 0)), ((u1 2), zJ K 1400 (fun _ => 0)), ((u1 3), zJ K 1400 (fun _ => 0))] := hD
  obtain ⟨gg4, y5⟩ : ∃ z, z = ((va_up (va_up (va_up (va_up (va_up g2 5 (.int 0)) 5 (.int 0)) 3 (.int 1)) 4 (.int 0)) 6 (.int 0)) : Nat → Value) := ⟨_, rfl⟩
  rw [← y5] at hP hD
  obtain ⟨gg6, y7⟩ : ∃ z, z = ((va_up (va_up (va_up (fun k => defaultValue (tyX7 k)) 0 (.ref (u1 1))) 1 (.ref (u1 2))) 2 (.ref (u1 3))) : Nat → Value) := ⟨_, rfl⟩
  rw [← y7] at hP hD
  refine lv_aload_n hx hb dX1_find_7 rfl (lv_at hl 0 rfl) ?_
  refine z_get (v := .ref a7) hx hb hg hown hK hP i_X1 rfl 0 rfl 1 (by decide) mt250 e25 dX1_find_8 ?_
  refine z_callv [(a7, zO 2 6 g7)] [(a0, zO 1 18 g0), (a8, zI K 10 f8), (a2, zO 3 7 gg4), (a1, zO 4 6 g1), (a3, zI K 8 f3), (a4, zO 4 6 g4), (a5, zI K 8 f5), (a6, zR K 512 (va_up f6 0 (some (u1 0)))), ((u1 0), zO 6 3 gg6), ((u1 1), zJ K 1400 (fun _ => 0)), ((u1 2), zJ K 1400 (fun _ => 0)), ((u1 3), zJ K 1400 (fun _ => 0))] [1] [0, 2, 3, 4, 5, 6, 7, 8, 9, 10, 11, 12] hP hD hS hA rfl rfl (by decide) (by decide) (by decide +kernel) 4 4203 rfl rfl (fun hPc hDc hF => z_runV (As := []) (rest := []) ⟨hx, hb, hml, hown, hg⟩ (cX2_clear_1 l K H.size a7 g7) kV_RX1_49 hd_X2_clear rfl rfl ⟨(Nat.le_of_ble_eq_true rfl), (Nat.le_of_ble_eq_true rfl)⟩ hK hS hZ hPc hDc hF 0 rfl rfl rfl hl.1 rfl (Nat.le_of_ble_eq_true rfl) dX1_find_11 ⟨(Nat.le_of_ble_eq_true rfl), (Nat.le_of_ble_eq_true rfl)⟩) (fun u8 H locs w9 hP hD hS => ?_)
  have hP : va_P K.1 classes [(a0, zO 1 18 g0), (a8, zI K 10 f8), (a2, zO 3 7 gg4), (a1, zO 4 6 g1), (a3, zI K 8 f3), (a4, zO 4 6 g4), (a5, zI K 8 f5), (a6, zR K 512 (va_up f6 0 (some (u1 0)))), ((u1 0), zO 6 3 gg6), ((u1 1), zJ K 1400 (fun _ => 0)), ((u1 2), zJ K 1400 (fun _ => 0)), ((u1 3), zJ K 1400 (fun _ => 0)), (a7, zO 2 6 (va_up g7 5 (.int 0)))] H := hP
  have hD : va_D A [(a0, zO 1 18 g0), (a8, zI K 10 f8), (a2, zO 3 7 gg4), (a1, zO 4 6 g1), (a3, zI K 8 f3), (a4, zO 4 6 g4), (a5, zI K 8 f5), (a6, zR K 512 (va_up f6 0 (some (u1 0)))), ((u1 0), zO 6 3 gg6), ((u1 1), zJ K 1400 (fun _ => 0)), ((u1 2), zJ K 1400 (fun _ => 0)), ((u1 3), zJ K 1400 (fun _ => 0)), (a7, zO 2 6 (va_up g7 5 (.int 0)))] := hD
  refine lv_aload_n hx hb dX1_find_14 rfl (lv_at hl 0 rfl) ?_
  refine z_get (v := .ref a8) hx hb hg hown hK hP i_X1 rfl 0 rfl 2 (by decide) mt251 e26 dX1_find_15 ?_
  refine lv_iconst (v := 0) hx hb dX1_find_18 (by decide) ?_
  refine z_callv [(a8, zI K 10 f8)] [(a0, zO 1 18 g0), (a2, zO 3 7 gg4), (a1, zO 4 6 g1), (a3, zI K 8 f3), (a4, zO 4 6 g4), (a5, zI K 8 f5), (a6, zR K 512 (va_up f6 0 (some (u1 0)))), ((u1 0), zO 6 3 gg6), ((u1 1), zJ K 1400 (fun _ => 0)), ((u1 2), zJ K 1400 (fun _ => 0)), ((u1 3), zJ K 1400 (fun _ => 0)), (a7, zO 2 6 (va_up g7 5 (.int 0)))] [1] [0, 2, 3, 4, 5, 6, 7, 8, 9, 10, 11, 12] hP hD hS hA rfl rfl (by decide) (by decide) (by decide +kernel) 4 4203 rfl rfl (fun hPc hDc hF => z_runS (As := [.ref a8, .int 0]) (rest := []) ⟨hx, hb, hml, hown, hg⟩ (cJ7_fill_53178_1 l K H.size a8 f8) kS_RX1_52 hd_J7_fill_53178 rfl rfl ⟨(Nat.le_of_ble_eq_true rfl), (Nat.le_of_ble_eq_true rfl)⟩ hK hS hZ hPc hDc hF rfl hl.1 rfl (Nat.le_of_ble_eq_true rfl) dX1_find_19 ⟨(Nat.le_of_ble_eq_true rfl), (Nat.le_of_ble_eq_true rfl)⟩) (fun u11 H locs w12 hP hD hS => ?_)
  have hP : va_P K.1 classes [(a0, zO 1 18 g0), (a2, zO 3 7 gg4), (a1, zO 4 6 g1), (a3, zI K 8 f3), (a4, zO 4 6 g4), (a5, zI K 8 f5), (a6, zR K 512 (va_up f6 0 (some (u1 0)))), ((u1 0), zO 6 3 gg6), ((u1 1), zJ K 1400 (fun _ => 0)), ((u1 2), zJ K 1400 (fun _ => 0)), ((u1 3), zJ K 1400 (fun _ => 0)), (a7, zO 2 6 (va_up g7 5 (.int 0))), (a8, zI K 10 (va_up (va_up (va_up (va_up (va_up (va_up (va_up (va_up (va_up (va_up f8 0 0) 1 0) 2 0) 3 0) 4 0) 5 0) 6 0) 7 0) 8 0) 9 0))] H := hP
  have hD : va_D A [(a0, zO 1 18 g0), (a2, zO 3 7 gg4), (a1, zO 4 6 g1), (a3, zI K 8 f3), (a4, zO 4 6 g4), (a5, zI K 8 f5), (a6, zR K 512 (va_up f6 0 (some (u1 0)))), ((u1 0), zO 6 3 gg6), ((u1 1), zJ K 1400 (fun _ => 0)), ((u1 2), zJ K 1400 (fun _ => 0)), ((u1 3), zJ K 1400 (fun _ => 0)), (a7, zO 2 6 (va_up g7 5 (.int 0))), (a8, zI K 10 (va_up (va_up (va_up (va_up (va_up (va_up (va_up (va_up (va_up (va_up f8 0 0) 1 0) 2 0) 3 0) 4 0) 5 0) 6 0) 7 0) 8 0) 9 0))] := hD
  obtain ⟨ff14, y15⟩ : ∃ z, z = ((va_up (va_up (va_up (va_up (va_up (va_up (va_up (va_up (va_up (va_up f8 0 0) 1 0) 2 0) 3 0) 4 0) 5 0) 6 0) 7 0) 8 0) 9 0) : Nat → Int32) := ⟨_, rfl⟩
  rw [← y15] at hP hD
  refine lv_aload_n hx hb dX1_find_22 rfl (lv_at hl 0 rfl) ?_
  refine lv_aload_n hx hb dX1_find_23 rfl (lv_at hl 1 rfl) ?_
  refine z_put hx hb hg hown hK hP hD hS i_X1 rfl tyX1_ok nmX1 0 rfl 6 (by decide) mt255 rfl rfl rfl dX1_find_24 (fun gg16 H locs y17 hP hD hS => ?_)
  have hP : va_P K.1 classes [(a0, zO 1 18 gg16), (a2, zO 3 7 gg4), (a1, zO 4 6 g1), (a3, zI K 8 f3), (a4, zO 4 6 g4), (a5, zI K 8 f5), (a6, zR K 512 (va_up f6 0 (some (u1 0)))), ((u1 0), zO 6 3 gg6), ((u1 1), zJ K 1400 (fun _ => 0)), ((u1 2), zJ K 1400 (fun _ => 0)), ((u1 3), zJ K 1400 (fun _ => 0)), (a7, zO 2 6 (va_up g7 5 (.int 0))), (a8, zI K 10 ff14)] H := hP
  have hD : va_D A [(a0, zO 1 18 gg16), (a2, zO 3 7 gg4), (a1, zO 4 6 g1), (a3, zI K 8 f3), (a4, zO 4 6 g4), (a5, zI K 8 f5), (a6, zR K 512 (va_up f6 0 (some (u1 0)))), ((u1 0), zO 6 3 gg6), ((u1 1), zJ K 1400 (fun _ => 0)), ((u1 2), zJ K 1400 (fun _ => 0)), ((u1 3), zJ K 1400 (fun _ => 0)), (a7, zO 2 6 (va_up g7 5 (.int 0))), (a8, zI K 10 ff14)] := hD
  refine lv_aload_n hx hb dX1_find_27 rfl (lv_at hl 0 rfl) ?_
  refine lv_iload_n hx hb dX1_find_28 rfl (lv_at hl 3 rfl) ?_
  refine z_put hx hb hg hown hK hP hD hS i_X1 rfl tyX1_ok nmX1 0 rfl 7 (by decide) mt256 rfl rfl rfl dX1_find_29 (fun gg18 H locs y19 hP hD hS => ?_)
  have hP : va_P K.1 classes [(a0, zO 1 18 gg18), (a2, zO 3 7 gg4), (a1, zO 4 6 g1), (a3, zI K 8 f3), (a4, zO 4 6 g4), (a5, zI K 8 f5), (a6, zR K 512 (va_up f6 0 (some (u1 0)))), ((u1 0), zO 6 3 gg6), ((u1 1), zJ K 1400 (fun _ => 0)), ((u1 2), zJ K 1400 (fun _ => 0)), ((u1 3), zJ K 1400 (fun _ => 0)), (a7, zO 2 6 (va_up g7 5 (.int 0))), (a8, zI K 10 ff14)] H := hP
  have hD : va_D A [(a0, zO 1 18 gg18), (a2, zO 3 7 gg4), (a1, zO 4 6 g1), (a3, zI K 8 f3), (a4, zO 4 6 g4), (a5, zI K 8 f5), (a6, zR K 512 (va_up f6 0 (some (u1 0)))), ((u1 0), zO 6 3 gg6), ((u1 1), zJ K 1400 (fun _ => 0)), ((u1 2), zJ K 1400 (fun _ => 0)), ((u1 3), zJ K 1400 (fun _ => 0)), (a7, zO 2 6 (va_up g7 5 (.int 0))), (a8, zI K 10 ff14)] := hD
  refine lv_aload_n hx hb dX1_find_32 rfl (lv_at hl 0 rfl) ?_
  refine lv_iload hx hb dX1_find_33 (lv_at hl 4 rfl) ?_
  refine z_put hx hb hg hown hK hP hD hS i_X1 rfl tyX1_ok nmX1 0 rfl 9 (by decide) mt258 rfl rfl rfl dX1_find_35 (fun gg20 H locs y21 hP hD hS => ?_)
  have hP : va_P K.1 classes [(a0, zO 1 18 gg20), (a2, zO 3 7 gg4), (a1, zO 4 6 g1), (a3, zI K 8 f3), (a4, zO 4 6 g4), (a5, zI K 8 f5), (a6, zR K 512 (va_up f6 0 (some (u1 0)))), ((u1 0), zO 6 3 gg6), ((u1 1), zJ K 1400 (fun _ => 0)), ((u1 2), zJ K 1400 (fun _ => 0)), ((u1 3), zJ K 1400 (fun _ => 0)), (a7, zO 2 6 (va_up g7 5 (.int 0))), (a8, zI K 10 ff14)] H := hP
  have hD : va_D A [(a0, zO 1 18 gg20), (a2, zO 3 7 gg4), (a1, zO 4 6 g1), (a3, zI K 8 f3), (a4, zO 4 6 g4), (a5, zI K 8 f5), (a6, zR K 512 (va_up f6 0 (some (u1 0)))), ((u1 0), zO 6 3 gg6), ((u1 1), zJ K 1400 (fun _ => 0)), ((u1 2), zJ K 1400 (fun _ => 0)), ((u1 3), zJ K 1400 (fun _ => 0)), (a7, zO 2 6 (va_up g7 5 (.int 0))), (a8, zI K 10 ff14)] := hD
  refine lv_aload_n hx hb dX1_find_38 rfl (lv_at hl 0 rfl) ?_
  refine lv_iconst (v := 0) hx hb dX1_find_39 (by decide) ?_
  refine z_put hx hb hg hown hK hP hD hS i_X1 rfl tyX1_ok nmX1 0 rfl 4 (by decide) mt253 rfl rfl rfl dX1_find_40 (fun gg22 H locs y23 hP hD hS => ?_)
  have hP : va_P K.1 classes [(a0, zO 1 18 gg22), (a2, zO 3 7 gg4), (a1, zO 4 6 g1), (a3, zI K 8 f3), (a4, zO 4 6 g4), (a5, zI K 8 f5), (a6, zR K 512 (va_up f6 0 (some (u1 0)))), ((u1 0), zO 6 3 gg6), ((u1 1), zJ K 1400 (fun _ => 0)), ((u1 2), zJ K 1400 (fun _ => 0)), ((u1 3), zJ K 1400 (fun _ => 0)), (a7, zO 2 6 (va_up g7 5 (.int 0))), (a8, zI K 10 ff14)] H := hP
  have hD : va_D A [(a0, zO 1 18 gg22), (a2, zO 3 7 gg4), (a1, zO 4 6 g1), (a3, zI K 8 f3), (a4, zO 4 6 g4), (a5, zI K 8 f5), (a6, zR K 512 (va_up f6 0 (some (u1 0)))), ((u1 0), zO 6 3 gg6), ((u1 1), zJ K 1400 (fun _ => 0)), ((u1 2), zJ K 1400 (fun _ => 0)), ((u1 3), zJ K 1400 (fun _ => 0)), (a7, zO 2 6 (va_up g7 5 (.int 0))), (a8, zI K 10 ff14)] := hD
  refine lv_aload_n hx hb dX1_find_43 rfl (lv_at hl 0 rfl) ?_
  refine lv_iconst (v := 0) hx hb dX1_find_44 (by decide) ?_
  refine z_put hx hb hg hown hK hP hD hS i_X1 rfl tyX1_ok nmX1 0 rfl 5 (by decide) mt254 rfl rfl rfl dX1_find_45 (fun gg24 H locs y25 hP hD hS => ?_)
  have hP : va_P K.1 classes [(a0, zO 1 18 gg24), (a2, zO 3 7 gg4), (a1, zO 4 6 g1), (a3, zI K 8 f3), (a4, zO 4 6 g4), (a5, zI K 8 f5), (a6, zR K 512 (va_up f6 0 (some (u1 0)))), ((u1 0), zO 6 3 gg6), ((u1 1), zJ K 1400 (fun _ => 0)), ((u1 2), zJ K 1400 (fun _ => 0)), ((u1 3), zJ K 1400 (fun _ => 0)), (a7, zO 2 6 (va_up g7 5 (.int 0))), (a8, zI K 10 ff14)] H := hP
  have hD : va_D A [(a0, zO 1 18 gg24), (a2, zO 3 7 gg4), (a1, zO 4 6 g1), (a3, zI K 8 f3), (a4, zO 4 6 g4), (a5, zI K 8 f5), (a6, zR K 512 (va_up f6 0 (some (u1 0)))), ((u1 0), zO 6 3 gg6), ((u1 1), zJ K 1400 (fun _ => 0)), ((u1 2), zJ K 1400 (fun _ => 0)), ((u1 3), zJ K 1400 (fun _ => 0)), (a7, zO 2 6 (va_up g7 5 (.int 0))), (a8, zI K 10 ff14)] := hD
  refine lv_aload_n hx hb dX1_find_48 rfl (lv_at hl 0 rfl) ?_
  refine lv_iconst (v := 0) hx hb dX1_find_49 (by decide) ?_
  refine z_put hx hb hg hown hK hP hD hS i_X1 rfl tyX1_ok nmX1 0 rfl 8 (by decide) mt257 rfl rfl rfl dX1_find_50 (fun gg26 H locs y27 hP hD hS => ?_)
  have hP : va_P K.1 classes [(a0, zO 1 18 gg26), (a2, zO 3 7 gg4), (a1, zO 4 6 g1), (a3, zI K 8 f3), (a4, zO 4 6 g4), (a5, zI K 8 f5), (a6, zR K 512 (va_up f6 0 (some (u1 0)))), ((u1 0), zO 6 3 gg6), ((u1 1), zJ K 1400 (fun _ => 0)), ((u1 2), zJ K 1400 (fun _ => 0)), ((u1 3), zJ K 1400 (fun _ => 0)), (a7, zO 2 6 (va_up g7 5 (.int 0))), (a8, zI K 10 ff14)] H := hP
  have hD : va_D A [(a0, zO 1 18 gg26), (a2, zO 3 7 gg4), (a1, zO 4 6 g1), (a3, zI K 8 f3), (a4, zO 4 6 g4), (a5, zI K 8 f5), (a6, zR K 512 (va_up f6 0 (some (u1 0)))), ((u1 0), zO 6 3 gg6), ((u1 1), zJ K 1400 (fun _ => 0)), ((u1 2), zJ K 1400 (fun _ => 0)), ((u1 3), zJ K 1400 (fun _ => 0)), (a7, zO 2 6 (va_up g7 5 (.int 0))), (a8, zI K 10 ff14)] := hD
  refine lv_aload_n hx hb dX1_find_53 rfl (lv_at hl 0 rfl) ?_
  refine lv_iconst (v := 0) hx hb dX1_find_54 (by decide) ?_
  refine z_put hx hb hg hown hK hP hD hS i_X1 rfl tyX1_ok nmX1 0 rfl 10 (by decide) mt259 rfl rfl rfl dX1_find_55 (fun gg28 H locs y29 hP hD hS => ?_)
  have hP : va_P K.1 classes [(a0, zO 1 18 gg28), (a2, zO 3 7 gg4), (a1, zO 4 6 g1), (a3, zI K 8 f3), (a4, zO 4 6 g4), (a5, zI K 8 f5), (a6, zR K 512 (va_up f6 0 (some (u1 0)))), ((u1 0), zO 6 3 gg6), ((u1 1), zJ K 1400 (fun _ => 0)), ((u1 2), zJ K 1400 (fun _ => 0)), ((u1 3), zJ K 1400 (fun _ => 0)), (a7, zO 2 6 (va_up g7 5 (.int 0))), (a8, zI K 10 ff14)] H := hP
  have hD : va_D A [(a0, zO 1 18 gg28), (a2, zO 3 7 gg4), (a1, zO 4 6 g1), (a3, zI K 8 f3), (a4, zO 4 6 g4), (a5, zI K 8 f5), (a6, zR K 512 (va_up f6 0 (some (u1 0)))), ((u1 0), zO 6 3 gg6), ((u1 1), zJ K 1400 (fun _ => 0)), ((u1 2), zJ K 1400 (fun _ => 0)), ((u1 3), zJ K 1400 (fun _ => 0)), (a7, zO 2 6 (va_up g7 5 (.int 0))), (a8, zI K 10 ff14)] := hD
  refine lv_aload_n hx hb dX1_find_58 rfl (lv_at hl 0 rfl) ?_
  refine lv_iconst (v := (-1)) hx hb dX1_find_59 (by decide) ?_
  refine z_put hx hb hg hown hK hP hD hS i_X1 rfl tyX1_ok nmX1 0 rfl 13 (by decide) mt262 rfl rfl rfl dX1_find_60 (fun gg30 H locs y31 hP hD hS => ?_)
  have hP : va_P K.1 classes [(a0, zO 1 18 gg30), (a2, zO 3 7 gg4), (a1, zO 4 6 g1), (a3, zI K 8 f3), (a4, zO 4 6 g4), (a5, zI K 8 f5), (a6, zR K 512 (va_up f6 0 (some (u1 0)))), ((u1 0), zO 6 3 gg6), ((u1 1), zJ K 1400 (fun _ => 0)), ((u1 2), zJ K 1400 (fun _ => 0)), ((u1 3), zJ K 1400 (fun _ => 0)), (a7, zO 2 6 (va_up g7 5 (.int 0))), (a8, zI K 10 ff14)] H := hP
  have hD : va_D A [(a0, zO 1 18 gg30), (a2, zO 3 7 gg4), (a1, zO 4 6 g1), (a3, zI K 8 f3), (a4, zO 4 6 g4), (a5, zI K 8 f5), (a6, zR K 512 (va_up f6 0 (some (u1 0)))), ((u1 0), zO 6 3 gg6), ((u1 1), zJ K 1400 (fun _ => 0)), ((u1 2), zJ K 1400 (fun _ => 0)), ((u1 3), zJ K 1400 (fun _ => 0)), (a7, zO 2 6 (va_up g7 5 (.int 0))), (a8, zI K 10 ff14)] := hD
  refine lv_aload_n hx hb dX1_find_63 rfl (lv_at hl 0 rfl) ?_
  refine lv_iconst (v := 0) hx hb dX1_find_64 (by decide) ?_
  refine z_put hx hb hg hown hK hP hD hS i_X1 rfl tyX1_ok nmX1 0 rfl 14 (by decide) mt263 rfl rfl rfl dX1_find_65 (fun gg32 H locs y33 hP hD hS => ?_)
  have hP : va_P K.1 classes [(a0, zO 1 18 gg32), (a2, zO 3 7 gg4), (a1, zO 4 6 g1), (a3, zI K 8 f3), (a4, zO 4 6 g4), (a5, zI K 8 f5), (a6, zR K 512 (va_up f6 0 (some (u1 0)))), ((u1 0), zO 6 3 gg6), ((u1 1), zJ K 1400 (fun _ => 0)), ((u1 2), zJ K 1400 (fun _ => 0)), ((u1 3), zJ K 1400 (fun _ => 0)), (a7, zO 2 6 (va_up g7 5 (.int 0))), (a8, zI K 10 ff14)] H := hP
  have hD : va_D A [(a0, zO 1 18 gg32), (a2, zO 3 7 gg4), (a1, zO 4 6 g1), (a3, zI K 8 f3), (a4, zO 4 6 g4), (a5, zI K 8 f5), (a6, zR K 512 (va_up f6 0 (some (u1 0)))), ((u1 0), zO 6 3 gg6), ((u1 1), zJ K 1400 (fun _ => 0)), ((u1 2), zJ K 1400 (fun _ => 0)), ((u1 3), zJ K 1400 (fun _ => 0)), (a7, zO 2 6 (va_up g7 5 (.int 0))), (a8, zI K 10 ff14)] := hD
  refine lv_aload_n hx hb dX1_find_68 rfl (lv_at hl 0 rfl) ?_
  refine lv_bipush (v := 6) hx hb dX1_find_69 (by decide) ?_
  refine z_put hx hb hg hown hK hP hD hS i_X1 rfl tyX1_ok nmX1 0 rfl 16 (by decide) mt265 rfl rfl rfl dX1_find_71 (fun gg34 H locs y35 hP hD hS => ?_)
  have hP : va_P K.1 classes [(a0, zO 1 18 gg34), (a2, zO 3 7 gg4), (a1, zO 4 6 g1), (a3, zI K 8 f3), (a4, zO 4 6 g4), (a5, zI K 8 f5), (a6, zR K 512 (va_up f6 0 (some (u1 0)))), ((u1 0), zO 6 3 gg6), ((u1 1), zJ K 1400 (fun _ => 0)), ((u1 2), zJ K 1400 (fun _ => 0)), ((u1 3), zJ K 1400 (fun _ => 0)), (a7, zO 2 6 (va_up g7 5 (.int 0))), (a8, zI K 10 ff14)] H := hP
  have hD : va_D A [(a0, zO 1 18 gg34), (a2, zO 3 7 gg4), (a1, zO 4 6 g1), (a3, zI K 8 f3), (a4, zO 4 6 g4), (a5, zI K 8 f5), (a6, zR K 512 (va_up f6 0 (some (u1 0)))), ((u1 0), zO 6 3 gg6), ((u1 1), zJ K 1400 (fun _ => 0)), ((u1 2), zJ K 1400 (fun _ => 0)), ((u1 3), zJ K 1400 (fun _ => 0)), (a7, zO 2 6 (va_up g7 5 (.int 0))), (a8, zI K 10 ff14)] := hD
  refine lv_aload_n hx hb dX1_find_74 rfl (lv_at hl 0 rfl) ?_
  refine lv_iconst (v := 0) hx hb dX1_find_75 (by decide) ?_
  refine z_put hx hb hg hown hK hP hD hS i_X1 rfl tyX1_ok nmX1 0 rfl 17 (by decide) mt266 rfl rfl rfl dX1_find_76 (fun gg36 H locs y37 hP hD hS => ?_)
  have hP : va_P K.1 classes [(a0, zO 1 18 gg36), (a2, zO 3 7 gg4), (a1, zO 4 6 g1), (a3, zI K 8 f3), (a4, zO 4 6 g4), (a5, zI K 8 f5), (a6, zR K 512 (va_up f6 0 (some (u1 0)))), ((u1 0), zO 6 3 gg6), ((u1 1), zJ K 1400 (fun _ => 0)), ((u1 2), zJ K 1400 (fun _ => 0)), ((u1 3), zJ K 1400 (fun _ => 0)), (a7, zO 2 6 (va_up g7 5 (.int 0))), (a8, zI K 10 ff14)] H := hP
  have hD : va_D A [(a0, zO 1 18 gg36), (a2, zO 3 7 gg4), (a1, zO 4 6 g1), (a3, zI K 8 f3), (a4, zO 4 6 g4), (a5, zI K 8 f5), (a6, zR K 512 (va_up f6 0 (some (u1 0)))), ((u1 0), zO 6 3 gg6), ((u1 1), zJ K 1400 (fun _ => 0)), ((u1 2), zJ K 1400 (fun _ => 0)), ((u1 3), zJ K 1400 (fun _ => 0)), (a7, zO 2 6 (va_up g7 5 (.int 0))), (a8, zI K 10 ff14)] := hD
  refine lv_aload_n hx hb dX1_find_79 rfl (lv_at hl 0 rfl) ?_
  refine lv_iload_n hx hb dX1_find_80 rfl (lv_at hl 2 rfl) ?_
  refine z_callv [(a0, zO 1 18 gg36)] [(a2, zO 3 7 gg4), (a1, zO 4 6 g1), (a3, zI K 8 f3), (a4, zO 4 6 g4), (a5, zI K 8 f5), (a6, zR K 512 (va_up f6 0 (some (u1 0)))), ((u1 0), zO 6 3 gg6), ((u1 1), zJ K 1400 (fun _ => 0)), ((u1 2), zJ K 1400 (fun _ => 0)), ((u1 3), zJ K 1400 (fun _ => 0)), (a7, zO 2 6 (va_up g7 5 (.int 0))), (a8, zI K 10 ff14)] [0] [1, 2, 3, 4, 5, 6, 7, 8, 9, 10, 11, 12] hP hD hS hA rfl rfl (by decide) (by decide) (by decide +kernel) 4 4203 rfl rfl (fun hPc hDc hF => z_runV (As := [.int ((640 : Int32) + ((2 : Int32) * (nI j0)))]) (rest := []) ⟨hx, hb, hml, hown, hg⟩ (cX1_goTo_1 l K H.size a0 gg36 j0 hj0) kV_RX1_86 hd_X1_goTo rfl rfl ⟨(Nat.le_of_ble_eq_true rfl), (Nat.le_of_ble_eq_true rfl)⟩ hK hS hZ hPc hDc hF 0 rfl rfl rfl hl.1 rfl (Nat.le_of_ble_eq_true rfl) dX1_find_81 ⟨(Nat.le_of_ble_eq_true rfl), (Nat.le_of_ble_eq_true rfl)⟩) (fun u38 H locs w39 hP hD hS => ?_)
  have hP : va_P K.1 classes [(a2, zO 3 7 gg4), (a1, zO 4 6 g1), (a3, zI K 8 f3), (a4, zO 4 6 g4), (a5, zI K 8 f5), (a6, zR K 512 (va_up f6 0 (some (u1 0)))), ((u1 0), zO 6 3 gg6), ((u1 1), zJ K 1400 (fun _ => 0)), ((u1 2), zJ K 1400 (fun _ => 0)), ((u1 3), zJ K 1400 (fun _ => 0)), (a7, zO 2 6 (va_up g7 5 (.int 0))), (a8, zI K 10 ff14), (a0, zO 1 18 (va_up (va_up gg36 12 (.int ((640 : Int32) + ((2 : Int32) * (nI j0))))) 11 (.int 0)))] H := hP
  have hD : va_D A [(a2, zO 3 7 gg4), (a1, zO 4 6 g1), (a3, zI K 8 f3), (a4, zO 4 6 g4), (a5, zI K 8 f5), (a6, zR K 512 (va_up f6 0 (some (u1 0)))), ((u1 0), zO 6 3 gg6), ((u1 1), zJ K 1400 (fun _ => 0)), ((u1 2), zJ K 1400 (fun _ => 0)), ((u1 3), zJ K 1400 (fun _ => 0)), (a7, zO 2 6 (va_up g7 5 (.int 0))), (a8, zI K 10 ff14), (a0, zO 1 18 (va_up (va_up gg36 12 (.int ((640 : Int32) + ((2 : Int32) * (nI j0))))) 11 (.int 0)))] := hD
  obtain ⟨gg41, y42⟩ : ∃ z, z = ((va_up (va_up gg36 12 (.int ((640 : Int32) + ((2 : Int32) * (nI j0))))) 11 (.int 0)) : Nat → Value) := ⟨_, rfl⟩
  rw [← y42] at hP hD
  refine lv_iconst (v := 0) hx hb dX1_find_84 (by decide) ?_
  refine lv_istore (lv' := [(5, .int 0), (0, .ref a0), (1, .ref a1), (2, .int ((640 : Int32) + ((2 : Int32) * (nI j0)))), (3, .int 1), (4, .int 1)]) hx hb dX1_find_85 hl (by decide) rfl (fun ls hl => ?_)
  refine lv_iload hx hb dX1_find_87 (lv_at hl 0 rfl) ?_
  refine lv_ldc (v := 1000000) hx hb hown (hg _ mt961) dX1_find_89 ?_
  refine lv_icmp_ge (tgt := 189) hx hb dX1_find_91 (by decide) (fun c => absurd c (by decide)) (fun _ => ?_)
  refine lv_aload_n hx hb dX1_find_94 rfl (lv_at hl 1 rfl) ?_
  refine z_get (v := .int 0) hx hb hg hown hK hP i_X1 rfl 12 rfl 11 (by decide) mt260 (zu_of y42 zu_eq) dX1_find_95 ?_
  refine lv_bipush (v := 6) hx hb dX1_find_98 (by decide) ?_
  refine lv_icmp_eq (tgt := 189) hx hb dX1_find_100 (by decide) (fun c => absurd c (by decide)) (fun _ => ?_)
  refine lv_aload_n hx hb dX1_find_103 rfl (lv_at hl 1 rfl) ?_
  refine z_get (v := .int 0) hx hb hg hown hK hP i_X1 rfl 12 rfl 11 (by decide) mt260 (zu_of y42 zu_eq) dX1_find_104 ?_
  refine lv_tableIn (off := 33) (tgt := 140) hx hb dX1_find_107 (by decide) (by decide) (by decide) (by decide) ?_
  refine lv_aload_n hx hb dX1_find_140 rfl (lv_at hl 1 rfl) ?_
  refine z_callv [(a0, zO 1 18 gg41)] [(a2, zO 3 7 gg4), (a1, zO 4 6 g1), (a3, zI K 8 f3), (a4, zO 4 6 g4), (a5, zI K 8 f5), (a6, zR K 512 (va_up f6 0 (some (u1 0)))), ((u1 0), zO 6 3 gg6), ((u1 1), zJ K 1400 (fun _ => 0)), ((u1 2), zJ K 1400 (fun _ => 0)), ((u1 3), zJ K 1400 (fun _ => 0)), (a7, zO 2 6 (va_up g7 5 (.int 0))), (a8, zI K 10 ff14)] [12] [0, 1, 2, 3, 4, 5, 6, 7, 8, 9, 10, 11] hP hD hS hA rfl rfl (by decide) (by decide) (by decide +kernel) 4 4203 rfl rfl (fun hPc hDc hF => z_runV (As := []) (rest := []) ⟨hx, hb, hml, hown, hg⟩ (cX1_step_1 l K H.size a0 gg41 (zu_of y42 (zu_ne (by decide) (zu_ne (by decide) (zu_of y37 (zu_ne (by decide) (zu_of y35 (zu_ne (by decide) (zu_of y33 (zu_ne (by decide) (zu_of y31 (zu_ne (by decide) (zu_of y29 zu_eq)))))))))))) (zu_of y42 (zu_ne (by decide) (zu_ne (by decide) (zu_of y37 (zu_ne (by decide) (zu_of y35 (zu_ne (by decide) (zu_of y33 (zu_ne (by decide) (zu_of y31 (zu_ne (by decide) (zu_of y29 (zu_ne (by decide) (zu_of y27 zu_eq)))))))))))))) (zu_of y42 (zu_ne (by decide) (zu_ne (by decide) (zu_of y37 (zu_ne (by decide) (zu_of y35 (zu_ne (by decide) (zu_of y33 (zu_ne (by decide) (zu_of y31 (zu_ne (by decide) (zu_of y29 (zu_ne (by decide) (zu_of y27 (zu_ne (by decide) (zu_of y25 (zu_ne (by decide) (zu_of y23 (zu_ne (by decide) (zu_of y21 zu_eq))))))))))))))))))))) kV_RX1_91 hd_X1_step rfl rfl ⟨(Nat.le_of_ble_eq_true rfl), (Nat.le_of_ble_eq_true rfl)⟩ hK hS hZ hPc hDc hF 0 rfl rfl rfl hl.1 rfl (Nat.le_of_ble_eq_true rfl) dX1_find_141 ⟨(Nat.le_of_ble_eq_true rfl), (Nat.le_of_ble_eq_true rfl)⟩) (fun u43 H locs w44 hP hD hS => ?_)
  have hP : va_P K.1 classes [(a2, zO 3 7 gg4), (a1, zO 4 6 g1), (a3, zI K 8 f3), (a4, zO 4 6 g4), (a5, zI K 8 f5), (a6, zR K 512 (va_up f6 0 (some (u1 0)))), ((u1 0), zO 6 3 gg6), ((u1 1), zJ K 1400 (fun _ => 0)), ((u1 2), zJ K 1400 (fun _ => 0)), ((u1 3), zJ K 1400 (fun _ => 0)), (a7, zO 2 6 (va_up g7 5 (.int 0))), (a8, zI K 10 ff14), (a0, zO 1 18 (va_up (va_up gg41 16 (.int 7)) 11 (.int 4)))] H := hP
  have hD : va_D A [(a2, zO 3 7 gg4), (a1, zO 4 6 g1), (a3, zI K 8 f3), (a4, zO 4 6 g4), (a5, zI K 8 f5), (a6, zR K 512 (va_up f6 0 (some (u1 0)))), ((u1 0), zO 6 3 gg6), ((u1 1), zJ K 1400 (fun _ => 0)), ((u1 2), zJ K 1400 (fun _ => 0)), ((u1 3), zJ K 1400 (fun _ => 0)), (a7, zO 2 6 (va_up g7 5 (.int 0))), (a8, zI K 10 ff14), (a0, zO 1 18 (va_up (va_up gg41 16 (.int 7)) 11 (.int 4)))] := hD
  obtain ⟨gg46, y47⟩ : ∃ z, z = ((va_up (va_up gg41 16 (.int 7)) 11 (.int 4)) : Nat → Value) := ⟨_, rfl⟩
  rw [← y47] at hP hD
  refine lv_goto (tgt := 183) hx hb dX1_find_144 (by decide) ?_
  refine lv_iinc (v := 1) (lv' := [(5, .int 1), (0, .ref a0), (1, .ref a1), (2, .int ((640 : Int32) + ((2 : Int32) * (nI j0)))), (3, .int 1), (4, .int 1)]) hx hb dX1_find_183 hl (k := 0) rfl (by decide +kernel) (by decide) rfl (fun ls hl => ?_)
  refine lv_goto (tgt := 87) hx hb dX1_find_186 (by decide) ?_
  refine lv_iload hx hb dX1_find_87 (lv_at hl 0 rfl) ?_
  refine lv_ldc (v := 1000000) hx hb hown (hg _ mt961) dX1_find_89 ?_
  refine lv_icmp_ge (tgt := 189) hx hb dX1_find_91 (by decide) (fun c => absurd c (by decide)) (fun _ => ?_)
  refine lv_aload_n hx hb dX1_find_94 rfl (lv_at hl 1 rfl) ?_
  refine z_get (v := .int 4) hx hb hg hown hK hP i_X1 rfl 12 rfl 11 (by decide) mt260 (zu_of y47 zu_eq) dX1_find_95 ?_
  refine lv_bipush (v := 6) hx hb dX1_find_98 (by decide) ?_
  refine lv_icmp_eq (tgt := 189) hx hb dX1_find_100 (by decide) (fun c => absurd c (by decide)) (fun _ => ?_)
  refine lv_aload_n hx hb dX1_find_103 rfl (lv_at hl 1 rfl) ?_
  refine z_get (v := .int 4) hx hb hg hown hK hP i_X1 rfl 12 rfl 11 (by decide) mt260 (zu_of y47 zu_eq) dX1_find_104 ?_
  refine lv_tableIn (off := 65) (tgt := 172) hx hb dX1_find_107 (by decide) (by decide) (by decide) (by decide) ?_
  refine lv_aload_n hx hb dX1_find_172 rfl (lv_at hl 1 rfl) ?_
  refine z_callv [(a0, zO 1 18 gg46), (a7, zO 2 6 (va_up g7 5 (.int 0)))] [(a2, zO 3 7 gg4), (a1, zO 4 6 g1), (a3, zI K 8 f3), (a4, zO 4 6 g4), (a5, zI K 8 f5), (a6, zR K 512 (va_up f6 0 (some (u1 0)))), ((u1 0), zO 6 3 gg6), ((u1 1), zJ K 1400 (fun _ => 0)), ((u1 2), zJ K 1400 (fun _ => 0)), ((u1 3), zJ K 1400 (fun _ => 0)), (a8, zI K 10 ff14)] [12, 10] [0, 1, 2, 3, 4, 5, 6, 7, 8, 9, 11] hP hD hS hA rfl rfl (by decide) (by decide) (by decide +kernel) 4 4203 rfl rfl (fun hPc hDc hF => z_runV (As := []) (rest := []) ⟨hx, hb, hml, hown, hg⟩ (cX1_leave_1 l K H.size a0 a7 gg46 (va_up g7 5 (.int 0)) (zu_of y47 (zu_ne (by decide) (zu_ne (by decide) (zu_of y42 (zu_ne (by decide) (zu_ne (by decide) (zu_of y37 (zu_ne (by decide) (zu_of y35 (zu_ne (by decide) (zu_of y33 (zu_ne (by decide) (zu_of y31 (zu_ne (by decide) (zu_of y29 (zu_ne (by decide) (zu_of y27 (zu_ne (by decide) (zu_of y25 (zu_ne (by decide) (zu_of y23 (zu_ne (by decide) (zu_of y21 (zu_ne (by decide) (zu_of y19 (zu_ne (by decide) (zu_of y17 (zu_ne (by decide) e25)))))))))))))))))))))))))))) zu_eq) kV_RX1_108 hd_X1_leave rfl rfl ⟨(Nat.le_of_ble_eq_true rfl), (Nat.le_of_ble_eq_true rfl)⟩ hK hS hZ hPc hDc hF 0 rfl rfl rfl hl.1 rfl (Nat.le_of_ble_eq_true rfl) dX1_find_173 ⟨(Nat.le_of_ble_eq_true rfl), (Nat.le_of_ble_eq_true rfl)⟩) (fun u48 H locs w49 hP hD hS => ?_)
  have hP : va_P K.1 classes [(a2, zO 3 7 gg4), (a1, zO 4 6 g1), (a3, zI K 8 f3), (a4, zO 4 6 g4), (a5, zI K 8 f5), (a6, zR K 512 (va_up f6 0 (some (u1 0)))), ((u1 0), zO 6 3 gg6), ((u1 1), zJ K 1400 (fun _ => 0)), ((u1 2), zJ K 1400 (fun _ => 0)), ((u1 3), zJ K 1400 (fun _ => 0)), (a8, zI K 10 ff14), (a0, zO 1 18 (va_up gg46 11 (.int 5))), (a7, zO 2 6 (va_up g7 5 (.int 0)))] H := hP
  have hD : va_D A [(a2, zO 3 7 gg4), (a1, zO 4 6 g1), (a3, zI K 8 f3), (a4, zO 4 6 g4), (a5, zI K 8 f5), (a6, zR K 512 (va_up f6 0 (some (u1 0)))), ((u1 0), zO 6 3 gg6), ((u1 1), zJ K 1400 (fun _ => 0)), ((u1 2), zJ K 1400 (fun _ => 0)), ((u1 3), zJ K 1400 (fun _ => 0)), (a8, zI K 10 ff14), (a0, zO 1 18 (va_up gg46 11 (.int 5))), (a7, zO 2 6 (va_up g7 5 (.int 0)))] := hD
  refine lv_goto (tgt := 183) hx hb dX1_find_176 (by decide) ?_
  refine lv_iinc (v := 2) (lv' := [(5, .int 2), (0, .ref a0), (1, .ref a1), (2, .int ((640 : Int32) + ((2 : Int32) * (nI j0)))), (3, .int 1), (4, .int 1)]) hx hb dX1_find_183 hl (k := 0) rfl (by decide +kernel) (by decide) rfl (fun ls hl => ?_)
  refine lv_goto (tgt := 87) hx hb dX1_find_186 (by decide) ?_
  refine lv_iload hx hb dX1_find_87 (lv_at hl 0 rfl) ?_
  refine lv_ldc (v := 1000000) hx hb hown (hg _ mt961) dX1_find_89 ?_
  refine lv_icmp_ge (tgt := 189) hx hb dX1_find_91 (by decide) (fun c => absurd c (by decide)) (fun _ => ?_)
  refine lv_aload_n hx hb dX1_find_94 rfl (lv_at hl 1 rfl) ?_
  refine z_get (v := .int 5) hx hb hg hown hK hP i_X1 rfl 11 rfl 11 (by decide) mt260 zu_eq dX1_find_95 ?_
  refine lv_bipush (v := 6) hx hb dX1_find_98 (by decide) ?_
  refine lv_icmp_eq (tgt := 189) hx hb dX1_find_100 (by decide) (fun c => absurd c (by decide)) (fun _ => ?_)
  refine lv_aload_n hx hb dX1_find_103 rfl (lv_at hl 1 rfl) ?_
  refine z_get (v := .int 5) hx hb hg hown hK hP i_X1 rfl 11 rfl 11 (by decide) mt260 zu_eq dX1_find_104 ?_
  refine lv_tableOut (tgt := 179) hx hb dX1_find_107 (by decide) (by decide) ?_
  refine lv_aload_n hx hb dX1_find_179 rfl (lv_at hl 1 rfl) ?_
  refine z_callv [(a0, zO 1 18 (va_up gg46 11 (.int 5)))] [(a2, zO 3 7 gg4), (a1, zO 4 6 g1), (a3, zI K 8 f3), (a4, zO 4 6 g4), (a5, zI K 8 f5), (a6, zR K 512 (va_up f6 0 (some (u1 0)))), ((u1 0), zO 6 3 gg6), ((u1 1), zJ K 1400 (fun _ => 0)), ((u1 2), zJ K 1400 (fun _ => 0)), ((u1 3), zJ K 1400 (fun _ => 0)), (a8, zI K 10 ff14), (a7, zO 2 6 (va_up g7 5 (.int 0)))] [11] [0, 1, 2, 3, 4, 5, 6, 7, 8, 9, 10, 12] hP hD hS hA rfl rfl (by decide) (by decide) (by decide +kernel) 4 4203 rfl rfl (fun hPc hDc hF => z_runV (As := []) (rest := []) ⟨hx, hb, hml, hown, hg⟩ (cX1_rest_1 l K H.size a0 (va_up gg46 11 (.int 5)) (zu_ne (by decide) (zu_of y47 (zu_ne (by decide) zu_eq)))) kV_RX1_111 hd_X1_rest rfl rfl ⟨(Nat.le_of_ble_eq_true rfl), (Nat.le_of_ble_eq_true rfl)⟩ hK hS hZ hPc hDc hF 0 rfl rfl rfl hl.1 rfl (Nat.le_of_ble_eq_true rfl) dX1_find_180 ⟨(Nat.le_of_ble_eq_true rfl), (Nat.le_of_ble_eq_true rfl)⟩) (fun u51 H locs w52 hP hD hS => ?_)
  have hP : va_P K.1 classes [(a2, zO 3 7 gg4), (a1, zO 4 6 g1), (a3, zI K 8 f3), (a4, zO 4 6 g4), (a5, zI K 8 f5), (a6, zR K 512 (va_up f6 0 (some (u1 0)))), ((u1 0), zO 6 3 gg6), ((u1 1), zJ K 1400 (fun _ => 0)), ((u1 2), zJ K 1400 (fun _ => 0)), ((u1 3), zJ K 1400 (fun _ => 0)), (a8, zI K 10 ff14), (a7, zO 2 6 (va_up g7 5 (.int 0))), (a0, zO 1 18 (va_up (va_up gg46 11 (.int 5)) 11 (.int 6)))] H := hP
  have hD : va_D A [(a2, zO 3 7 gg4), (a1, zO 4 6 g1), (a3, zI K 8 f3), (a4, zO 4 6 g4), (a5, zI K 8 f5), (a6, zR K 512 (va_up f6 0 (some (u1 0)))), ((u1 0), zO 6 3 gg6), ((u1 1), zJ K 1400 (fun _ => 0)), ((u1 2), zJ K 1400 (fun _ => 0)), ((u1 3), zJ K 1400 (fun _ => 0)), (a8, zI K 10 ff14), (a7, zO 2 6 (va_up g7 5 (.int 0))), (a0, zO 1 18 (va_up (va_up gg46 11 (.int 5)) 11 (.int 6)))] := hD
  obtain ⟨gg54, y55⟩ : ∃ z, z = ((va_up (va_up gg46 11 (.int 5)) 11 (.int 6)) : Nat → Value) := ⟨_, rfl⟩
  rw [← y55] at hP hD
  refine lv_iinc (v := 3) (lv' := [(5, .int 3), (0, .ref a0), (1, .ref a1), (2, .int ((640 : Int32) + ((2 : Int32) * (nI j0)))), (3, .int 1), (4, .int 1)]) hx hb dX1_find_183 hl (k := 0) rfl (by decide +kernel) (by decide) rfl (fun ls hl => ?_)
  refine lv_goto (tgt := 87) hx hb dX1_find_186 (by decide) ?_
  refine lv_iload hx hb dX1_find_87 (lv_at hl 0 rfl) ?_
  refine lv_ldc (v := 1000000) hx hb hown (hg _ mt961) dX1_find_89 ?_
  refine lv_icmp_ge (tgt := 189) hx hb dX1_find_91 (by decide) (fun c => absurd c (by decide)) (fun _ => ?_)
  refine lv_aload_n hx hb dX1_find_94 rfl (lv_at hl 1 rfl) ?_
  refine z_get (v := .int 6) hx hb hg hown hK hP i_X1 rfl 12 rfl 11 (by decide) mt260 (zu_of y55 zu_eq) dX1_find_95 ?_
  refine lv_bipush (v := 6) hx hb dX1_find_98 (by decide) ?_
  refine lv_icmp_eq (tgt := 189) hx hb dX1_find_100 (by decide) (fun _ => ?_) (fun c => absurd (by decide) c)
  refine lv_aload_n hx hb dX1_find_189 rfl (lv_at hl 1 rfl) ?_
  refine z_get (v := .int 7) hx hb hg hown hK hP i_X1 rfl 12 rfl 16 (by decide) mt265 (zu_of y55 (zu_ne (by decide) (zu_ne (by decide) (zu_of y47 (zu_ne (by decide) zu_eq))))) dX1_find_190 ?_
  subst y55
  subst y47
  subst y42
  subst y37
  subst y35
  subst y33
  subst y31
  subst y29
  subst y27
  subst y25
  subst y23
  subst y21
  subst y19
  subst y17
  subst y15
  subst y7
  subst y5
  have hP9 : va_P K.1 classes [(a0, zO 1 18 (va_up (va_up (va_up (va_up (va_up (va_up (va_up (va_up (va_up (va_up (va_up (va_up (va_up (va_up (va_up (va_up (va_up g0 6 (.ref a1)) 7 (.int 1)) 9 (.int 1)) 4 (.int 0)) 5 (.int 0)) 8 (.int 0)) 10 (.int 0)) 13 (.int (-1))) 14 (.int 0)) 16 (.int 6)) 17 (.int 0)) 12 (.int ((640 : Int32) + ((2 : Int32) * (nI j0))))) 11 (.int 0)) 16 (.int 7)) 11 (.int 4)) 11 (.int 5)) 11 (.int 6))), (a2, zO 3 7 (va_up (va_up (va_up (va_up (va_up g2 5 (.int 0)) 5 (.int 0)) 3 (.int 1)) 4 (.int 0)) 6 (.int 0))), (a1, zO 4 6 g1), (a3, zI K 8 f3), (a4, zO 4 6 g4), (a5, zI K 8 f5), (a6, zR K 512 (va_up f6 0 (some (u1 0)))), (a7, zO 2 6 (va_up g7 5 (.int 0))), (a8, zI K 10 (va_up (va_up (va_up (va_up (va_up (va_up (va_up (va_up (va_up (va_up f8 0 0) 1 0) 2 0) 3 0) 4 0) 5 0) 6 0) 7 0) 8 0) 9 0)), ((u1 0), zO 6 3 (va_up (va_up (va_up (fun k => defaultValue (tyX7 k)) 0 (.ref (u1 1))) 1 (.ref (u1 2))) 2 (.ref (u1 3)))), ((u1 1), zJ K 1400 (fun _ => 0)), ((u1 2), zJ K 1400 (fun _ => 0)), ((u1 3), zJ K 1400 (fun _ => 0))] H := hP.sub [12, 0, 1, 2, 3, 4, 5, 11, 10, 6, 7, 8, 9] rfl
  have hD9 : va_D A [(a0, zO 1 18 (va_up (va_up (va_up (va_up (va_up (va_up (va_up (va_up (va_up (va_up (va_up (va_up (va_up (va_up (va_up (va_up (va_up g0 6 (.ref a1)) 7 (.int 1)) 9 (.int 1)) 4 (.int 0)) 5 (.int 0)) 8 (.int 0)) 10 (.int 0)) 13 (.int (-1))) 14 (.int 0)) 16 (.int 6)) 17 (.int 0)) 12 (.int ((640 : Int32) + ((2 : Int32) * (nI j0))))) 11 (.int 0)) 16 (.int 7)) 11 (.int 4)) 11 (.int 5)) 11 (.int 6))), (a2, zO 3 7 (va_up (va_up (va_up (va_up (va_up g2 5 (.int 0)) 5 (.int 0)) 3 (.int 1)) 4 (.int 0)) 6 (.int 0))), (a1, zO 4 6 g1), (a3, zI K 8 f3), (a4, zO 4 6 g4), (a5, zI K 8 f5), (a6, zR K 512 (va_up f6 0 (some (u1 0)))), (a7, zO 2 6 (va_up g7 5 (.int 0))), (a8, zI K 10 (va_up (va_up (va_up (va_up (va_up (va_up (va_up (va_up (va_up (va_up f8 0 0) 1 0) 2 0) 3 0) 4 0) 5 0) 6 0) 7 0) 8 0) 9 0)), ((u1 0), zO 6 3 (va_up (va_up (va_up (fun k => defaultValue (tyX7 k)) 0 (.ref (u1 1))) 1 (.ref (u1 2))) 2 (.ref (u1 3)))), ((u1 1), zJ K 1400 (fun _ => 0)), ((u1 2), zJ K 1400 (fun _ => 0)), ((u1 3), zJ K 1400 (fun _ => 0))] := hD.sub [12, 0, 1, 2, 3, 4, 5, 11, 10, 6, 7, 8, 9] (by decide) rfl
  exact z_iret hx hb hr (fun k => ([(u1 0), (u1 1), (u1 2), (u1 3)] : List Nat).getD k 0) rfl hP9 hD9 hS (Nat.le_of_ble_eq_true rfl) (Nat.le_of_ble_eq_true rfl) hlocks dX1_find_193
set_option maxHeartbeats 4000000 in
set_option maxRecDepth 100000 in
theorem cX11_run_6 (l : Launch) (K : zK) (sz : Nat) (a0 : Nat) (a1 : Nat) (a2 : Nat) (a3 : Nat) (a4 : Nat) (a5 : Nat) (a6 : Nat) (a7 : Nat) (a8 : Nat) (a9 : Nat) (a10 : Nat) (a11 : Nat) (a12 : Nat) (a13 : Nat) (a14 : Nat) (a15 : Nat) (g0 : Nat → Value) (g1 : Nat → Value) (g2 : Nat → Value) (f3 : Nat → Int32) (f4 : Nat → Int32) (f5 : Nat → Int32) (f6 : Nat → Int32) (f7 : Nat → Int32) (g8 : Nat → Value) (g9 : Nat → Value) (f10 : Nat → Int32) (g11 : Nat → Value) (f12 : Nat → Int32) (f13 : Nat → Option Nat) (g14 : Nat → Value) (f15 : Nat → Int32) (j0 : Nat) (hj0 : j0 < 8) (j1 : Nat) (hj1 : j1 < 3) (x2 : Int32) (x3 : Int32) (e0 : g0 3 = (.ref a1)) (e1 : g1 0 = (.ref a2)) (e2 : g2 5 = (.int 645)) (e3 : g2 0 = (.ref a3)) (e4 : g2 1 = (.ref a4)) (e5 : g2 2 = (.ref a5)) (e6 : g2 3 = (.ref a6)) (e7 : g2 4 = (.ref a7)) (e8 : g0 7 = (.ref a8)) (e9 : g8 0 = (.ref a9)) (e10 : g9 6 = (.int 0)) (e11 : g9 4 = (.int 0)) (e12 : g9 0 = (.ref a1)) (e13 : g1 2 = (.ref a10)) (e14 : f10 0 = 0) (e15 : f10 1 = 0) (e16 : f10 2 = 0) (e17 : f10 3 = 0) (e18 : f10 4 = 0) (e19 : f10 5 = 0) (e20 : f10 6 = 0) (e21 : f10 7 = 0) (e22 : g9 1 = (.ref a11)) (e23 : g11 2 = (.ref a12)) (e24 : f12 0 = 0) (e25 : f12 1 = 0) (e26 : f12 2 = 0) (e27 : f12 3 = 0) (e28 : f12 4 = 0) (e29 : f12 5 = 0) (e30 : f12 6 = 0) (e31 : f12 7 = 0) (e32 : g9 3 = (.int 0)) (e33 : g9 2 = (.ref a13)) (e34 : g8 1 = (.ref a14)) (e35 : g8 2 = (.ref a15)) : Met l yX11_run (Cond.code yX11_run cX11_run 9 (some .int) :: WG) { frames := 5, cells := 4, slots := 4203, locals := 97 } (zPre K [(a0, zO 9 9 g0), (a1, zO 4 6 g1), (a2, zO 7 6 g2), (a3, zI K 645 f3), (a4, zI K 645 f4), (a5, zI K 645 f5), (a6, zI K 645 f6), (a7, zI K 1935 f7), (a8, zO 1 18 g8), (a9, zO 3 7 g9), (a10, zI K 8 f10), (a11, zO 4 6 g11), (a12, zI K 8 f12), (a13, zR K 512 f13), (a14, zO 2 6 g14), (a15, zI K 10 f15)] sz [.ref a0, .int (nI j0), .int (nI j1), .int x2, .int x3, .int 1, .int 0]) (va_Qi (fun (r : Int32) (_ : Nat → Nat) => r = 7) (zB K (va_A [(a0, zO 9 9 g0), (a1, zO 4 6 g1), (a2, zO 7 6 g2), (a3, zI K 645 f3), (a4, zI K 645 f4), (a5, zI K 645 f5), (a6, zI K 645 f6), (a7, zI K 1935 f7), (a8, zO 1 18 g8), (a9, zO 3 7 g9), (a10, zI K 8 f10), (a11, zO 4 6 g11), (a12, zI K 8 f12), (a13, zR K 512 f13), (a14, zO 2 6 g14), (a15, zI K 10 f15)] sz) (fun u : Nat → Nat => [])) (va_A [(a0, zO 9 9 g0), (a1, zO 4 6 g1), (a2, zO 7 6 g2), (a3, zI K 645 f3), (a4, zI K 645 f4), (a5, zI K 645 f5), (a6, zI K 645 f6), (a7, zI K 1935 f7), (a8, zO 1 18 g8), (a9, zO 3 7 g9), (a10, zI K 8 f10), (a11, zO 4 6 g11), (a12, zI K 8 f12), (a13, zR K 512 f13), (a14, zO 2 6 g14), (a15, zI K 10 f15)] sz)) 4 4203 (va_A [(a0, zO 9 9 g0), (a1, zO 4 6 g1), (a2, zO 7 6 g2), (a3, zI K 645 f3), (a4, zI K 645 f4), (a5, zI K 645 f5), (a6, zI K 645 f6), (a7, zI K 1935 f7), (a8, zO 1 18 g8), (a9, zO 3 7 g9), (a10, zI K 8 f10), (a11, zO 4 6 g11), (a12, zI K 8 f12), (a13, zR K 512 f13), (a14, zO 2 6 g14), (a15, zI K 10 f15)] sz) := by
  refine z_met (Qc := fun A => (va_Qi (fun (r : Int32) (_ : Nat → Nat) => r = 7) (zB K A (fun u : Nat → Nat => [])) A)) (by decide +kernel) (Nat.le_of_ble_eq_true rfl) ?_
  intro p e s m args below meth c A ls H hx hb hr hg hown hlocks hml hin hK hP hD hA hS hZ hl
  have hown : s.vm.findClass RX11 = some m.cls := hown
  have hl : lv_has ls 9 [(0, .ref a0), (1, .int (nI j0)), (2, .int (nI j1)), (3, .int x2), (4, .int x3), (5, .int 1), (6, .int 0)] := hl
  refine lv_aload_n hx hb dX11_run_0 rfl (lv_at hl 0 rfl) ?_
  refine lv_iload hx hb dX11_run_1 (lv_at hl 5 rfl) ?_
  refine lv_sipush (v := 601) hx hb dX11_run_3 (by decide) ?_
  refine z_callv [(a0, zO 9 9 g0)] [(a1, zO 4 6 g1), (a2, zO 7 6 g2), (a3, zI K 645 f3), (a4, zI K 645 f4), (a5, zI K 645 f5), (a6, zI K 645 f6), (a7, zI K 1935 f7), (a8, zO 1 18 g8), (a9, zO 3 7 g9), (a10, zI K 8 f10), (a11, zO 4 6 g11), (a12, zI K 8 f12), (a13, zR K 512 f13), (a14, zO 2 6 g14), (a15, zI K 10 f15)] [0] [1, 2, 3, 4, 5, 6, 7, 8, 9, 10, 11, 12, 13, 14, 15] hP hD hS hA rfl rfl (by decide) (by decide) (by decide +kernel) 0 0 rfl rfl (fun hPc hDc hF => z_runV (As := [.int 1, .int 601]) (rest := []) ⟨hx, hb, hml, hown, hg⟩ (cX11_checkRange_17 l K H.size a0 g0) kV_RX11_72 hd_X11_checkRange rfl rfl ⟨(Nat.le_of_ble_eq_true rfl), (Nat.le_of_ble_eq_true rfl)⟩ hK hS hZ hPc hDc hF 0 rfl rfl rfl hl.1 rfl (Nat.le_of_ble_eq_true rfl) dX11_run_6 ⟨(Nat.le_of_ble_eq_true rfl), (Nat.le_of_ble_eq_true rfl)⟩) (fun u1 H locs w2 hP hD hS => ?_)
  have hP : va_P K.1 classes [(a1, zO 4 6 g1), (a2, zO 7 6 g2), (a3, zI K 645 f3), (a4, zI K 645 f4), (a5, zI K 645 f5), (a6, zI K 645 f6), (a7, zI K 1935 f7), (a8, zO 1 18 g8), (a9, zO 3 7 g9), (a10, zI K 8 f10), (a11, zO 4 6 g11), (a12, zI K 8 f12), (a13, zR K 512 f13), (a14, zO 2 6 g14), (a15, zI K 10 f15), (a0, zO 9 9 g0)] H := hP
  have hD : va_D A [(a1, zO 4 6 g1), (a2, zO 7 6 g2), (a3, zI K 645 f3), (a4, zI K 645 f4), (a5, zI K 645 f5), (a6, zI K 645 f6), (a7, zI K 1935 f7), (a8, zO 1 18 g8), (a9, zO 3 7 g9), (a10, zI K 8 f10), (a11, zO 4 6 g11), (a12, zI K 8 f12), (a13, zR K 512 f13), (a14, zO 2 6 g14), (a15, zI K 10 f15), (a0, zO 9 9 g0)] := hD
  refine lv_aload_n hx hb dX11_run_9 rfl (lv_at hl 0 rfl) ?_
  refine lv_iload_n hx hb dX11_run_10 rfl (lv_at hl 1 rfl) ?_
  refine lv_iload_n hx hb dX11_run_11 rfl (lv_at hl 2 rfl) ?_
  refine lv_iload hx hb dX11_run_12 (lv_at hl 6 rfl) ?_
  refine z_callr [(a0, zO 9 9 g0)] [(a1, zO 4 6 g1), (a2, zO 7 6 g2), (a3, zI K 645 f3), (a4, zI K 645 f4), (a5, zI K 645 f5), (a6, zI K 645 f6), (a7, zI K 1935 f7), (a8, zO 1 18 g8), (a9, zO 3 7 g9), (a10, zI K 8 f10), (a11, zO 4 6 g11), (a12, zI K 8 f12), (a13, zR K 512 f13), (a14, zO 2 6 g14), (a15, zI K 10 f15)] [15] [0, 1, 2, 3, 4, 5, 6, 7, 8, 9, 10, 11, 12, 13, 14] hP hD hS hA rfl rfl (by decide) (by decide) (by decide +kernel) 0 0 rfl rfl (fun hPc hDc hF => z_runV (As := [.int (nI j0), .int (nI j1), .int 0]) (rest := []) ⟨hx, hb, hml, hown, hg⟩ (cX11_programToRun_3 l K H.size a0 a1 g0 j0 hj0 j1 hj1 e0) kV_RX11_130 hd_X11_programToRun rfl rfl ⟨(Nat.le_of_ble_eq_true rfl), (Nat.le_of_ble_eq_true rfl)⟩ hK hS hZ hPc hDc hF 0 rfl rfl rfl hl.1 rfl (Nat.le_of_ble_eq_true rfl) dX11_run_14 ⟨(Nat.le_of_ble_eq_true rfl), (Nat.le_of_ble_eq_true rfl)⟩) (fun u4 H locs w5 hP hD hS => ?_)
  have hP : va_P K.1 classes [(a1, zO 4 6 g1), (a2, zO 7 6 g2), (a3, zI K 645 f3), (a4, zI K 645 f4), (a5, zI K 645 f5), (a6, zI K 645 f6), (a7, zI K 1935 f7), (a8, zO 1 18 g8), (a9, zO 3 7 g9), (a10, zI K 8 f10), (a11, zO 4 6 g11), (a12, zI K 8 f12), (a13, zR K 512 f13), (a14, zO 2 6 g14), (a15, zI K 10 f15), (a0, zO 9 9 g0)] H := hP
  have hD : va_D A [(a1, zO 4 6 g1), (a2, zO 7 6 g2), (a3, zI K 645 f3), (a4, zI K 645 f4), (a5, zI K 645 f5), (a6, zI K 645 f6), (a7, zI K 1935 f7), (a8, zO 1 18 g8), (a9, zO 3 7 g9), (a10, zI K 8 f10), (a11, zO 4 6 g11), (a12, zI K 8 f12), (a13, zR K 512 f13), (a14, zO 2 6 g14), (a15, zI K 10 f15), (a0, zO 9 9 g0)] := hD
  refine W.eq (g2 := F0 m 17 ls [.ref a1]) rfl ?_
  refine lv_astore (lv' := [(7, .ref a1), (0, .ref a0), (1, .int (nI j0)), (2, .int (nI j1)), (3, .int x2), (4, .int x3), (5, .int 1), (6, .int 0)]) hx hb dX11_run_17 hl (by decide) rfl (fun ls hl => ?_)
  refine lv_aload hx hb dX11_run_19 (lv_at hl 0 rfl) ?_
  refine lv_iload_n hx hb dX11_run_21 rfl (lv_at hl 2 rfl) ?_
  refine lv_iload_n hx hb dX11_run_22 rfl (lv_at hl 3 rfl) ?_
  refine lv_iload_n hx hb dX11_run_23 rfl (lv_at hl 4 rfl) ?_
  refine lv_iload hx hb dX11_run_24 (lv_at hl 5 rfl) ?_
  refine z_calli [(a1, zO 4 6 g1), (a2, zO 7 6 g2), (a3, zI K 645 f3), (a4, zI K 645 f4), (a5, zI K 645 f5), (a6, zI K 645 f6), (a7, zI K 1935 f7)] [(a8, zO 1 18 g8), (a9, zO 3 7 g9), (a10, zI K 8 f10), (a11, zO 4 6 g11), (a12, zI K 8 f12), (a13, zR K 512 f13), (a14, zO 2 6 g14), (a15, zI K 10 f15), (a0, zO 9 9 g0)] [0, 1, 2, 3, 4, 5, 6] [7, 8, 9, 10, 11, 12, 13, 14, 15] hP hD hS hA rfl rfl (by decide) (by decide) (by decide +kernel) 0 0 rfl rfl (fun hPc hDc hF => z_runV (As := [.int (nI j0), .int (nI j1), .int x2, .int x3]) (rest := []) ⟨hx, hb, hml, hown, hg⟩ (cX5_call_1 l K H.size a1 a2 a3 a4 a5 a6 a7 g1 g2 f3 f4 f5 f6 f7 j0 hj0 j1 hj1 x2 x3 e1 e2 e3 e4 e5 e6 e7) kV_RX11_134 hd_X5_call rfl rfl ⟨(Nat.le_of_ble_eq_true rfl), (Nat.le_of_ble_eq_true rfl)⟩ hK hS hZ hPc hDc hF 0 rfl rfl rfl hl.1 rfl (Nat.le_of_ble_eq_true rfl) dX11_run_26 ⟨(Nat.le_of_ble_eq_true rfl), (Nat.le_of_ble_eq_true rfl)⟩) (fun r9 u7 H locs w8 hP hD hS => ?_)
  subst w8
  have hP : va_P K.1 classes [(a8, zO 1 18 g8), (a9, zO 3 7 g9), (a10, zI K 8 f10), (a11, zO 4 6 g11), (a12, zI K 8 f12), (a13, zR K 512 f13), (a14, zO 2 6 g14), (a15, zI K 10 f15), (a0, zO 9 9 g0), (a1, zO 4 6 g1), (a2, zO 7 6 g2), (a3, zI K 645 (va_up (va_up (va_up (va_up (va_up f3 640 2) 641 0) 642 4) 643 0) 644 4)), (a4, zI K 645 (va_up (va_up (va_up (va_up (va_up f4 640 (nI j0)) 641 x2) 642 0) 643 x3) 644 0)), (a5, zI K 645 (va_up (va_up (va_up (va_up (va_up f5 640 0) 641 0) 642 0) 643 0) 644 0)), (a6, zI K 645 (va_up (va_up (va_up (va_up (va_up f6 640 0) 641 0) 642 0) 643 0) 644 0)), (a7, zI K 1935 (va_up (va_up (va_up (va_up (va_up (va_up (va_up (va_up (va_up (va_up (va_up (va_up (va_up (va_up (va_up (va_up (va_up (va_up (va_up (va_up (va_up f7 1920 (-1)) 1921 (-1)) 1922 (-1)) 1923 (-1)) 1924 (-1)) 1925 (-1)) 1926 (-1)) 1927 (-1)) 1928 (-1)) 1926 640) 1927 641) 1928 (-1)) 1929 (-1)) 1930 (-1)) 1931 (-1)) 1932 (-1)) 1933 (-1)) 1934 (-1)) 1932 642) 1933 643) 1934 (-1)))] H := hP
  have hD : va_D A [(a8, zO 1 18 g8), (a9, zO 3 7 g9), (a10, zI K 8 f10), (a11, zO 4 6 g11), (a12, zI K 8 f12), (a13, zR K 512 f13), (a14, zO 2 6 g14), (a15, zI K 10 f15), (a0, zO 9 9 g0), (a1, zO 4 6 g1), (a2, zO 7 6 g2), (a3, zI K 645 (va_up (va_up (va_up (va_up (va_up f3 640 2) 641 0) 642 4) 643 0) 644 4)), (a4, zI K 645 (va_up (va_up (va_up (va_up (va_up f4 640 (nI j0)) 641 x2) 642 0) 643 x3) 644 0)), (a5, zI K 645 (va_up (va_up (va_up (va_up (va_up f5 640 0) 641 0) 642 0) 643 0) 644 0)), (a6, zI K 645 (va_up (va_up (va_up (va_up (va_up f6 640 0) 641 0) 642 0) 643 0) 644 0)), (a7, zI K 1935 (va_up (va_up (va_up (va_up (va_up (va_up (va_up (va_up (va_up (va_up (va_up (va_up (va_up (va_up (va_up (va_up (va_up (va_up (va_up (va_up (va_up f7 1920 (-1)) 1921 (-1)) 1922 (-1)) 1923 (-1)) 1924 (-1)) 1925 (-1)) 1926 (-1)) 1927 (-1)) 1928 (-1)) 1926 640) 1927 641) 1928 (-1)) 1929 (-1)) 1930 (-1)) 1931 (-1)) 1932 (-1)) 1933 (-1)) 1934 (-1)) 1932 642) 1933 643) 1934 (-1)))] := hD
  obtain ⟨ff10, y11⟩ : ∃ z, z = ((va_up (va_up (va_up (va_up (va_up f3 640 2) 641 0) 642 4) 643 0) 644 4) : Nat → Int32) := ⟨_, rfl⟩
  rw [← y11] at hP hD
  obtain ⟨ff12, y13⟩ : ∃ z, z = ((va_up (va_up (va_up (va_up (va_up f4 640 (nI j0)) 641 x2) 642 0) 643 x3) 644 0) : Nat → Int32) := ⟨_, rfl⟩
  rw [← y13] at hP hD
  obtain ⟨ff14, y15⟩ : ∃ z, z = ((va_up (va_up (va_up (va_up (va_up f5 640 0) 641 0) 642 0) 643 0) 644 0) : Nat → Int32) := ⟨_, rfl⟩
  rw [← y15] at hP hD
  obtain ⟨ff16, y17⟩ : ∃ z, z = ((va_up (va_up (va_up (va_up (va_up f6 640 0) 641 0) 642 0) 643 0) 644 0) : Nat → Int32) := ⟨_, rfl⟩
  rw [← y17] at hP hD
  obtain ⟨ff18, y19⟩ : ∃ z, z = ((va_up (va_up (va_up (va_up (va_up (va_up (va_up (va_up (va_up (va_up (va_up (va_up (va_up (va_up (va_up (va_up (va_up (va_up (va_up (va_up (va_up f7 1920 (-1)) 1921 (-1)) 1922 (-1)) 1923 (-1)) 1924 (-1)) 1925 (-1)) 1926 (-1)) 1927 (-1)) 1928 (-1)) 1926 640) 1927 641) 1928 (-1)) 1929 (-1)) 1930 (-1)) 1931 (-1)) 1932 (-1)) 1933 (-1)) 1934 (-1)) 1932 642) 1933 643) 1934 (-1)) : Nat → Int32) := ⟨_, rfl⟩
  rw [← y19] at hP hD
  refine lv_istore (lv' := [(8, .int ((640 : Int32) + ((2 : Int32) * (nI j1)))), (7, .ref a1), (0, .ref a0), (1, .int (nI j0)), (2, .int (nI j1)), (3, .int x2), (4, .int x3), (5, .int 1), (6, .int 0)]) hx hb dX11_run_29 hl (by decide) rfl (fun ls hl => ?_)
  refine lv_aload_n hx hb dX11_run_31 rfl (lv_at hl 2 rfl) ?_
  refine z_get (v := .ref a8) hx hb hg hown hK hP i_X11 rfl 8 rfl 7 (by decide) mt311 e8 dX11_run_32 ?_
  refine lv_aload hx hb dX11_run_35 (lv_at hl 1 rfl) ?_
  refine lv_iload hx hb dX11_run_37 (lv_at hl 0 rfl) ?_
  refine lv_iconst (v := 1) hx hb dX11_run_39 (by decide) ?_
  refine lv_iload hx hb dX11_run_40 (lv_at hl 7 rfl) ?_
  refine z_calli [(a8, zO 1 18 g8), (a9, zO 3 7 g9), (a1, zO 4 6 g1), (a10, zI K 8 f10), (a11, zO 4 6 g11), (a12, zI K 8 f12), (a13, zR K 512 f13), (a14, zO 2 6 g14), (a15, zI K 10 f15)] [(a0, zO 9 9 g0), (a2, zO 7 6 g2), (a3, zI K 645 ff10), (a4, zI K 645 ff12), (a5, zI K 645 ff14), (a6, zI K 645 ff16), (a7, zI K 1935 ff18)] [0, 1, 9, 2, 3, 4, 5, 6, 7] [8, 10, 11, 12, 13, 14, 15] hP hD hS hA rfl rfl (by decide) (by decide) (by decide +kernel) 4 4203 rfl rfl (fun hPc hDc hF => z_runV (As := [.ref a1, .int ((640 : Int32) + ((2 : Int32) * (nI j1))), .int 1, .int 1]) (rest := []) ⟨hx, hb, hml, hown, hg⟩ (cX1_find_1 l K H.size a8 a1 a9 a10 a11 a12 a13 a14 a15 g8 g9 g1 f10 g11 f12 f13 g14 f15 j1 hj1 e9 e10 e11 e12 e13 e14 e15 e16 e17 e18 e19 e20 e21 e22 e23 e24 e25 e26 e27 e28 e29 e30 e31 e32 e33 e34 e35) kV_RX11_138 hd_X1_find rfl rfl ⟨(Nat.le_of_ble_eq_true rfl), (Nat.le_of_ble_eq_true rfl)⟩ hK hS hZ hPc hDc hF 0 rfl rfl rfl hl.1 rfl (Nat.le_of_ble_eq_true rfl) dX11_run_42 ⟨(Nat.le_of_ble_eq_true rfl), (Nat.le_of_ble_eq_true rfl)⟩) (fun r22 u20 H locs w21 hP hD hS => ?_)
  subst w21
  have hP : va_P K.1 classes [(a0, zO 9 9 g0), (a2, zO 7 6 g2), (a3, zI K 645 ff10), (a4, zI K 645 ff12), (a5, zI K 645 ff14), (a6, zI K 645 ff16), (a7, zI K 1935 ff18), (a8, zO 1 18 (va_up (va_up (va_up (va_up (va_up (va_up (va_up (va_up (va_up (va_up (va_up (va_up (va_up (va_up (va_up (va_up (va_up g8 6 (.ref a1)) 7 (.int 1)) 9 (.int 1)) 4 (.int 0)) 5 (.int 0)) 8 (.int 0)) 10 (.int 0)) 13 (.int (-1))) 14 (.int 0)) 16 (.int 6)) 17 (.int 0)) 12 (.int ((640 : Int32) + ((2 : Int32) * (nI j1))))) 11 (.int 0)) 16 (.int 7)) 11 (.int 4)) 11 (.int 5)) 11 (.int 6))), (a9, zO 3 7 (va_up (va_up (va_up (va_up (va_up g9 5 (.int 0)) 5 (.int 0)) 3 (.int 1)) 4 (.int 0)) 6 (.int 0))), (a1, zO 4 6 g1), (a10, zI K 8 f10), (a11, zO 4 6 g11), (a12, zI K 8 f12), (a13, zR K 512 (va_up f13 0 (some (u20 0)))), (a14, zO 2 6 (va_up g14 5 (.int 0))), (a15, zI K 10 (va_up (va_up (va_up (va_up (va_up (va_up (va_up (va_up (va_up (va_up f15 0 0) 1 0) 2 0) 3 0) 4 0) 5 0) 6 0) 7 0) 8 0) 9 0)), ((u20 0), zO 6 3 (va_up (va_up (va_up (fun k => defaultValue (tyX7 k)) 0 (.ref (u20 1))) 1 (.ref (u20 2))) 2 (.ref (u20 3)))), ((u20 1), zJ K 1400 (fun _ => 0)), ((u20 2), zJ K 1400 (fun _ => 0)), ((u20 3), zJ K 1400 (fun _ => 0))] H := hP
  have hD : va_D A [(a0, zO 9 9 g0), (a2, zO 7 6 g2), (a3, zI K 645 ff10), (a4, zI K 645 ff12), (a5, zI K 645 ff14), (a6, zI K 645 ff16), (a7, zI K 1935 ff18), (a8, zO 1 18 (va_up (va_up (va_up (va_up (va_up (va_up (va_up (va_up (va_up (va_up (va_up (va_up (va_up (va_up (va_up (va_up (va_up g8 6 (.ref a1)) 7 (.int 1)) 9 (.int 1)) 4 (.int 0)) 5 (.int 0)) 8 (.int 0)) 10 (.int 0)) 13 (.int (-1))) 14 (.int 0)) 16 (.int 6)) 17 (.int 0)) 12 (.int ((640 : Int32) + ((2 : Int32) * (nI j1))))) 11 (.int 0)) 16 (.int 7)) 11 (.int 4)) 11 (.int 5)) 11 (.int 6))), (a9, zO 3 7 (va_up (va_up (va_up (va_up (va_up g9 5 (.int 0)) 5 (.int 0)) 3 (.int 1)) 4 (.int 0)) 6 (.int 0))), (a1, zO 4 6 g1), (a10, zI K 8 f10), (a11, zO 4 6 g11), (a12, zI K 8 f12), (a13, zR K 512 (va_up f13 0 (some (u20 0)))), (a14, zO 2 6 (va_up g14 5 (.int 0))), (a15, zI K 10 (va_up (va_up (va_up (va_up (va_up (va_up (va_up (va_up (va_up (va_up f15 0 0) 1 0) 2 0) 3 0) 4 0) 5 0) 6 0) 7 0) 8 0) 9 0)), ((u20 0), zO 6 3 (va_up (va_up (va_up (fun k => defaultValue (tyX7 k)) 0 (.ref (u20 1))) 1 (.ref (u20 2))) 2 (.ref (u20 3)))), ((u20 1), zJ K 1400 (fun _ => 0)), ((u20 2), zJ K 1400 (fun _ => 0)), ((u20 3), zJ K 1400 (fun _ => 0))] := hD
  obtain ⟨gg23, y24⟩ : ∃ z, z = ((va_up (va_up (va_up (va_up (va_up (va_up (va_up (va_up (va_up (va_up (va_up (va_up (va_up (va_up (va_up (va_up (va_up g8 6 (.ref a1)) 7 (.int 1)) 9 (.int 1)) 4 (.int 0)) 5 (.int 0)) 8 (.int 0)) 10 (.int 0)) 13 (.int (-1))) 14 (.int 0)) 16 (.int 6)) 17 (.int 0)) 12 (.int ((640 : Int32) + ((2 : Int32) * (nI j1))))) 11 (.int 0)) 16 (.int 7)) 11 (.int 4)) 11 (.int 5)) 11 (.int 6)) : Nat → Value) := ⟨_, rfl⟩
  rw [← y24] at hP hD
  obtain ⟨gg25, y26⟩ : ∃ z, z = ((va_up (va_up (va_up (va_up (va_up g9 5 (.int 0)) 5 (.int 0)) 3 (.int 1)) 4 (.int 0)) 6 (.int 0)) : Nat → Value) := ⟨_, rfl⟩
  rw [← y26] at hP hD
  obtain ⟨ff27, y28⟩ : ∃ z, z = ((va_up (va_up (va_up (va_up (va_up (va_up (va_up (va_up (va_up (va_up f15 0 0) 1 0) 2 0) 3 0) 4 0) 5 0) 6 0) 7 0) 8 0) 9 0) : Nat → Int32) := ⟨_, rfl⟩
  rw [← y28] at hP hD
  obtain ⟨gg29, y30⟩ : ∃ z, z = ((va_up (va_up (va_up (fun k => defaultValue (tyX7 k)) 0 (.ref (u20 1))) 1 (.ref (u20 2))) 2 (.ref (u20 3))) : Nat → Value) := ⟨_, rfl⟩
  rw [← y30] at hP hD
  subst y30
  subst y28
  subst y26
  subst y24
  subst y19
  subst y17
  subst y15
  subst y13
  subst y11
  have hP9 : va_P K.1 classes [] H := hP.sub [] rfl
  have hD9 : va_D A [] := hD.sub [] (by decide) rfl
  exact z_iret hx hb hr (fun _ => 0) rfl hP9 hD9 hS (Nat.le_of_ble_eq_true rfl) (Nat.le_of_ble_eq_true rfl) hlocks dX11_run_45
set_option maxHeartbeats 4000000 in
set_option maxRecDepth 100000 in
theorem cL_run_6 (l : Launch) (hl9 : l.stackTraces = false) (K : zK) (sz : Nat) (a0 : Nat) (a1 : Nat) (a2 : Nat) (a3 : Nat) (a4 : Nat) (a5 : Nat) (a6 : Nat) (a7 : Nat) (a8 : Nat) (a9 : Nat) (a10 : Nat) (a11 : Nat) (a12 : Nat) (a13 : Nat) (a14 : Nat) (a15 : Nat) (a16 : Nat) (g0 : Nat → Value) (g2 : Nat → Value) (g3 : Nat → Value) (f4 : Nat → Int32) (f5 : Nat → Int32) (f6 : Nat → Int32) (f7 : Nat → Int32) (f8 : Nat → Int32) (g9 : Nat → Value) (g10 : Nat → Value) (f11 : Nat → Int32) (g12 : Nat → Value) (f13 : Nat → Int32) (f14 : Nat → Option Nat) (g15 : Nat → Value) (f16 : Nat → Int32) (f1 : Nat → Int64) (j0 : Nat) (hj0 : j0 < 8) (j1 : Nat) (hj1 : j1 < 3) (x2 : Int32) (x3 : Int32) (e0 : g0 3 = (.ref a2)) (e1 : g2 0 = (.ref a3)) (e2 : g3 5 = (.int 645)) (e3 : g3 0 = (.ref a4)) (e4 : g3 1 = (.ref a5)) (e5 : g3 2 = (.ref a6)) (e6 : g3 3 = (.ref a7)) (e7 : g3 4 = (.ref a8)) (e8 : g0 7 = (.ref a9)) (e9 : g9 0 = (.ref a10)) (e10 : g10 6 = (.int 0)) (e11 : g10 4 = (.int 0)) (e12 : g10 0 = (.ref a2)) (e13 : g2 2 = (.ref a11)) (e14 : f11 0 = 0) (e15 : f11 1 = 0) (e16 : f11 2 = 0) (e17 : f11 3 = 0) (e18 : f11 4 = 0) (e19 : f11 5 = 0) (e20 : f11 6 = 0) (e21 : f11 7 = 0) (e22 : g10 1 = (.ref a12)) (e23 : g12 2 = (.ref a13)) (e24 : f13 0 = 0) (e25 : f13 1 = 0) (e26 : f13 2 = 0) (e27 : f13 3 = 0) (e28 : f13 4 = 0) (e29 : f13 5 = 0) (e30 : f13 6 = 0) (e31 : f13 7 = 0) (e32 : g10 3 = (.int 0)) (e33 : g10 2 = (.ref a14)) (e34 : g9 1 = (.ref a15)) (e35 : g9 2 = (.ref a16)) : vx_Met l yL_run (Cond.codeWith yL_run cL_run 9 (some .int) [(0, 18, 21, 18), (0, 18, 25, 13)] :: WG) { frames := 6, cells := 4, slots := 4203, locals := 125 } (zPre K [(a0, zO 9 9 g0), (a2, zO 4 6 g2), (a3, zO 7 6 g3), (a4, zI K 645 f4), (a5, zI K 645 f5), (a6, zI K 645 f6), (a7, zI K 645 f7), (a8, zI K 1935 f8), (a9, zO 1 18 g9), (a10, zO 3 7 g10), (a11, zI K 8 f11), (a12, zO 4 6 g12), (a13, zI K 8 f13), (a14, zR K 512 f14), (a15, zO 2 6 g15), (a16, zI K 10 f16), (a1, zJ K 1 f1)] sz [.ref a0, .int (nI j0), .int (nI j1), .int x2, .int x3, .int 1, .int 0, .ref a1]) (va_Qi (fun (r : Int32) (_ : Nat → Nat) => r = 0) (zB K (va_A [(a0, zO 9 9 g0), (a2, zO 4 6 g2), (a3, zO 7 6 g3), (a4, zI K 645 f4), (a5, zI K 645 f5), (a6, zI K 645 f6), (a7, zI K 645 f7), (a8, zI K 1935 f8), (a9, zO 1 18 g9), (a10, zO 3 7 g10), (a11, zI K 8 f11), (a12, zO 4 6 g12), (a13, zI K 8 f13), (a14, zR K 512 f14), (a15, zO 2 6 g15), (a16, zI K 10 f16), (a1, zJ K 1 f1)] sz) (fun u : Nat → Nat => [(a1, zJ K 1 (va_up f1 0 7))])) (va_A [(a0, zO 9 9 g0), (a2, zO 4 6 g2), (a3, zO 7 6 g3), (a4, zI K 645 f4), (a5, zI K 645 f5), (a6, zI K 645 f6), (a7, zI K 645 f7), (a8, zI K 1935 f8), (a9, zO 1 18 g9), (a10, zO 3 7 g10), (a11, zI K 8 f11), (a12, zO 4 6 g12), (a13, zI K 8 f13), (a14, zR K 512 f14), (a15, zO 2 6 g15), (a16, zI K 10 f16), (a1, zJ K 1 f1)] sz)) (vx_X (fun _ : Unit => False) (fun _ _ _ => True) (va_A [(a0, zO 9 9 g0), (a2, zO 4 6 g2), (a3, zO 7 6 g3), (a4, zI K 645 f4), (a5, zI K 645 f5), (a6, zI K 645 f6), (a7, zI K 645 f7), (a8, zI K 1935 f8), (a9, zO 1 18 g9), (a10, zO 3 7 g10), (a11, zI K 8 f11), (a12, zO 4 6 g12), (a13, zI K 8 f13), (a14, zR K 512 f14), (a15, zO 2 6 g15), (a16, zI K 10 f16), (a1, zJ K 1 f1)] sz)) 4 4203 (va_A [(a0, zO 9 9 g0), (a2, zO 4 6 g2), (a3, zO 7 6 g3), (a4, zI K 645 f4), (a5, zI K 645 f5), (a6, zI K 645 f6), (a7, zI K 645 f7), (a8, zI K 1935 f8), (a9, zO 1 18 g9), (a10, zO 3 7 g10), (a11, zI K 8 f11), (a12, zO 4 6 g12), (a13, zI K 8 f13), (a14, zR K 512 f14), (a15, zO 2 6 g15), (a16, zI K 10 f16), (a1, zJ K 1 f1)] sz) := by
  refine z_hmet (Qc := fun A => (va_Qi (fun (r : Int32) (_ : Nat → Nat) => r = 0) (zB K A (fun u : Nat → Nat => [(a1, zJ K 1 (va_up f1 0 7))])) A)) (XC := fun A => vx_X (fun _ : Unit => False) (fun _ _ _ => True) A) (by decide +kernel) (Nat.le_of_ble_eq_true rfl) ?_
  intro p e s m args below meth c A ls H hx hb hr hg hown hlocks hml hTab hK hP hD hA hS hZ hl
  have hown : s.vm.findClass RL = some m.cls := hown
  have hl : lv_has ls 9 [(0, .ref a0), (1, .int (nI j0)), (2, .int (nI j1)), (3, .int x2), (4, .int x3), (5, .int 1), (6, .int 0), (7, .ref a1)] := hl
  refine lv_aload hx hb dL_run_0 (lv_at hl 7 rfl) ?_
  refine lv_iconst (v := 0) hx hb dL_run_2 (by decide) ?_
  refine lv_aload_n hx hb dL_run_3 rfl (lv_at hl 0 rfl) ?_
  refine lv_iload_n hx hb dL_run_4 rfl (lv_at hl 1 rfl) ?_
  refine lv_iload_n hx hb dL_run_5 rfl (lv_at hl 2 rfl) ?_
  refine lv_iload_n hx hb dL_run_6 rfl (lv_at hl 3 rfl) ?_
  refine lv_iload hx hb dL_run_7 (lv_at hl 4 rfl) ?_
  refine lv_iload hx hb dL_run_9 (lv_at hl 5 rfl) ?_
  refine lv_iload hx hb dL_run_11 (lv_at hl 6 rfl) ?_
  refine z_calli [(a0, zO 9 9 g0), (a2, zO 4 6 g2), (a3, zO 7 6 g3), (a4, zI K 645 f4), (a5, zI K 645 f5), (a6, zI K 645 f6), (a7, zI K 645 f7), (a8, zI K 1935 f8), (a9, zO 1 18 g9), (a10, zO 3 7 g10), (a11, zI K 8 f11), (a12, zO 4 6 g12), (a13, zI K 8 f13), (a14, zR K 512 f14), (a15, zO 2 6 g15), (a16, zI K 10 f16)] [(a1, zJ K 1 f1)] [0, 1, 2, 3, 4, 5, 6, 7, 8, 9, 10, 11, 12, 13, 14, 15] [16] hP hD hS hA rfl rfl (by decide) (by decide) (by decide +kernel) 4 4203 rfl rfl (fun hPc hDc hF => z_runV (As := [.int (nI j0), .int (nI j1), .int x2, .int x3, .int 1, .int 0]) (rest := [.int 0, .ref a1]) ⟨hx, hb, hml, hown, hg⟩ (cX11_run_6 l K H.size a0 a2 a3 a4 a5 a6 a7 a8 a9 a10 a11 a12 a13 a14 a15 a16 g0 g2 g3 f4 f5 f6 f7 f8 g9 g10 f11 g12 f13 f14 g15 f16 j0 hj0 j1 hj1 x2 x3 e0 e1 e2 e3 e4 e5 e6 e7 e8 e9 e10 e11 e12 e13 e14 e15 e16 e17 e18 e19 e20 e21 e22 e23 e24 e25 e26 e27 e28 e29 e30 e31 e32 e33 e34 e35) kV_RL_73 hd_X11_run rfl rfl ⟨(Nat.le_of_ble_eq_true rfl), (Nat.le_of_ble_eq_true rfl)⟩ hK hS hZ hPc hDc hF 0 rfl rfl rfl hl.1 rfl (Nat.le_of_ble_eq_true rfl) dL_run_13 ⟨(Nat.le_of_ble_eq_true rfl), (Nat.le_of_ble_eq_true rfl)⟩) (fun r3 u1 H locs w2 hP hD hS => ?_)
  subst w2
  have hP : va_P K.1 classes [(a1, zJ K 1 f1)] H := hP
  have hD : va_D A [(a1, zJ K 1 f1)] := hD
  refine lv_i2l hx hb dL_run_16 rfl ?_
  refine z_cstl (v := 7) (by decide +kernel) ?_
  refine z_last (j := 0) hx hb hK hP hD hS 0 rfl rfl (Nat.le_of_ble_eq_true rfl) (Nat.le_of_ble_eq_true rfl) dL_run_17 (fun ff4 H locs y5 hP hD hS => ?_)
  have hP : va_P K.1 classes [(a1, zJ K 1 ff4)] H := hP
  have hD : va_D A [(a1, zJ K 1 ff4)] := hD
  refine lv_goto (tgt := 29) hx hb dL_run_18 (by decide) ?_
  refine lv_iconst (v := 0) hx hb dL_run_29 (by decide) ?_
  subst y5
  have hP9 : va_P K.1 classes [(a1, zJ K 1 (va_up f1 0 7))] H := hP.sub [0] rfl
  have hD9 : va_D A [(a1, zJ K 1 (va_up f1 0 7))] := hD.sub [0] (by decide) rfl
  exact z_iret hx hb hr (fun _ => 0) rfl hP9 hD9 hS (Nat.le_of_ble_eq_true rfl) (Nat.le_of_ble_eq_true rfl) hlocks dL_run_30
set_option maxHeartbeats 4000000 in
set_option maxRecDepth 100000 in
theorem cX12_isIn_23 (l : Launch) (K : zK) (sz : Nat) : Met l yX12_isIn (Cond.code yX12_isIn cX12_isIn 3 (some .boolean) :: WG) { frames := 0, cells := 0, slots := 0, locals := 0 } (zPre K [] sz [.int 1, .int 0, .int 600]) (va_Qi (fun (r : Int32) (_ : Nat → Nat) => r = 1) (zB K (va_A [] sz) (fun u : Nat → Nat => [])) (va_A [] sz)) 0 0 (va_A [] sz) := by
  refine z_met (Qc := fun A => (va_Qi (fun (r : Int32) (_ : Nat → Nat) => r = 1) (zB K A (fun u : Nat → Nat => [])) A)) (by decide +kernel) (Nat.le_of_ble_eq_true rfl) ?_
  intro p e s m args below meth c A ls H hx hb hr hg hown hlocks hml hin hK hP hD hA hS hZ hl
  have hown : s.vm.findClass RX12 = some m.cls := hown
  have hl : lv_has ls 3 [(0, .int 1), (1, .int 0), (2, .int 600)] := hl
  refine lv_iload_n hx hb dX12_isIn_0 rfl (lv_at hl 0 rfl) ?_
  refine lv_iload_n hx hb dX12_isIn_1 rfl (lv_at hl 1 rfl) ?_
  refine lv_icmp_lt (tgt := 14) hx hb dX12_isIn_2 (by decide) (fun c => absurd c (by decide)) (fun _ => ?_)
  refine lv_iload_n hx hb dX12_isIn_5 rfl (lv_at hl 0 rfl) ?_
  refine lv_iload_n hx hb dX12_isIn_6 rfl (lv_at hl 2 rfl) ?_
  refine lv_icmp_gt (tgt := 14) hx hb dX12_isIn_7 (by decide) (fun c => absurd c (by decide)) (fun _ => ?_)
  refine lv_iconst (v := 1) hx hb dX12_isIn_10 (by decide) ?_
  refine lv_goto (tgt := 15) hx hb dX12_isIn_11 (by decide) ?_
  have hP9 : va_P K.1 classes [] H := hP.sub [] rfl
  have hD9 : va_D A [] := hD.sub [] (by decide) rfl
  exact z_zret hx hb hr rfl (fun _ => 0) rfl hP9 hD9 hS (Nat.le_of_ble_eq_true rfl) (Nat.le_of_ble_eq_true rfl) hlocks dX12_isIn_15
set_option maxHeartbeats 4000000 in
set_option maxRecDepth 100000 in
theorem cX12_mayRun_8 (l : Launch) (K : zK) (sz : Nat) (a0 : Nat) (g0 : Nat → Value) (j0 : Nat) (hj0 : j0 < 8) (j1 : Nat) (hj1 : j1 < 3) : Met l yX12_mayRun (Cond.code yX12_mayRun cX12_mayRun 5 (some .boolean) :: WG) { frames := 2, cells := 0, slots := 0, locals := 42 } (zPre K [(a0, zO 10 83 g0)] sz [.ref a0, .int (nI j0), .int (nI j1), .int 1, .int 0]) (va_Qi (fun (r : Int32) (_ : Nat → Nat) => r = 1) (zB K (va_A [(a0, zO 10 83 g0)] sz) (fun u : Nat → Nat => [(a0, zO 10 83 (va_up g0 81 (.int 0)))])) (va_A [(a0, zO 10 83 g0)] sz)) 0 0 (va_A [(a0, zO 10 83 g0)] sz) := by
  refine z_met (Qc := fun A => (va_Qi (fun (r : Int32) (_ : Nat → Nat) => r = 1) (zB K A (fun u : Nat → Nat => [(a0, zO 10 83 (va_up g0 81 (.int 0)))])) A)) (by decide +kernel) (Nat.le_of_ble_eq_true rfl) ?_
  intro p e s m args below meth c A ls H hx hb hr hg hown hlocks hml hin hK hP hD hA hS hZ hl
  have hown : s.vm.findClass RX12 = some m.cls := hown
  have hl : lv_has ls 5 [(0, .ref a0), (1, .int (nI j0)), (2, .int (nI j1)), (3, .int 1), (4, .int 0)] := hl
  refine lv_aload_n hx hb dX12_mayRun_0 rfl (lv_at hl 0 rfl) ?_
  refine lv_iload_n hx hb dX12_mayRun_1 rfl (lv_at hl 1 rfl) ?_
  refine z_calli [] [(a0, zO 10 83 g0)] [] [0] hP hD hS hA rfl rfl (by decide) (by decide) (by decide +kernel) 0 0 rfl rfl (fun hPc hDc hF => z_runS (As := [.int (nI j0)]) (rest := [.ref a0]) ⟨hx, hb, hml, hown, hg⟩ (cX12_isGlobal_2 l K H.size j0 hj0) kS_RX12_197 hd_X12_isGlobal rfl rfl ⟨(Nat.le_of_ble_eq_true rfl), (Nat.le_of_ble_eq_true rfl)⟩ hK hS hZ hPc hDc hF rfl hl.1 rfl (Nat.le_of_ble_eq_true rfl) dX12_mayRun_2 ⟨(Nat.le_of_ble_eq_true rfl), (Nat.le_of_ble_eq_true rfl)⟩) (fun r3 u1 H locs w2 hP hD hS => ?_)
  subst w2
  have hP : va_P K.1 classes [(a0, zO 10 83 g0)] H := hP
  have hD : va_D A [(a0, zO 10 83 g0)] := hD
  refine lv_if_eq (tgt := 21) hx hb dX12_mayRun_5 (by decide) (fun c => absurd c (by decide)) (fun _ => ?_)
  refine lv_iload_n hx hb dX12_mayRun_8 rfl (lv_at hl 2 rfl) ?_
  refine lv_iconst (v := 0) hx hb dX12_mayRun_9 (by decide) ?_
  refine lv_iconst (v := 2) hx hb dX12_mayRun_10 (by decide) ?_
  refine z_calli [] [(a0, zO 10 83 g0)] [] [0] hP hD hS hA rfl rfl (by decide) (by decide) (by decide +kernel) 0 0 rfl rfl (fun hPc hDc hF => z_runS (As := [.int (nI j1), .int 0, .int 2]) (rest := [.ref a0]) ⟨hx, hb, hml, hown, hg⟩ (cX12_isIn_20 l K H.size j1 hj1) kS_RX12_175 hd_X12_isIn rfl rfl ⟨(Nat.le_of_ble_eq_true rfl), (Nat.le_of_ble_eq_true rfl)⟩ hK hS hZ hPc hDc hF rfl hl.1 rfl (Nat.le_of_ble_eq_true rfl) dX12_mayRun_11 ⟨(Nat.le_of_ble_eq_true rfl), (Nat.le_of_ble_eq_true rfl)⟩) (fun r6 u4 H locs w5 hP hD hS => ?_)
  subst w5
  have hP : va_P K.1 classes [(a0, zO 10 83 g0)] H := hP
  have hD : va_D A [(a0, zO 10 83 g0)] := hD
  refine lv_if_eq (tgt := 21) hx hb dX12_mayRun_14 (by decide) (fun c => absurd c (by decide)) (fun _ => ?_)
  refine lv_iload_n hx hb dX12_mayRun_17 rfl (lv_at hl 3 rfl) ?_
  refine lv_if_ne (tgt := 25) hx hb dX12_mayRun_18 (by decide) (fun _ => ?_) (fun c => absurd c (by decide))
  refine lv_iload hx hb dX12_mayRun_25 (lv_at hl 4 rfl) ?_
  refine lv_if_eq (tgt := 41) hx hb dX12_mayRun_27 (by decide) (fun _ => ?_) (fun c => absurd (by decide) c)
  refine lv_iconst (v := 0) hx hb dX12_mayRun_41 (by decide) ?_
  refine z_calli [(a0, zO 10 83 g0)] [] [0] [] hP hD hS hA rfl rfl (by decide) (by decide) (by decide +kernel) 0 0 rfl rfl (fun hPc hDc hF => z_runV (As := [.int 0]) (rest := []) ⟨hx, hb, hml, hown, hg⟩ (cX12_can_1 l K H.size a0 g0) kV_RX12_182 hd_X12_can rfl rfl ⟨(Nat.le_of_ble_eq_true rfl), (Nat.le_of_ble_eq_true rfl)⟩ hK hS hZ hPc hDc hF 0 rfl rfl rfl hl.1 rfl (Nat.le_of_ble_eq_true rfl) dX12_mayRun_42 ⟨(Nat.le_of_ble_eq_true rfl), (Nat.le_of_ble_eq_true rfl)⟩) (fun r9 u7 H locs w8 hP hD hS => ?_)
  subst w8
  have hP : va_P K.1 classes [(a0, zO 10 83 (va_up g0 81 (.int 0)))] H := hP
  have hD : va_D A [(a0, zO 10 83 (va_up g0 81 (.int 0)))] := hD
  have hP9 : va_P K.1 classes [(a0, zO 10 83 (va_up g0 81 (.int 0)))] H := hP.sub [0] rfl
  have hD9 : va_D A [(a0, zO 10 83 (va_up g0 81 (.int 0)))] := hD.sub [0] (by decide) rfl
  exact z_zret hx hb hr rfl (fun _ => 0) rfl hP9 hD9 hS (Nat.le_of_ble_eq_true rfl) (Nat.le_of_ble_eq_true rfl) hlocks dX12_mayRun_45
set_option maxHeartbeats 4000000 in
set_option maxRecDepth 100000 in
theorem cX11_checkRange_18 (l : Launch) (K : zK) (sz : Nat) (a0 : Nat) (g0 : Nat → Value) : Met l yX11_checkRange (Cond.code yX11_checkRange cX11_checkRange 3 none :: WG) { frames := 0, cells := 0, slots := 0, locals := 0 } (zPre K [(a0, zO 9 9 g0)] sz [.ref a0, .int 0, .int 3]) (va_Qv (fun _ : Nat → Nat => True) (zB K (va_A [(a0, zO 9 9 g0)] sz) (fun u : Nat → Nat => [(a0, zO 9 9 g0)])) (va_A [(a0, zO 9 9 g0)] sz)) 0 0 (va_A [(a0, zO 9 9 g0)] sz) := by
  refine z_met (Qc := fun A => (va_Qv (fun _ : Nat → Nat => True) (zB K A (fun u : Nat → Nat => [(a0, zO 9 9 g0)])) A)) (by decide +kernel) (Nat.le_of_ble_eq_true rfl) ?_
  intro p e s m args below meth c A ls H hx hb hr hg hown hlocks hml hin hK hP hD hA hS hZ hl
  have hown : s.vm.findClass RX11 = some m.cls := hown
  have hl : lv_has ls 3 [(0, .ref a0), (1, .int 0), (2, .int 3)] := hl
  refine lv_iload_n hx hb dX11_checkRange_0 rfl (lv_at hl 1 rfl) ?_
  refine lv_if_lt (tgt := 9) hx hb dX11_checkRange_1 (by decide) (fun c => absurd c (by decide)) (fun _ => ?_)
  refine lv_iload_n hx hb dX11_checkRange_4 rfl (lv_at hl 1 rfl) ?_
  refine lv_iload_n hx hb dX11_checkRange_5 rfl (lv_at hl 2 rfl) ?_
  refine lv_icmp_lt (tgt := 19) hx hb dX11_checkRange_6 (by decide) (fun _ => ?_) (fun c => absurd (by decide) c)
  have hP9 : va_P K.1 classes [(a0, zO 9 9 g0)] H := hP.sub [0] rfl
  have hD9 : va_D A [(a0, zO 9 9 g0)] := hD.sub [0] (by decide) rfl
  exact z_vret hx hb hr (fun _ => 0) trivial hP9 hD9 hS (Nat.le_of_ble_eq_true rfl) (Nat.le_of_ble_eq_true rfl) hlocks dX11_checkRange_19
set_option maxHeartbeats 4000000 in
set_option maxRecDepth 100000 in
theorem cX11_programToRun_4 (l : Launch) (K : zK) (sz : Nat) (a0 : Nat) (a1 : Nat) (g0 : Nat → Value) (j0 : Nat) (hj0 : j0 < 8) (e0 : g0 3 = (.ref a1)) : Met l yX11_programToRun (Cond.code yX11_programToRun cX11_programToRun 4 (some (.object "LazyLoom$Program")) :: WG) { frames := 1, cells := 0, slots := 0, locals := 22 } (zPre K [(a0, zO 9 9 g0)] sz [.ref a0, .int (nI j0), .int 0, .int 0]) (va_Qr (fun _ : Nat → Nat => True) (fun (u : Nat → Nat) (a : Nat) (t : State) => a = (fun u : Nat → Nat => a1) u ∧ zB K (va_A [(a0, zO 9 9 g0)] sz) (fun u : Nat → Nat => [(a0, zO 9 9 g0)]) u t) (va_A [(a0, zO 9 9 g0)] sz)) 0 0 (va_A [(a0, zO 9 9 g0)] sz) := by
  refine z_met (Qc := fun A => (va_Qr (fun _ : Nat → Nat => True) (fun (u : Nat → Nat) (a : Nat) (t : State) => a = (fun u : Nat → Nat => a1) u ∧ zB K A (fun u : Nat → Nat => [(a0, zO 9 9 g0)]) u t) A)) (by decide +kernel) (Nat.le_of_ble_eq_true rfl) ?_
  intro p e s m args below meth c A ls H hx hb hr hg hown hlocks hml hin hK hP hD hA hS hZ hl
  have hown : s.vm.findClass RX11 = some m.cls := hown
  have hl : lv_has ls 4 [(0, .ref a0), (1, .int (nI j0)), (2, .int 0), (3, .int 0)] := hl
  refine lv_aload_n hx hb dX11_programToRun_0 rfl (lv_at hl 0 rfl) ?_
  refine lv_iload_n hx hb dX11_programToRun_1 rfl (lv_at hl 1 rfl) ?_
  refine lv_bipush (v := 8) hx hb dX11_programToRun_2 (by decide) ?_
  refine z_callv [(a0, zO 9 9 g0)] [] [0] [] hP hD hS hA rfl rfl (by decide) (by decide) (by decide +kernel) 0 0 rfl rfl (fun hPc hDc hF => z_runV (As := [.int (nI j0), .int 8]) (rest := []) ⟨hx, hb, hml, hown, hg⟩ (cX11_checkRange_5 l K H.size a0 g0 j0 hj0) kV_RX11_72 hd_X11_checkRange rfl rfl ⟨(Nat.le_of_ble_eq_true rfl), (Nat.le_of_ble_eq_true rfl)⟩ hK hS hZ hPc hDc hF 0 rfl rfl rfl hl.1 rfl (Nat.le_of_ble_eq_true rfl) dX11_programToRun_4 ⟨(Nat.le_of_ble_eq_true rfl), (Nat.le_of_ble_eq_true rfl)⟩) (fun u1 H locs w2 hP hD hS => ?_)
  have hP : va_P K.1 classes [(a0, zO 9 9 g0)] H := hP
  have hD : va_D A [(a0, zO 9 9 g0)] := hD
  refine lv_aload_n hx hb dX11_programToRun_7 rfl (lv_at hl 0 rfl) ?_
  refine lv_iload_n hx hb dX11_programToRun_8 rfl (lv_at hl 2 rfl) ?_
  refine lv_iconst (v := 3) hx hb dX11_programToRun_9 (by decide) ?_
  refine z_callv [(a0, zO 9 9 g0)] [] [0] [] hP hD hS hA rfl rfl (by decide) (by decide) (by decide +kernel) 0 0 rfl rfl (fun hPc hDc hF => z_runV (As := [.int 0, .int 3]) (rest := []) ⟨hx, hb, hml, hown, hg⟩ (cX11_checkRange_18 l K H.size a0 g0) kV_RX11_72 hd_X11_checkRange rfl rfl ⟨(Nat.le_of_ble_eq_true rfl), (Nat.le_of_ble_eq_true rfl)⟩ hK hS hZ hPc hDc hF 0 rfl rfl rfl hl.1 rfl (Nat.le_of_ble_eq_true rfl) dX11_programToRun_10 ⟨(Nat.le_of_ble_eq_true rfl), (Nat.le_of_ble_eq_true rfl)⟩) (fun u4 H locs w5 hP hD hS => ?_)
  have hP : va_P K.1 classes [(a0, zO 9 9 g0)] H := hP
  have hD : va_D A [(a0, zO 9 9 g0)] := hD
  refine lv_aload_n hx hb dX11_programToRun_13 rfl (lv_at hl 0 rfl) ?_
  refine lv_iload_n hx hb dX11_programToRun_14 rfl (lv_at hl 3 rfl) ?_
  refine z_callr [(a0, zO 9 9 g0)] [] [0] [] hP hD hS hA rfl rfl (by decide) (by decide) (by decide +kernel) 0 0 rfl rfl (fun hPc hDc hF => z_runV (As := [.int 0]) (rest := []) ⟨hx, hb, hml, hown, hg⟩ (cX11_programOf_1 l K H.size a0 a1 g0 e0) kV_RX11_157 hd_X11_programOf rfl rfl ⟨(Nat.le_of_ble_eq_true rfl), (Nat.le_of_ble_eq_true rfl)⟩ hK hS hZ hPc hDc hF 0 rfl rfl rfl hl.1 rfl (Nat.le_of_ble_eq_true rfl) dX11_programToRun_15 ⟨(Nat.le_of_ble_eq_true rfl), (Nat.le_of_ble_eq_true rfl)⟩) (fun u7 H locs w8 hP hD hS => ?_)
  have hP : va_P K.1 classes [(a0, zO 9 9 g0)] H := hP
  have hD : va_D A [(a0, zO 9 9 g0)] := hD
  refine W.eq (g2 := F0 m 18 ls [.ref a1]) rfl ?_
  have hP9 : va_P K.1 classes [(a0, zO 9 9 g0)] H := hP.sub [0] rfl
  have hD9 : va_D A [(a0, zO 9 9 g0)] := hD.sub [0] (by decide) rfl
  exact z_aret hx hb hr (fun _ => 0) trivial hP9 hD9 hS (Nat.le_of_ble_eq_true rfl) (Nat.le_of_ble_eq_true rfl) hlocks dX11_programToRun_18
set_option maxHeartbeats 4000000 in
set_option maxRecDepth 100000 in
theorem cX5_call_2 (l : Launch) (K : zK) (sz : Nat) (a0 : Nat) (a1 : Nat) (a2 : Nat) (a3 : Nat) (a4 : Nat) (a5 : Nat) (a6 : Nat) (g0 : Nat → Value) (g1 : Nat → Value) (f2 : Nat → Int32) (f3 : Nat → Int32) (f4 : Nat → Int32) (f5 : Nat → Int32) (f6 : Nat → Int32) (j0 : Nat) (hj0 : j0 < 8) (x1 : Int32) (x2 : Int32) (e0 : g0 0 = (.ref a1)) (e1 : g1 5 = (.int 645)) (e2 : g1 0 = (.ref a2)) (e3 : g1 1 = (.ref a3)) (e4 : g1 2 = (.ref a4)) (e5 : g1 3 = (.ref a5)) (e6 : g1 4 = (.ref a6)) : Met l yX5_call (Cond.code yX5_call cX5_call 5 (some .int) :: WG) { frames := 2, cells := 0, slots := 0, locals := 46 } (zPre K [(a0, zO 4 6 g0), (a1, zO 7 6 g1), (a2, zI K 645 f2), (a3, zI K 645 f3), (a4, zI K 645 f4), (a5, zI K 645 f5), (a6, zI K 1935 f6)] sz [.ref a0, .int (nI j0), .int 0, .int x1, .int x2]) (va_Qi (fun (r : Int32) (_ : Nat → Nat) => r = 640) (zB K (va_A [(a0, zO 4 6 g0), (a1, zO 7 6 g1), (a2, zI K 645 f2), (a3, zI K 645 f3), (a4, zI K 645 f4), (a5, zI K 645 f5), (a6, zI K 1935 f6)] sz) (fun u : Nat → Nat => [(a0, zO 4 6 g0), (a1, zO 7 6 g1), (a2, zI K 645 (va_up (va_up (va_up (va_up (va_up f2 640 2) 641 0) 642 4) 643 0) 644 4)), (a3, zI K 645 (va_up (va_up (va_up (va_up (va_up f3 640 (nI j0)) 641 x1) 642 0) 643 x2) 644 0)), (a4, zI K 645 (va_up (va_up (va_up (va_up (va_up f4 640 0) 641 0) 642 0) 643 0) 644 0)), (a5, zI K 645 (va_up (va_up (va_up (va_up (va_up f5 640 0) 641 0) 642 0) 643 0) 644 0)), (a6, zI K 1935 (va_up (va_up (va_up (va_up (va_up (va_up (va_up (va_up (va_up (va_up (va_up (va_up (va_up (va_up (va_up (va_up (va_up (va_up (va_up (va_up (va_up f6 1920 (-1)) 1921 (-1)) 1922 (-1)) 1923 (-1)) 1924 (-1)) 1925 (-1)) 1926 (-1)) 1927 (-1)) 1928 (-1)) 1926 640) 1927 641) 1928 (-1)) 1929 (-1)) 1930 (-1)) 1931 (-1)) 1932 (-1)) 1933 (-1)) 1934 (-1)) 1932 642) 1933 643) 1934 (-1)))])) (va_A [(a0, zO 4 6 g0), (a1, zO 7 6 g1), (a2, zI K 645 f2), (a3, zI K 645 f3), (a4, zI K 645 f4), (a5, zI K 645 f5), (a6, zI K 1935 f6)] sz)) 0 0 (va_A [(a0, zO 4 6 g0), (a1, zO 7 6 g1), (a2, zI K 645 f2), (a3, zI K 645 f3), (a4, zI K 645 f4), (a5, zI K 645 f5), (a6, zI K 1935 f6)] sz) := by
  refine z_met (Qc := fun A => (va_Qi (fun (r : Int32) (_ : Nat → Nat) => r = 640) (zB K A (fun u : Nat → Nat => [(a0, zO 4 6 g0), (a1, zO 7 6 g1), (a2, zI K 645 (va_up (va_up (va_up (va_up (va_up f2 640 2) 641 0) 642 4) 643 0) 644 4)), (a3, zI K 645 (va_up (va_up (va_up (va_up (va_up f3 640 (nI j0)) 641 x1) 642 0) 643 x2) 644 0)), (a4, zI K 645 (va_up (va_up (va_up (va_up (va_up f4 640 0) 641 0) 642 0) 643 0) 644 0)), (a5, zI K 645 (va_up (va_up (va_up (va_up (va_up f5 640 0) 641 0) 642 0) 643 0) 644 0)), (a6, zI K 1935 (va_up (va_up (va_up (va_up (va_up (va_up (va_up (va_up (va_up (va_up (va_up (va_up (va_up (va_up (va_up (va_up (va_up (va_up (va_up (va_up (va_up f6 1920 (-1)) 1921 (-1)) 1922 (-1)) 1923 (-1)) 1924 (-1)) 1925 (-1)) 1926 (-1)) 1927 (-1)) 1928 (-1)) 1926 640) 1927 641) 1928 (-1)) 1929 (-1)) 1930 (-1)) 1931 (-1)) 1932 (-1)) 1933 (-1)) 1934 (-1)) 1932 642) 1933 643) 1934 (-1)))])) A)) (by decide +kernel) (Nat.le_of_ble_eq_true rfl) ?_
  intro p e s m args below meth c A ls H hx hb hr hg hown hlocks hml hin hK hP hD hA hS hZ hl
  have hown : s.vm.findClass RX5 = some m.cls := hown
  have hl : lv_has ls 5 [(0, .ref a0), (1, .int (nI j0)), (2, .int 0), (3, .int x1), (4, .int x2)] := hl
  refine lv_aload_n hx hb dX5_call_0 rfl (lv_at hl 0 rfl) ?_
  refine z_get (v := .ref a1) hx hb hg hown hK hP i_X5 rfl 0 rfl 0 (by decide) mt69 e0 dX5_call_1 ?_
  refine lv_sipush (v := 640) hx hb dX5_call_4 (by decide) ?_
  refine lv_iconst (v := 2) hx hb dX5_call_7 (by decide) ?_
  refine lv_iload_n hx hb dX5_call_8 rfl (lv_at hl 1 rfl) ?_
  refine lv_iconst (v := 0) hx hb dX5_call_9 (by decide) ?_
  refine lv_iconst (v := 0) hx hb dX5_call_10 (by decide) ?_
  refine z_callv [(a1, zO 7 6 g1), (a2, zI K 645 f2), (a3, zI K 645 f3), (a4, zI K 645 f4), (a5, zI K 645 f5), (a6, zI K 1935 f6)] [(a0, zO 4 6 g0)] [1, 2, 3, 4, 5, 6] [0] hP hD hS hA rfl rfl (by decide) (by decide) (by decide +kernel) 0 0 rfl rfl (fun hPc hDc hF => z_runV (As := [.int 640, .int 2, .int (nI j0), .int 0, .int 0]) (rest := []) ⟨hx, hb, hml, hown, hg⟩ (cX9_set_5 l K H.size a1 a2 a3 a4 a5 a6 g1 f2 f3 f4 f5 f6 j0 hj0 e1 e2 e3 e4 e5 e6) kV_RX5_81 hd_X9_set rfl rfl ⟨(Nat.le_of_ble_eq_true rfl), (Nat.le_of_ble_eq_true rfl)⟩ hK hS hZ hPc hDc hF 0 rfl rfl rfl hl.1 rfl (Nat.le_of_ble_eq_true rfl) dX5_call_11 ⟨(Nat.le_of_ble_eq_true rfl), (Nat.le_of_ble_eq_true rfl)⟩) (fun u1 H locs w2 hP hD hS => ?_)
  have hP : va_P K.1 classes [(a0, zO 4 6 g0), (a1, zO 7 6 g1), (a2, zI K 645 (va_up f2 640 2)), (a3, zI K 645 (va_up f3 640 (nI j0))), (a4, zI K 645 (va_up f4 640 0)), (a5, zI K 645 (va_up f5 640 0)), (a6, zI K 1935 (va_up (va_up (va_up f6 1920 (-1)) 1921 (-1)) 1922 (-1)))] H := hP
  have hD : va_D A [(a0, zO 4 6 g0), (a1, zO 7 6 g1), (a2, zI K 645 (va_up f2 640 2)), (a3, zI K 645 (va_up f3 640 (nI j0))), (a4, zI K 645 (va_up f4 640 0)), (a5, zI K 645 (va_up f5 640 0)), (a6, zI K 1935 (va_up (va_up (va_up f6 1920 (-1)) 1921 (-1)) 1922 (-1)))] := hD
  obtain ⟨ff4, y5⟩ : ∃ z, z = ((va_up (va_up (va_up f6 1920 (-1)) 1921 (-1)) 1922 (-1)) : Nat → Int32) := ⟨_, rfl⟩
  rw [← y5] at hP hD
  refine lv_aload_n hx hb dX5_call_14 rfl (lv_at hl 0 rfl) ?_
  refine z_get (v := .ref a1) hx hb hg hown hK hP i_X5 rfl 0 rfl 0 (by decide) mt69 e0 dX5_call_15 ?_
  refine lv_sipush (v := 641) hx hb dX5_call_18 (by decide) ?_
  refine lv_iconst (v := 0) hx hb dX5_call_21 (by decide) ?_
  refine lv_iload_n hx hb dX5_call_22 rfl (lv_at hl 3 rfl) ?_
  refine lv_iconst (v := 0) hx hb dX5_call_23 (by decide) ?_
  refine lv_iconst (v := 0) hx hb dX5_call_24 (by decide) ?_
  refine z_callv [(a1, zO 7 6 g1), (a2, zI K 645 (va_up f2 640 2)), (a3, zI K 645 (va_up f3 640 (nI j0))), (a4, zI K 645 (va_up f4 640 0)), (a5, zI K 645 (va_up f5 640 0)), (a6, zI K 1935 ff4)] [(a0, zO 4 6 g0)] [1, 2, 3, 4, 5, 6] [0] hP hD hS hA rfl rfl (by decide) (by decide) (by decide +kernel) 0 0 rfl rfl (fun hPc hDc hF => z_runV (As := [.int 641, .int 0, .int x1, .int 0, .int 0]) (rest := []) ⟨hx, hb, hml, hown, hg⟩ (cX9_set_6 l K H.size a1 a2 a3 a4 a5 a6 g1 (va_up f2 640 2) (va_up f3 640 (nI j0)) (va_up f4 640 0) (va_up f5 640 0) ff4 x1 e1 e2 e3 e4 e5 e6) kV_RX5_81 hd_X9_set rfl rfl ⟨(Nat.le_of_ble_eq_true rfl), (Nat.le_of_ble_eq_true rfl)⟩ hK hS hZ hPc hDc hF 0 rfl rfl rfl hl.1 rfl (Nat.le_of_ble_eq_true rfl) dX5_call_25 ⟨(Nat.le_of_ble_eq_true rfl), (Nat.le_of_ble_eq_true rfl)⟩) (fun u6 H locs w7 hP hD hS => ?_)
  have hP : va_P K.1 classes [(a0, zO 4 6 g0), (a1, zO 7 6 g1), (a2, zI K 645 (va_up (va_up f2 640 2) 641 0)), (a3, zI K 645 (va_up (va_up f3 640 (nI j0)) 641 x1)), (a4, zI K 645 (va_up (va_up f4 640 0) 641 0)), (a5, zI K 645 (va_up (va_up f5 640 0) 641 0)), (a6, zI K 1935 (va_up (va_up (va_up ff4 1923 (-1)) 1924 (-1)) 1925 (-1)))] H := hP
  have hD : va_D A [(a0, zO 4 6 g0), (a1, zO 7 6 g1), (a2, zI K 645 (va_up (va_up f2 640 2) 641 0)), (a3, zI K 645 (va_up (va_up f3 640 (nI j0)) 641 x1)), (a4, zI K 645 (va_up (va_up f4 640 0) 641 0)), (a5, zI K 645 (va_up (va_up f5 640 0) 641 0)), (a6, zI K 1935 (va_up (va_up (va_up ff4 1923 (-1)) 1924 (-1)) 1925 (-1)))] := hD
  obtain ⟨ff9, y10⟩ : ∃ z, z = ((va_up (va_up f2 640 2) 641 0) : Nat → Int32) := ⟨_, rfl⟩
  rw [← y10] at hP hD
  obtain ⟨ff11, y12⟩ : ∃ z, z = ((va_up (va_up f3 640 (nI j0)) 641 x1) : Nat → Int32) := ⟨_, rfl⟩
  rw [← y12] at hP hD
  obtain ⟨ff13, y14⟩ : ∃ z, z = ((va_up (va_up f4 640 0) 641 0) : Nat → Int32) := ⟨_, rfl⟩
  rw [← y14] at hP hD
  obtain ⟨ff15, y16⟩ : ∃ z, z = ((va_up (va_up f5 640 0) 641 0) : Nat → Int32) := ⟨_, rfl⟩
  rw [← y16] at hP hD
  obtain ⟨ff17, y18⟩ : ∃ z, z = ((va_up (va_up (va_up ff4 1923 (-1)) 1924 (-1)) 1925 (-1)) : Nat → Int32) := ⟨_, rfl⟩
  rw [← y18] at hP hD
  refine lv_aload_n hx hb dX5_call_28 rfl (lv_at hl 0 rfl) ?_
  refine z_get (v := .ref a1) hx hb hg hown hK hP i_X5 rfl 0 rfl 0 (by decide) mt69 e0 dX5_call_29 ?_
  refine lv_sipush (v := 642) hx hb dX5_call_32 (by decide) ?_
  refine lv_iconst (v := 4) hx hb dX5_call_35 (by decide) ?_
  refine lv_iconst (v := 0) hx hb dX5_call_36 (by decide) ?_
  refine lv_iconst (v := 0) hx hb dX5_call_37 (by decide) ?_
  refine lv_iconst (v := 0) hx hb dX5_call_38 (by decide) ?_
  refine z_callv [(a1, zO 7 6 g1), (a2, zI K 645 ff9), (a3, zI K 645 ff11), (a4, zI K 645 ff13), (a5, zI K 645 ff15), (a6, zI K 1935 ff17)] [(a0, zO 4 6 g0)] [1, 2, 3, 4, 5, 6] [0] hP hD hS hA rfl rfl (by decide) (by decide) (by decide +kernel) 0 0 rfl rfl (fun hPc hDc hF => z_runV (As := [.int 642, .int 4, .int 0, .int 0, .int 0]) (rest := []) ⟨hx, hb, hml, hown, hg⟩ (cX9_set_7 l K H.size a1 a2 a3 a4 a5 a6 g1 ff9 ff11 ff13 ff15 ff17 e1 e2 e3 e4 e5 e6) kV_RX5_81 hd_X9_set rfl rfl ⟨(Nat.le_of_ble_eq_true rfl), (Nat.le_of_ble_eq_true rfl)⟩ hK hS hZ hPc hDc hF 0 rfl rfl rfl hl.1 rfl (Nat.le_of_ble_eq_true rfl) dX5_call_39 ⟨(Nat.le_of_ble_eq_true rfl), (Nat.le_of_ble_eq_true rfl)⟩) (fun u19 H locs w20 hP hD hS => ?_)
  have hP : va_P K.1 classes [(a0, zO 4 6 g0), (a1, zO 7 6 g1), (a2, zI K 645 (va_up ff9 642 4)), (a3, zI K 645 (va_up ff11 642 0)), (a4, zI K 645 (va_up ff13 642 0)), (a5, zI K 645 (va_up ff15 642 0)), (a6, zI K 1935 (va_up (va_up (va_up ff17 1926 (-1)) 1927 (-1)) 1928 (-1)))] H := hP
  have hD : va_D A [(a0, zO 4 6 g0), (a1, zO 7 6 g1), (a2, zI K 645 (va_up ff9 642 4)), (a3, zI K 645 (va_up ff11 642 0)), (a4, zI K 645 (va_up ff13 642 0)), (a5, zI K 645 (va_up ff15 642 0)), (a6, zI K 1935 (va_up (va_up (va_up ff17 1926 (-1)) 1927 (-1)) 1928 (-1)))] := hD
  obtain ⟨ff22, y23⟩ : ∃ z, z = ((va_up (va_up (va_up ff17 1926 (-1)) 1927 (-1)) 1928 (-1)) : Nat → Int32) := ⟨_, rfl⟩
  rw [← y23] at hP hD
  refine lv_aload_n hx hb dX5_call_42 rfl (lv_at hl 0 rfl) ?_
  refine z_get (v := .ref a1) hx hb hg hown hK hP i_X5 rfl 0 rfl 0 (by decide) mt69 e0 dX5_call_43 ?_
  refine lv_sipush (v := 642) hx hb dX5_call_46 (by decide) ?_
  refine lv_sipush (v := 640) hx hb dX5_call_49 (by decide) ?_
  refine lv_sipush (v := 641) hx hb dX5_call_52 (by decide) ?_
  refine lv_iconst (v := (-1)) hx hb dX5_call_55 (by decide) ?_
  refine z_callv [(a1, zO 7 6 g1), (a6, zI K 1935 ff22)] [(a0, zO 4 6 g0), (a2, zI K 645 (va_up ff9 642 4)), (a3, zI K 645 (va_up ff11 642 0)), (a4, zI K 645 (va_up ff13 642 0)), (a5, zI K 645 (va_up ff15 642 0))] [1, 6] [0, 2, 3, 4, 5] hP hD hS hA rfl rfl (by decide) (by decide) (by decide +kernel) 0 0 rfl rfl (fun hPc hDc hF => z_runV (As := [.int 642, .int 640, .int 641, .int (-1)]) (rest := []) ⟨hx, hb, hml, hown, hg⟩ (cX9_join_2 l K H.size a1 a6 g1 ff22 e1 e6) kV_RX5_85 hd_X9_join rfl rfl ⟨(Nat.le_of_ble_eq_true rfl), (Nat.le_of_ble_eq_true rfl)⟩ hK hS hZ hPc hDc hF 0 rfl rfl rfl hl.1 rfl (Nat.le_of_ble_eq_true rfl) dX5_call_56 ⟨(Nat.le_of_ble_eq_true rfl), (Nat.le_of_ble_eq_true rfl)⟩) (fun u24 H locs w25 hP hD hS => ?_)
  have hP : va_P K.1 classes [(a0, zO 4 6 g0), (a2, zI K 645 (va_up ff9 642 4)), (a3, zI K 645 (va_up ff11 642 0)), (a4, zI K 645 (va_up ff13 642 0)), (a5, zI K 645 (va_up ff15 642 0)), (a1, zO 7 6 g1), (a6, zI K 1935 (va_up (va_up (va_up ff22 1926 640) 1927 641) 1928 (-1)))] H := hP
  have hD : va_D A [(a0, zO 4 6 g0), (a2, zI K 645 (va_up ff9 642 4)), (a3, zI K 645 (va_up ff11 642 0)), (a4, zI K 645 (va_up ff13 642 0)), (a5, zI K 645 (va_up ff15 642 0)), (a1, zO 7 6 g1), (a6, zI K 1935 (va_up (va_up (va_up ff22 1926 640) 1927 641) 1928 (-1)))] := hD
  obtain ⟨ff27, y28⟩ : ∃ z, z = ((va_up (va_up (va_up ff22 1926 640) 1927 641) 1928 (-1)) : Nat → Int32) := ⟨_, rfl⟩
  rw [← y28] at hP hD
  refine lv_aload_n hx hb dX5_call_59 rfl (lv_at hl 0 rfl) ?_
  refine z_get (v := .ref a1) hx hb hg hown hK hP i_X5 rfl 0 rfl 0 (by decide) mt69 e0 dX5_call_60 ?_
  refine lv_sipush (v := 643) hx hb dX5_call_63 (by decide) ?_
  refine lv_iconst (v := 0) hx hb dX5_call_66 (by decide) ?_
  refine lv_iload hx hb dX5_call_67 (lv_at hl 4 rfl) ?_
  refine lv_iconst (v := 0) hx hb dX5_call_69 (by decide) ?_
  refine lv_iconst (v := 0) hx hb dX5_call_70 (by decide) ?_
  refine z_callv [(a1, zO 7 6 g1), (a2, zI K 645 (va_up ff9 642 4)), (a3, zI K 645 (va_up ff11 642 0)), (a4, zI K 645 (va_up ff13 642 0)), (a5, zI K 645 (va_up ff15 642 0)), (a6, zI K 1935 ff27)] [(a0, zO 4 6 g0)] [5, 1, 2, 3, 4, 6] [0] hP hD hS hA rfl rfl (by decide) (by decide) (by decide +kernel) 0 0 rfl rfl (fun hPc hDc hF => z_runV (As := [.int 643, .int 0, .int x2, .int 0, .int 0]) (rest := []) ⟨hx, hb, hml, hown, hg⟩ (cX9_set_8 l K H.size a1 a2 a3 a4 a5 a6 g1 (va_up ff9 642 4) (va_up ff11 642 0) (va_up ff13 642 0) (va_up ff15 642 0) ff27 x2 e1 e2 e3 e4 e5 e6) kV_RX5_81 hd_X9_set rfl rfl ⟨(Nat.le_of_ble_eq_true rfl), (Nat.le_of_ble_eq_true rfl)⟩ hK hS hZ hPc hDc hF 0 rfl rfl rfl hl.1 rfl (Nat.le_of_ble_eq_true rfl) dX5_call_71 ⟨(Nat.le_of_ble_eq_true rfl), (Nat.le_of_ble_eq_true rfl)⟩) (fun u29 H locs w30 hP hD hS => ?_)
  have hP : va_P K.1 classes [(a0, zO 4 6 g0), (a1, zO 7 6 g1), (a2, zI K 645 (va_up (va_up ff9 642 4) 643 0)), (a3, zI K 645 (va_up (va_up ff11 642 0) 643 x2)), (a4, zI K 645 (va_up (va_up ff13 642 0) 643 0)), (a5, zI K 645 (va_up (va_up ff15 642 0) 643 0)), (a6, zI K 1935 (va_up (va_up (va_up ff27 1929 (-1)) 1930 (-1)) 1931 (-1)))] H := hP
  have hD : va_D A [(a0, zO 4 6 g0), (a1, zO 7 6 g1), (a2, zI K 645 (va_up (va_up ff9 642 4) 643 0)), (a3, zI K 645 (va_up (va_up ff11 642 0) 643 x2)), (a4, zI K 645 (va_up (va_up ff13 642 0) 643 0)), (a5, zI K 645 (va_up (va_up ff15 642 0) 643 0)), (a6, zI K 1935 (va_up (va_up (va_up ff27 1929 (-1)) 1930 (-1)) 1931 (-1)))] := hD
  obtain ⟨ff32, y33⟩ : ∃ z, z = ((va_up (va_up ff9 642 4) 643 0) : Nat → Int32) := ⟨_, rfl⟩
  rw [← y33] at hP hD
  obtain ⟨ff34, y35⟩ : ∃ z, z = ((va_up (va_up ff11 642 0) 643 x2) : Nat → Int32) := ⟨_, rfl⟩
  rw [← y35] at hP hD
  obtain ⟨ff36, y37⟩ : ∃ z, z = ((va_up (va_up ff13 642 0) 643 0) : Nat → Int32) := ⟨_, rfl⟩
  rw [← y37] at hP hD
  obtain ⟨ff38, y39⟩ : ∃ z, z = ((va_up (va_up ff15 642 0) 643 0) : Nat → Int32) := ⟨_, rfl⟩
  rw [← y39] at hP hD
  obtain ⟨ff40, y41⟩ : ∃ z, z = ((va_up (va_up (va_up ff27 1929 (-1)) 1930 (-1)) 1931 (-1)) : Nat → Int32) := ⟨_, rfl⟩
  rw [← y41] at hP hD
  refine lv_aload_n hx hb dX5_call_74 rfl (lv_at hl 0 rfl) ?_
  refine z_get (v := .ref a1) hx hb hg hown hK hP i_X5 rfl 0 rfl 0 (by decide) mt69 e0 dX5_call_75 ?_
  refine lv_sipush (v := 644) hx hb dX5_call_78 (by decide) ?_
  refine lv_iconst (v := 4) hx hb dX5_call_81 (by decide) ?_
  refine lv_iconst (v := 0) hx hb dX5_call_82 (by decide) ?_
  refine lv_iconst (v := 0) hx hb dX5_call_83 (by decide) ?_
  refine lv_iconst (v := 0) hx hb dX5_call_84 (by decide) ?_
  refine z_callv [(a1, zO 7 6 g1), (a2, zI K 645 ff32), (a3, zI K 645 ff34), (a4, zI K 645 ff36), (a5, zI K 645 ff38), (a6, zI K 1935 ff40)] [(a0, zO 4 6 g0)] [1, 2, 3, 4, 5, 6] [0] hP hD hS hA rfl rfl (by decide) (by decide) (by decide +kernel) 0 0 rfl rfl (fun hPc hDc hF => z_runV (As := [.int 644, .int 4, .int 0, .int 0, .int 0]) (rest := []) ⟨hx, hb, hml, hown, hg⟩ (cX9_set_9 l K H.size a1 a2 a3 a4 a5 a6 g1 ff32 ff34 ff36 ff38 ff40 e1 e2 e3 e4 e5 e6) kV_RX5_81 hd_X9_set rfl rfl ⟨(Nat.le_of_ble_eq_true rfl), (Nat.le_of_ble_eq_true rfl)⟩ hK hS hZ hPc hDc hF 0 rfl rfl rfl hl.1 rfl (Nat.le_of_ble_eq_true rfl) dX5_call_85 ⟨(Nat.le_of_ble_eq_true rfl), (Nat.le_of_ble_eq_true rfl)⟩) (fun u42 H locs w43 hP hD hS => ?_)
  have hP : va_P K.1 classes [(a0, zO 4 6 g0), (a1, zO 7 6 g1), (a2, zI K 645 (va_up ff32 644 4)), (a3, zI K 645 (va_up ff34 644 0)), (a4, zI K 645 (va_up ff36 644 0)), (a5, zI K 645 (va_up ff38 644 0)), (a6, zI K 1935 (va_up (va_up (va_up ff40 1932 (-1)) 1933 (-1)) 1934 (-1)))] H := hP
  have hD : va_D A [(a0, zO 4 6 g0), (a1, zO 7 6 g1), (a2, zI K 645 (va_up ff32 644 4)), (a3, zI K 645 (va_up ff34 644 0)), (a4, zI K 645 (va_up ff36 644 0)), (a5, zI K 645 (va_up ff38 644 0)), (a6, zI K 1935 (va_up (va_up (va_up ff40 1932 (-1)) 1933 (-1)) 1934 (-1)))] := hD
  obtain ⟨ff45, y46⟩ : ∃ z, z = ((va_up (va_up (va_up ff40 1932 (-1)) 1933 (-1)) 1934 (-1)) : Nat → Int32) := ⟨_, rfl⟩
  rw [← y46] at hP hD
  refine lv_aload_n hx hb dX5_call_88 rfl (lv_at hl 0 rfl) ?_
  refine z_get (v := .ref a1) hx hb hg hown hK hP i_X5 rfl 0 rfl 0 (by decide) mt69 e0 dX5_call_89 ?_
  refine lv_sipush (v := 644) hx hb dX5_call_92 (by decide) ?_
  refine lv_sipush (v := 642) hx hb dX5_call_95 (by decide) ?_
  refine lv_sipush (v := 643) hx hb dX5_call_98 (by decide) ?_
  refine lv_iconst (v := (-1)) hx hb dX5_call_101 (by decide) ?_
  refine z_callv [(a1, zO 7 6 g1), (a6, zI K 1935 ff45)] [(a0, zO 4 6 g0), (a2, zI K 645 (va_up ff32 644 4)), (a3, zI K 645 (va_up ff34 644 0)), (a4, zI K 645 (va_up ff36 644 0)), (a5, zI K 645 (va_up ff38 644 0))] [1, 6] [0, 2, 3, 4, 5] hP hD hS hA rfl rfl (by decide) (by decide) (by decide +kernel) 0 0 rfl rfl (fun hPc hDc hF => z_runV (As := [.int 644, .int 642, .int 643, .int (-1)]) (rest := []) ⟨hx, hb, hml, hown, hg⟩ (cX9_join_3 l K H.size a1 a6 g1 ff45 e1 e6) kV_RX5_85 hd_X9_join rfl rfl ⟨(Nat.le_of_ble_eq_true rfl), (Nat.le_of_ble_eq_true rfl)⟩ hK hS hZ hPc hDc hF 0 rfl rfl rfl hl.1 rfl (Nat.le_of_ble_eq_true rfl) dX5_call_102 ⟨(Nat.le_of_ble_eq_true rfl), (Nat.le_of_ble_eq_true rfl)⟩) (fun u47 H locs w48 hP hD hS => ?_)
  have hP : va_P K.1 classes [(a0, zO 4 6 g0), (a2, zI K 645 (va_up ff32 644 4)), (a3, zI K 645 (va_up ff34 644 0)), (a4, zI K 645 (va_up ff36 644 0)), (a5, zI K 645 (va_up ff38 644 0)), (a1, zO 7 6 g1), (a6, zI K 1935 (va_up (va_up (va_up ff45 1932 642) 1933 643) 1934 (-1)))] H := hP
  have hD : va_D A [(a0, zO 4 6 g0), (a2, zI K 645 (va_up ff32 644 4)), (a3, zI K 645 (va_up ff34 644 0)), (a4, zI K 645 (va_up ff36 644 0)), (a5, zI K 645 (va_up ff38 644 0)), (a1, zO 7 6 g1), (a6, zI K 1935 (va_up (va_up (va_up ff45 1932 642) 1933 643) 1934 (-1)))] := hD
  obtain ⟨ff50, y51⟩ : ∃ z, z = ((va_up (va_up (va_up ff45 1932 642) 1933 643) 1934 (-1)) : Nat → Int32) := ⟨_, rfl⟩
  rw [← y51] at hP hD
  refine lv_sipush (v := 640) hx hb dX5_call_105 (by decide) ?_
  refine lv_iconst (v := 2) hx hb dX5_call_108 (by decide) ?_
  refine lv_iload_n hx hb dX5_call_109 rfl (lv_at hl 2 rfl) ?_
  refine lv_imul hx hb dX5_call_110 ?_
  refine z_cst (v := 0) (by decide +kernel) ?_
  refine lv_iadd hx hb dX5_call_111 ?_
  refine z_cst (v := 640) (by decide +kernel) ?_
  subst y51
  subst y46
  subst y41
  subst y39
  subst y37
  subst y35
  subst y33
  subst y28
  subst y23
  subst y18
  subst y16
  subst y14
  subst y12
  subst y10
  subst y5
  have hP9 : va_P K.1 classes [(a0, zO 4 6 g0), (a1, zO 7 6 g1), (a2, zI K 645 (va_up (va_up (va_up (va_up (va_up f2 640 2) 641 0) 642 4) 643 0) 644 4)), (a3, zI K 645 (va_up (va_up (va_up (va_up (va_up f3 640 (nI j0)) 641 x1) 642 0) 643 x2) 644 0)), (a4, zI K 645 (va_up (va_up (va_up (va_up (va_up f4 640 0) 641 0) 642 0) 643 0) 644 0)), (a5, zI K 645 (va_up (va_up (va_up (va_up (va_up f5 640 0) 641 0) 642 0) 643 0) 644 0)), (a6, zI K 1935 (va_up (va_up (va_up (va_up (va_up (va_up (va_up (va_up (va_up (va_up (va_up (va_up (va_up (va_up (va_up (va_up (va_up (va_up (va_up (va_up (va_up f6 1920 (-1)) 1921 (-1)) 1922 (-1)) 1923 (-1)) 1924 (-1)) 1925 (-1)) 1926 (-1)) 1927 (-1)) 1928 (-1)) 1926 640) 1927 641) 1928 (-1)) 1929 (-1)) 1930 (-1)) 1931 (-1)) 1932 (-1)) 1933 (-1)) 1934 (-1)) 1932 642) 1933 643) 1934 (-1)))] H := hP.sub [0, 5, 1, 2, 3, 4, 6] rfl
  have hD9 : va_D A [(a0, zO 4 6 g0), (a1, zO 7 6 g1), (a2, zI K 645 (va_up (va_up (va_up (va_up (va_up f2 640 2) 641 0) 642 4) 643 0) 644 4)), (a3, zI K 645 (va_up (va_up (va_up (va_up (va_up f3 640 (nI j0)) 641 x1) 642 0) 643 x2) 644 0)), (a4, zI K 645 (va_up (va_up (va_up (va_up (va_up f4 640 0) 641 0) 642 0) 643 0) 644 0)), (a5, zI K 645 (va_up (va_up (va_up (va_up (va_up f5 640 0) 641 0) 642 0) 643 0) 644 0)), (a6, zI K 1935 (va_up (va_up (va_up (va_up (va_up (va_up (va_up (va_up (va_up (va_up (va_up (va_up (va_up (va_up (va_up (va_up (va_up (va_up (va_up (va_up (va_up f6 1920 (-1)) 1921 (-1)) 1922 (-1)) 1923 (-1)) 1924 (-1)) 1925 (-1)) 1926 (-1)) 1927 (-1)) 1928 (-1)) 1926 640) 1927 641) 1928 (-1)) 1929 (-1)) 1930 (-1)) 1931 (-1)) 1932 (-1)) 1933 (-1)) 1934 (-1)) 1932 642) 1933 643) 1934 (-1)))] := hD.sub [0, 5, 1, 2, 3, 4, 6] (by decide) rfl
  exact z_iret hx hb hr (fun _ => 0) rfl hP9 hD9 hS (Nat.le_of_ble_eq_true rfl) (Nat.le_of_ble_eq_true rfl) hlocks dX5_call_112
set_option maxHeartbeats 4000000 in
set_option maxRecDepth 100000 in
theorem cX1_goTo_2 (l : Launch) (K : zK) (sz : Nat) (a0 : Nat) (g0 : Nat → Value) : Met l yX1_goTo (Cond.code yX1_goTo cX1_goTo 2 none :: WG) { frames := 0, cells := 0, slots := 0, locals := 0 } (zPre K [(a0, zO 1 18 g0)] sz [.ref a0, .int 640]) (va_Qv (fun _ : Nat → Nat => True) (zB K (va_A [(a0, zO 1 18 g0)] sz) (fun u : Nat → Nat => [(a0, zO 1 18 (va_up (va_up g0 12 (.int 640)) 11 (.int 0)))])) (va_A [(a0, zO 1 18 g0)] sz)) 0 0 (va_A [(a0, zO 1 18 g0)] sz) := by
  refine z_met (Qc := fun A => (va_Qv (fun _ : Nat → Nat => True) (zB K A (fun u : Nat → Nat => [(a0, zO 1 18 (va_up (va_up g0 12 (.int 640)) 11 (.int 0)))])) A)) (by decide +kernel) (Nat.le_of_ble_eq_true rfl) ?_
  intro p e s m args below meth c A ls H hx hb hr hg hown hlocks hml hin hK hP hD hA hS hZ hl
  have hown : s.vm.findClass RX1 = some m.cls := hown
  have hl : lv_has ls 2 [(0, .ref a0), (1, .int 640)] := hl
  refine lv_aload_n hx hb dX1_goTo_0 rfl (lv_at hl 0 rfl) ?_
  refine lv_iload_n hx hb dX1_goTo_1 rfl (lv_at hl 1 rfl) ?_
  refine z_put hx hb hg hown hK hP hD hS i_X1 rfl tyX1_ok nmX1 0 rfl 12 (by decide) mt261 rfl rfl rfl dX1_goTo_2 (fun gg1 H locs y2 hP hD hS => ?_)
  have hP : va_P K.1 classes [(a0, zO 1 18 gg1)] H := hP
  have hD : va_D A [(a0, zO 1 18 gg1)] := hD
  refine lv_aload_n hx hb dX1_goTo_5 rfl (lv_at hl 0 rfl) ?_
  refine lv_iconst (v := 0) hx hb dX1_goTo_6 (by decide) ?_
  refine z_put hx hb hg hown hK hP hD hS i_X1 rfl tyX1_ok nmX1 0 rfl 11 (by decide) mt260 rfl rfl rfl dX1_goTo_7 (fun gg3 H locs y4 hP hD hS => ?_)
  have hP : va_P K.1 classes [(a0, zO 1 18 gg3)] H := hP
  have hD : va_D A [(a0, zO 1 18 gg3)] := hD
  subst y4
  subst y2
  have hP9 : va_P K.1 classes [(a0, zO 1 18 (va_up (va_up g0 12 (.int 640)) 11 (.int 0)))] H := hP.sub [0] rfl
  have hD9 : va_D A [(a0, zO 1 18 (va_up (va_up g0 12 (.int 640)) 11 (.int 0)))] := hD.sub [0] (by decide) rfl
  exact z_vret hx hb hr (fun _ => 0) trivial hP9 hD9 hS (Nat.le_of_ble_eq_true rfl) (Nat.le_of_ble_eq_true rfl) hlocks dX1_goTo_10
set_option maxHeartbeats 4000000 in
set_option maxRecDepth 100000 in
theorem cX1_find_2 (l : Launch) (K : zK) (sz : Nat) (a0 : Nat) (a1 : Nat) (a2 : Nat) (a3 : Nat) (a4 : Nat) (a5 : Nat) (a6 : Nat) (a7 : Nat) (a8 : Nat) (g0 : Nat → Value) (g2 : Nat → Value) (g1 : Nat → Value) (f3 : Nat → Int32) (g4 : Nat → Value) (f5 : Nat → Int32) (f6 : Nat → Option Nat) (g7 : Nat → Value) (f8 : Nat → Int32) (e0 : g0 0 = (.ref a2)) (e1 : g2 6 = (.int 0)) (e2 : g2 4 = (.int 0)) (e3 : g2 0 = (.ref a1)) (e4 : g1 2 = (.ref a3)) (e5 : f3 0 = 0) (e6 : f3 1 = 0) (e7 : f3 2 = 0) (e8 : f3 3 = 0) (e9 : f3 4 = 0) (e10 : f3 5 = 0) (e11 : f3 6 = 0) (e12 : f3 7 = 0) (e13 : g2 1 = (.ref a4)) (e14 : g4 2 = (.ref a5)) (e15 : f5 0 = 0) (e16 : f5 1 = 0) (e17 : f5 2 = 0) (e18 : f5 3 = 0) (e19 : f5 4 = 0) (e20 : f5 5 = 0) (e21 : f5 6 = 0) (e22 : f5 7 = 0) (e23 : g2 3 = (.int 0)) (e24 : g2 2 = (.ref a6)) (e25 : g0 1 = (.ref a7)) (e26 : g0 2 = (.ref a8)) : Met l yX1_find (Cond.code yX1_find cX1_find 6 (some .int) :: WG) { frames := 4, cells := 4, slots := 4203, locals := 72 } (zPre K [(a0, zO 1 18 g0), (a2, zO 3 7 g2), (a1, zO 4 6 g1), (a3, zI K 8 f3), (a4, zO 4 6 g4), (a5, zI K 8 f5), (a6, zR K 512 f6), (a7, zO 2 6 g7), (a8, zI K 10 f8)] sz [.ref a0, .ref a1, .int 640, .int 1, .int 1]) (va_Qi (fun (r : Int32) (_ : Nat → Nat) => r = 7) (zB K (va_A [(a0, zO 1 18 g0), (a2, zO 3 7 g2), (a1, zO 4 6 g1), (a3, zI K 8 f3), (a4, zO 4 6 g4), (a5, zI K 8 f5), (a6, zR K 512 f6), (a7, zO 2 6 g7), (a8, zI K 10 f8)] sz) (fun u : Nat → Nat => [(a0, zO 1 18 (va_up (va_up (va_up (va_up (va_up (va_up (va_up (va_up (va_up (va_up (va_up (va_up (va_up (va_up (va_up (va_up (va_up g0 6 (.ref a1)) 7 (.int 1)) 9 (.int 1)) 4 (.int 0)) 5 (.int 0)) 8 (.int 0)) 10 (.int 0)) 13 (.int (-1))) 14 (.int 0)) 16 (.int 6)) 17 (.int 0)) 12 (.int 640)) 11 (.int 0)) 16 (.int 7)) 11 (.int 4)) 11 (.int 5)) 11 (.int 6))), (a2, zO 3 7 (va_up (va_up (va_up (va_up (va_up g2 5 (.int 0)) 5 (.int 0)) 3 (.int 1)) 4 (.int 0)) 6 (.int 0))), (a1, zO 4 6 g1), (a3, zI K 8 f3), (a4, zO 4 6 g4), (a5, zI K 8 f5), (a6, zR K 512 (va_up f6 0 (some (u 0)))), (a7, zO 2 6 (va_up g7 5 (.int 0))), (a8, zI K 10 (va_up (va_up (va_up (va_up (va_up (va_up (va_up (va_up (va_up (va_up f8 0 0) 1 0) 2 0) 3 0) 4 0) 5 0) 6 0) 7 0) 8 0) 9 0)), ((u 0), zO 6 3 (va_up (va_up (va_up (fun k => defaultValue (tyX7 k)) 0 (.ref (u 1))) 1 (.ref (u 2))) 2 (.ref (u 3)))), ((u 1), zJ K 1400 (fun _ => 0)), ((u 2), zJ K 1400 (fun _ => 0)), ((u 3), zJ K 1400 (fun _ => 0))])) (va_A [(a0, zO 1 18 g0), (a2, zO 3 7 g2), (a1, zO 4 6 g1), (a3, zI K 8 f3), (a4, zO 4 6 g4), (a5, zI K 8 f5), (a6, zR K 512 f6), (a7, zO 2 6 g7), (a8, zI K 10 f8)] sz)) 4 4203 (va_A [(a0, zO 1 18 g0), (a2, zO 3 7 g2), (a1, zO 4 6 g1), (a3, zI K 8 f3), (a4, zO 4 6 g4), (a5, zI K 8 f5), (a6, zR K 512 f6), (a7, zO 2 6 g7), (a8, zI K 10 f8)] sz) := by
  refine z_met (Qc := fun A => (va_Qi (fun (r : Int32) (_ : Nat → Nat) => r = 7) (zB K A (fun u : Nat → Nat => [(a0, zO 1 18 (va_up (va_up (va_up (va_up (va_up (va_up (va_up (va_up (va_up (va_up (va_up (va_up (va_up (va_up (va_up (va_up (va_up g0 6 (.ref a1)) 7 (.int 1)) 9 (.int 1)) 4 (.int 0)) 5 (.int 0)) 8 (.int 0)) 10 (.int 0)) 13 (.int (-1))) 14 (.int 0)) 16 (.int 6)) 17 (.int 0)) 12 (.int 640)) 11 (.int 0)) 16 (.int 7)) 11 (.int 4)) 11 (.int 5)) 11 (.int 6))), (a2, zO 3 7 (va_up (va_up (va_up (va_up (va_up g2 5 (.int 0)) 5 (.int 0)) 3 (.int 1)) 4 (.int 0)) 6 (.int 0))), (a1, zO 4 6 g1), (a3, zI K 8 f3), (a4, zO 4 6 g4), (a5, zI K 8 f5), (a6, zR K 512 (va_up f6 0 (some (u 0)))), (a7, zO 2 6 (va_up g7 5 (.int 0))), (a8, zI K 10 (va_up (va_up (va_up (va_up (va_up (va_up (va_up (va_up (va_up (va_up f8 0 0) 1 0) 2 0) 3 0) 4 0) 5 0) 6 0) 7 0) 8 0) 9 0)), ((u 0), zO 6 3 (va_up (va_up (va_up (fun k => defaultValue (tyX7 k)) 0 (.ref (u 1))) 1 (.ref (u 2))) 2 (.ref (u 3)))), ((u 1), zJ K 1400 (fun _ => 0)), ((u 2), zJ K 1400 (fun _ => 0)), ((u 3), zJ K 1400 (fun _ => 0))])) A)) (by decide +kernel) (Nat.le_of_ble_eq_true rfl) ?_
  intro p e s m args below meth c A ls H hx hb hr hg hown hlocks hml hin hK hP hD hA hS hZ hl
  have hown : s.vm.findClass RX1 = some m.cls := hown
  have hl : lv_has ls 6 [(0, .ref a0), (1, .ref a1), (2, .int 640), (3, .int 1), (4, .int 1)] := hl
  refine lv_aload_n hx hb dX1_find_0 rfl (lv_at hl 0 rfl) ?_
  refine z_get (v := .ref a2) hx hb hg hown hK hP i_X1 rfl 0 rfl 0 (by decide) mt249 e0 dX1_find_1 ?_
  refine z_callv [(a2, zO 3 7 g2), (a1, zO 4 6 g1), (a3, zI K 8 f3), (a4, zO 4 6 g4), (a5, zI K 8 f5), (a6, zR K 512 f6)] [(a0, zO 1 18 g0), (a7, zO 2 6 g7), (a8, zI K 10 f8)] [1, 2, 3, 4, 5, 6] [0, 7, 8] hP hD hS hA rfl rfl (by decide) (by decide) (by decide +kernel) 4 4203 rfl rfl (fun hPc hDc hF => z_runV (As := []) (rest := []) ⟨hx, hb, hml, hown, hg⟩ (cX3_prepare_1 l K H.size a2 a1 a3 a4 a5 a6 g2 g1 f3 g4 f5 f6 e1 e2 e3 e4 e5 e6 e7 e8 e9 e10 e11 e12 e13 e14 e15 e16 e17 e18 e19 e20 e21 e22 e23 e24) kV_RX1_46 hd_X3_prepare rfl rfl ⟨(Nat.le_of_ble_eq_true rfl), (Nat.le_of_ble_eq_true rfl)⟩ hK hS hZ hPc hDc hF 0 rfl rfl rfl hl.1 rfl (Nat.le_of_ble_eq_true rfl) dX1_find_4 ⟨(Nat.le_of_ble_eq_true rfl), (Nat.le_of_ble_eq_true rfl)⟩) (fun u1 H locs w2 hP hD hS => ?_)
  have hP : va_P K.1 classes [(a0, zO 1 18 g0), (a7, zO 2 6 g7), (a8, zI K 10 f8), (a2, zO 3 7 (va_up (va_up (va_up (va_up (va_up g2 5 (.int 0)) 5 (.int 0)) 3 (.int 1)) 4 (.int 0)) 6 (.int 0))), (a1, zO 4 6 g1), (a3, zI K 8 f3), (a4, zO 4 6 g4), (a5, zI K 8 f5), (a6, zR K 512 (va_up f6 0 (some (u1 0)))), ((u1 0), zO 6 3 (va_up (va_up (va_up (fun k => defaultValue (tyX7 k)) 0 (.ref (u1 1))) 1 (.ref (u1 2))) 2 (.ref (u1 3)))), ((u1 1), zJ K 1400 (fun _ => 0)), ((u1 2), zJ K 1400 (fun _ => 0)), ((u1 3), zJ K 1400 (fun _ => 0))] H := hP
  have hD : va_D A [(a0, zO 1 18 g0), (a7, zO 2 6 g7), (a8, zI K 10 f8), (a2, zO 3 7 (va_up (va_up (va_up (va_up (va_up g2 5 (.int 0)) 5 (.int 0)) 3 (.int 1)) 4 (.int 0)) 6 (.int 0))), (a1, zO 4 6 g1), (a3, zI K 8 f3), (a4, zO 4 6 g4), (a5, zI K 8 f5), (a6, zR K 512 (va_up f6 0 (some (u1 0)))), ((u1 0), zO 6 3 (va_up (va_up (va_up (fun k => defaultValue (tyX7 k)) 0 (.ref (u1 1))) 1 (.ref (u1 2))) 2 (.ref (u1 3)))), ((u1 1), zJ K 1400 (fun _ => 0)), ((u1 2), zJ K 1400 (fun _ => 0)), ((u1 3), zJ K 1400 (fun _ => 0))] := hD
  obtain ⟨gg4, y5⟩ : ∃ z, z = ((va_up (va_up (va_up (va_up (va_up g2 5 (.int 0)) 5 (.int 0)) 3 (.int 1)) 4 (.int 0)) 6 (.int 0)) : Nat → Value) := ⟨_, rfl⟩
  rw [← y5] at hP hD
  obtain ⟨gg6, y7⟩ : ∃ z, z = ((va_up (va_up (va_up (fun k => defaultValue (tyX7 k)) 0 (.ref (u1 1))) 1 (.ref (u1 2))) 2 (.ref (u1 3))) : Nat → Value) := ⟨_, rfl⟩
  rw [← y7] at hP hD
  refine lv_aload_n hx hb dX1_find_7 rfl (lv_at hl 0 rfl) ?_
  refine z_get (v := .ref a7) hx hb hg hown hK hP i_X1 rfl 0 rfl 1 (by decide) mt250 e25 dX1_find_8 ?_
  refine z_callv [(a7, zO 2 6 g7)] [(a0, zO 1 18 g0), (a8, zI K 10 f8), (a2, zO 3 7 gg4), (a1, zO 4 6 g1), (a3, zI K 8 f3), (a4, zO 4 6 g4), (a5, zI K 8 f5), (a6, zR K 512 (va_up f6 0 (some (u1 0)))), ((u1 0), zO 6 3 gg6), ((u1 1), zJ K 1400 (fun _ => 0)), ((u1 2), zJ K 1400 (fun _ => 0)), ((u1 3), zJ K 1400 (fun _ => 0))] [1] [0, 2, 3, 4, 5, 6, 7, 8, 9, 10, 11, 12] hP hD hS hA rfl rfl (by decide) (by decide) (by decide +kernel) 4 4203 rfl rfl (fun hPc hDc hF => z_runV (As := []) (rest := []) ⟨hx, hb, hml, hown, hg⟩ (cX2_clear_1 l K H.size a7 g7) kV_RX1_49 hd_X2_clear rfl rfl ⟨(Nat.le_of_ble_eq_true rfl), (Nat.le_of_ble_eq_true rfl)⟩ hK hS hZ hPc hDc hF 0 rfl rfl rfl hl.1 rfl (Nat.le_of_ble_eq_true rfl) dX1_find_11 ⟨(Nat.le_of_ble_eq_true rfl), (Nat.le_of_ble_eq_true rfl)⟩) (fun u8 H locs w9 hP hD hS => ?_)
  have hP : va_P K.1 classes [(a0, zO 1 18 g0), (a8, zI K 10 f8), (a2, zO 3 7 gg4), (a1, zO 4 6 g1), (a3, zI K 8 f3), (a4, zO 4 6 g4), (a5, zI K 8 f5), (a6, zR K 512 (va_up f6 0 (some (u1 0)))), ((u1 0), zO 6 3 gg6), ((u1 1), zJ K 1400 (fun _ => 0)), ((u1 2), zJ K 1400 (fun _ => 0)), ((u1 3), zJ K 1400 (fun _ => 0)), (a7, zO 2 6 (va_up g7 5 (.int 0)))] H := hP
  have hD : va_D A [(a0, zO 1 18 g0), (a8, zI K 10 f8), (a2, zO 3 7 gg4), (a1, zO 4 6 g1), (a3, zI K 8 f3), (a4, zO 4 6 g4), (a5, zI K 8 f5), (a6, zR K 512 (va_up f6 0 (some (u1 0)))), ((u1 0), zO 6 3 gg6), ((u1 1), zJ K 1400 (fun _ => 0)), ((u1 2), zJ K 1400 (fun _ => 0)), ((u1 3), zJ K 1400 (fun _ => 0)), (a7, zO 2 6 (va_up g7 5 (.int 0)))] := hD
  refine lv_aload_n hx hb dX1_find_14 rfl (lv_at hl 0 rfl) ?_
  refine z_get (v := .ref a8) hx hb hg hown hK hP i_X1 rfl 0 rfl 2 (by decide) mt251 e26 dX1_find_15 ?_
  refine lv_iconst (v := 0) hx hb dX1_find_18 (by decide) ?_
  refine z_callv [(a8, zI K 10 f8)] [(a0, zO 1 18 g0), (a2, zO 3 7 gg4), (a1, zO 4 6 g1), (a3, zI K 8 f3), (a4, zO 4 6 g4), (a5, zI K 8 f5), (a6, zR K 512 (va_up f6 0 (some (u1 0)))), ((u1 0), zO 6 3 gg6), ((u1 1), zJ K 1400 (fun _ => 0)), ((u1 2), zJ K 1400 (fun _ => 0)), ((u1 3), zJ K 1400 (fun _ => 0)), (a7, zO 2 6 (va_up g7 5 (.int 0)))] [1] [0, 2, 3, 4, 5, 6, 7, 8, 9, 10, 11, 12] hP hD hS hA rfl rfl (by decide) (by decide) (by decide +kernel) 4 4203 rfl rfl (fun hPc hDc hF => z_runS (As := [.ref a8, .int 0]) (rest := []) ⟨hx, hb, hml, hown, hg⟩ (cJ7_fill_53178_1 l K H.size a8 f8) kS_RX1_52 hd_J7_fill_53178 rfl rfl ⟨(Nat.le_of_ble_eq_true rfl), (Nat.le_of_ble_eq_true rfl)⟩ hK hS hZ hPc hDc hF rfl hl.1 rfl (Nat.le_of_ble_eq_true rfl) dX1_find_19 ⟨(Nat.le_of_ble_eq_true rfl), (Nat.le_of_ble_eq_true rfl)⟩) (fun u11 H locs w12 hP hD hS => ?_)
  have hP : va_P K.1 classes [(a0, zO 1 18 g0), (a2, zO 3 7 gg4), (a1, zO 4 6 g1), (a3, zI K 8 f3), (a4, zO 4 6 g4), (a5, zI K 8 f5), (a6, zR K 512 (va_up f6 0 (some (u1 0)))), ((u1 0), zO 6 3 gg6), ((u1 1), zJ K 1400 (fun _ => 0)), ((u1 2), zJ K 1400 (fun _ => 0)), ((u1 3), zJ K 1400 (fun _ => 0)), (a7, zO 2 6 (va_up g7 5 (.int 0))), (a8, zI K 10 (va_up (va_up (va_up (va_up (va_up (va_up (va_up (va_up (va_up (va_up f8 0 0) 1 0) 2 0) 3 0) 4 0) 5 0) 6 0) 7 0) 8 0) 9 0))] H := hP
  have hD : va_D A [(a0, zO 1 18 g0), (a2, zO 3 7 gg4), (a1, zO 4 6 g1), (a3, zI K 8 f3), (a4, zO 4 6 g4), (a5, zI K 8 f5), (a6, zR K 512 (va_up f6 0 (some (u1 0)))), ((u1 0), zO 6 3 gg6), ((u1 1), zJ K 1400 (fun _ => 0)), ((u1 2), zJ K 1400 (fun _ => 0)), ((u1 3), zJ K 1400 (fun _ => 0)), (a7, zO 2 6 (va_up g7 5 (.int 0))), (a8, zI K 10 (va_up (va_up (va_up (va_up (va_up (va_up (va_up (va_up (va_up (va_up f8 0 0) 1 0) 2 0) 3 0) 4 0) 5 0) 6 0) 7 0) 8 0) 9 0))] := hD
  obtain ⟨ff14, y15⟩ : ∃ z, z = ((va_up (va_up (va_up (va_up (va_up (va_up (va_up (va_up (va_up (va_up f8 0 0) 1 0) 2 0) 3 0) 4 0) 5 0) 6 0) 7 0) 8 0) 9 0) : Nat → Int32) := ⟨_, rfl⟩
  rw [← y15] at hP hD
  refine lv_aload_n hx hb dX1_find_22 rfl (lv_at hl 0 rfl) ?_
  refine lv_aload_n hx hb dX1_find_23 rfl (lv_at hl 1 rfl) ?_
  refine z_put hx hb hg hown hK hP hD hS i_X1 rfl tyX1_ok nmX1 0 rfl 6 (by decide) mt255 rfl rfl rfl dX1_find_24 (fun gg16 H locs y17 hP hD hS => ?_)
  have hP : va_P K.1 classes [(a0, zO 1 18 gg16), (a2, zO 3 7 gg4), (a1, zO 4 6 g1), (a3, zI K 8 f3), (a4, zO 4 6 g4), (a5, zI K 8 f5), (a6, zR K 512 (va_up f6 0 (some (u1 0)))), ((u1 0), zO 6 3 gg6), ((u1 1), zJ K 1400 (fun _ => 0)), ((u1 2), zJ K 1400 (fun _ => 0)), ((u1 3), zJ K 1400 (fun _ => 0)), (a7, zO 2 6 (va_up g7 5 (.int 0))), (a8, zI K 10 ff14)] H := hP
  have hD : va_D A [(a0, zO 1 18 gg16), (a2, zO 3 7 gg4), (a1, zO 4 6 g1), (a3, zI K 8 f3), (a4, zO 4 6 g4), (a5, zI K 8 f5), (a6, zR K 512 (va_up f6 0 (some (u1 0)))), ((u1 0), zO 6 3 gg6), ((u1 1), zJ K 1400 (fun _ => 0)), ((u1 2), zJ K 1400 (fun _ => 0)), ((u1 3), zJ K 1400 (fun _ => 0)), (a7, zO 2 6 (va_up g7 5 (.int 0))), (a8, zI K 10 ff14)] := hD
  refine lv_aload_n hx hb dX1_find_27 rfl (lv_at hl 0 rfl) ?_
  refine lv_iload_n hx hb dX1_find_28 rfl (lv_at hl 3 rfl) ?_
  refine z_put hx hb hg hown hK hP hD hS i_X1 rfl tyX1_ok nmX1 0 rfl 7 (by decide) mt256 rfl rfl rfl dX1_find_29 (fun gg18 H locs y19 hP hD hS => ?_)
  have hP : va_P K.1 classes [(a0, zO 1 18 gg18), (a2, zO 3 7 gg4), (a1, zO 4 6 g1), (a3, zI K 8 f3), (a4, zO 4 6 g4), (a5, zI K 8 f5), (a6, zR K 512 (va_up f6 0 (some (u1 0)))), ((u1 0), zO 6 3 gg6), ((u1 1), zJ K 1400 (fun _ => 0)), ((u1 2), zJ K 1400 (fun _ => 0)), ((u1 3), zJ K 1400 (fun _ => 0)), (a7, zO 2 6 (va_up g7 5 (.int 0))), (a8, zI K 10 ff14)] H := hP
  have hD : va_D A [(a0, zO 1 18 gg18), (a2, zO 3 7 gg4), (a1, zO 4 6 g1), (a3, zI K 8 f3), (a4, zO 4 6 g4), (a5, zI K 8 f5), (a6, zR K 512 (va_up f6 0 (some (u1 0)))), ((u1 0), zO 6 3 gg6), ((u1 1), zJ K 1400 (fun _ => 0)), ((u1 2), zJ K 1400 (fun _ => 0)), ((u1 3), zJ K 1400 (fun _ => 0)), (a7, zO 2 6 (va_up g7 5 (.int 0))), (a8, zI K 10 ff14)] := hD
  refine lv_aload_n hx hb dX1_find_32 rfl (lv_at hl 0 rfl) ?_
  refine lv_iload hx hb dX1_find_33 (lv_at hl 4 rfl) ?_
  refine z_put hx hb hg hown hK hP hD hS i_X1 rfl tyX1_ok nmX1 0 rfl 9 (by decide) mt258 rfl rfl rfl dX1_find_35 (fun gg20 H locs y21 hP hD hS => ?_)
  have hP : va_P K.1 classes [(a0, zO 1 18 gg20), (a2, zO 3 7 gg4), (a1, zO 4 6 g1), (a3, zI K 8 f3), (a4, zO 4 6 g4), (a5, zI K 8 f5), (a6, zR K 512 (va_up f6 0 (some (u1 0)))), ((u1 0), zO 6 3 gg6), ((u1 1), zJ K 1400 (fun _ => 0)), ((u1 2), zJ K 1400 (fun _ => 0)), ((u1 3), zJ K 1400 (fun _ => 0)), (a7, zO 2 6 (va_up g7 5 (.int 0))), (a8, zI K 10 ff14)] H := hP
  have hD : va_D A [(a0, zO 1 18 gg20), (a2, zO 3 7 gg4), (a1, zO 4 6 g1), (a3, zI K 8 f3), (a4, zO 4 6 g4), (a5, zI K 8 f5), (a6, zR K 512 (va_up f6 0 (some (u1 0)))), ((u1 0), zO 6 3 gg6), ((u1 1), zJ K 1400 (fun _ => 0)), ((u1 2), zJ K 1400 (fun _ => 0)), ((u1 3), zJ K 1400 (fun _ => 0)), (a7, zO 2 6 (va_up g7 5 (.int 0))), (a8, zI K 10 ff14)] := hD
  refine lv_aload_n hx hb dX1_find_38 rfl (lv_at hl 0 rfl) ?_
  refine lv_iconst (v := 0) hx hb dX1_find_39 (by decide) ?_
  refine z_put hx hb hg hown hK hP hD hS i_X1 rfl tyX1_ok nmX1 0 rfl 4 (by decide) mt253 rfl rfl rfl dX1_find_40 (fun gg22 H locs y23 hP hD hS => ?_)
  have hP : va_P K.1 classes [(a0, zO 1 18 gg22), (a2, zO 3 7 gg4), (a1, zO 4 6 g1), (a3, zI K 8 f3), (a4, zO 4 6 g4), (a5, zI K 8 f5), (a6, zR K 512 (va_up f6 0 (some (u1 0)))), ((u1 0), zO 6 3 gg6), ((u1 1), zJ K 1400 (fun _ => 0)), ((u1 2), zJ K 1400 (fun _ => 0)), ((u1 3), zJ K 1400 (fun _ => 0)), (a7, zO 2 6 (va_up g7 5 (.int 0))), (a8, zI K 10 ff14)] H := hP
  have hD : va_D A [(a0, zO 1 18 gg22), (a2, zO 3 7 gg4), (a1, zO 4 6 g1), (a3, zI K 8 f3), (a4, zO 4 6 g4), (a5, zI K 8 f5), (a6, zR K 512 (va_up f6 0 (some (u1 0)))), ((u1 0), zO 6 3 gg6), ((u1 1), zJ K 1400 (fun _ => 0)), ((u1 2), zJ K 1400 (fun _ => 0)), ((u1 3), zJ K 1400 (fun _ => 0)), (a7, zO 2 6 (va_up g7 5 (.int 0))), (a8, zI K 10 ff14)] := hD
  refine lv_aload_n hx hb dX1_find_43 rfl (lv_at hl 0 rfl) ?_
  refine lv_iconst (v := 0) hx hb dX1_find_44 (by decide) ?_
  refine z_put hx hb hg hown hK hP hD hS i_X1 rfl tyX1_ok nmX1 0 rfl 5 (by decide) mt254 rfl rfl rfl dX1_find_45 (fun gg24 H locs y25 hP hD hS => ?_)
  have hP : va_P K.1 classes [(a0, zO 1 18 gg24), (a2, zO 3 7 gg4), (a1, zO 4 6 g1), (a3, zI K 8 f3), (a4, zO 4 6 g4), (a5, zI K 8 f5), (a6, zR K 512 (va_up f6 0 (some (u1 0)))), ((u1 0), zO 6 3 gg6), ((u1 1), zJ K 1400 (fun _ => 0)), ((u1 2), zJ K 1400 (fun _ => 0)), ((u1 3), zJ K 1400 (fun _ => 0)), (a7, zO 2 6 (va_up g7 5 (.int 0))), (a8, zI K 10 ff14)] H := hP
  have hD : va_D A [(a0, zO 1 18 gg24), (a2, zO 3 7 gg4), (a1, zO 4 6 g1), (a3, zI K 8 f3), (a4, zO 4 6 g4), (a5, zI K 8 f5), (a6, zR K 512 (va_up f6 0 (some (u1 0)))), ((u1 0), zO 6 3 gg6), ((u1 1), zJ K 1400 (fun _ => 0)), ((u1 2), zJ K 1400 (fun _ => 0)), ((u1 3), zJ K 1400 (fun _ => 0)), (a7, zO 2 6 (va_up g7 5 (.int 0))), (a8, zI K 10 ff14)] := hD
  refine lv_aload_n hx hb dX1_find_48 rfl (lv_at hl 0 rfl) ?_
  refine lv_iconst (v := 0) hx hb dX1_find_49 (by decide) ?_
  refine z_put hx hb hg hown hK hP hD hS i_X1 rfl tyX1_ok nmX1 0 rfl 8 (by decide) mt257 rfl rfl rfl dX1_find_50 (fun gg26 H locs y27 hP hD hS => ?_)
  have hP : va_P K.1 classes [(a0, zO 1 18 gg26), (a2, zO 3 7 gg4), (a1, zO 4 6 g1), (a3, zI K 8 f3), (a4, zO 4 6 g4), (a5, zI K 8 f5), (a6, zR K 512 (va_up f6 0 (some (u1 0)))), ((u1 0), zO 6 3 gg6), ((u1 1), zJ K 1400 (fun _ => 0)), ((u1 2), zJ K 1400 (fun _ => 0)), ((u1 3), zJ K 1400 (fun _ => 0)), (a7, zO 2 6 (va_up g7 5 (.int 0))), (a8, zI K 10 ff14)] H := hP
  have hD : va_D A [(a0, zO 1 18 gg26), (a2, zO 3 7 gg4), (a1, zO 4 6 g1), (a3, zI K 8 f3), (a4, zO 4 6 g4), (a5, zI K 8 f5), (a6, zR K 512 (va_up f6 0 (some (u1 0)))), ((u1 0), zO 6 3 gg6), ((u1 1), zJ K 1400 (fun _ => 0)), ((u1 2), zJ K 1400 (fun _ => 0)), ((u1 3), zJ K 1400 (fun _ => 0)), (a7, zO 2 6 (va_up g7 5 (.int 0))), (a8, zI K 10 ff14)] := hD
  refine lv_aload_n hx hb dX1_find_53 rfl (lv_at hl 0 rfl) ?_
  refine lv_iconst (v := 0) hx hb dX1_find_54 (by decide) ?_
  refine z_put hx hb hg hown hK hP hD hS i_X1 rfl tyX1_ok nmX1 0 rfl 10 (by decide) mt259 rfl rfl rfl dX1_find_55 (fun gg28 H locs y29 hP hD hS => ?_)
  have hP : va_P K.1 classes [(a0, zO 1 18 gg28), (a2, zO 3 7 gg4), (a1, zO 4 6 g1), (a3, zI K 8 f3), (a4, zO 4 6 g4), (a5, zI K 8 f5), (a6, zR K 512 (va_up f6 0 (some (u1 0)))), ((u1 0), zO 6 3 gg6), ((u1 1), zJ K 1400 (fun _ => 0)), ((u1 2), zJ K 1400 (fun _ => 0)), ((u1 3), zJ K 1400 (fun _ => 0)), (a7, zO 2 6 (va_up g7 5 (.int 0))), (a8, zI K 10 ff14)] H := hP
  have hD : va_D A [(a0, zO 1 18 gg28), (a2, zO 3 7 gg4), (a1, zO 4 6 g1), (a3, zI K 8 f3), (a4, zO 4 6 g4), (a5, zI K 8 f5), (a6, zR K 512 (va_up f6 0 (some (u1 0)))), ((u1 0), zO 6 3 gg6), ((u1 1), zJ K 1400 (fun _ => 0)), ((u1 2), zJ K 1400 (fun _ => 0)), ((u1 3), zJ K 1400 (fun _ => 0)), (a7, zO 2 6 (va_up g7 5 (.int 0))), (a8, zI K 10 ff14)] := hD
  refine lv_aload_n hx hb dX1_find_58 rfl (lv_at hl 0 rfl) ?_
  refine lv_iconst (v := (-1)) hx hb dX1_find_59 (by decide) ?_
  refine z_put hx hb hg hown hK hP hD hS i_X1 rfl tyX1_ok nmX1 0 rfl 13 (by decide) mt262 rfl rfl rfl dX1_find_60 (fun gg30 H locs y31 hP hD hS => ?_)
  have hP : va_P K.1 classes [(a0, zO 1 18 gg30), (a2, zO 3 7 gg4), (a1, zO 4 6 g1), (a3, zI K 8 f3), (a4, zO 4 6 g4), (a5, zI K 8 f5), (a6, zR K 512 (va_up f6 0 (some (u1 0)))), ((u1 0), zO 6 3 gg6), ((u1 1), zJ K 1400 (fun _ => 0)), ((u1 2), zJ K 1400 (fun _ => 0)), ((u1 3), zJ K 1400 (fun _ => 0)), (a7, zO 2 6 (va_up g7 5 (.int 0))), (a8, zI K 10 ff14)] H := hP
  have hD : va_D A [(a0, zO 1 18 gg30), (a2, zO 3 7 gg4), (a1, zO 4 6 g1), (a3, zI K 8 f3), (a4, zO 4 6 g4), (a5, zI K 8 f5), (a6, zR K 512 (va_up f6 0 (some (u1 0)))), ((u1 0), zO 6 3 gg6), ((u1 1), zJ K 1400 (fun _ => 0)), ((u1 2), zJ K 1400 (fun _ => 0)), ((u1 3), zJ K 1400 (fun _ => 0)), (a7, zO 2 6 (va_up g7 5 (.int 0))), (a8, zI K 10 ff14)] := hD
  refine lv_aload_n hx hb dX1_find_63 rfl (lv_at hl 0 rfl) ?_
  refine lv_iconst (v := 0) hx hb dX1_find_64 (by decide) ?_
  refine z_put hx hb hg hown hK hP hD hS i_X1 rfl tyX1_ok nmX1 0 rfl 14 (by decide) mt263 rfl rfl rfl dX1_find_65 (fun gg32 H locs y33 hP hD hS => ?_)
  have hP : va_P K.1 classes [(a0, zO 1 18 gg32), (a2, zO 3 7 gg4), (a1, zO 4 6 g1), (a3, zI K 8 f3), (a4, zO 4 6 g4), (a5, zI K 8 f5), (a6, zR K 512 (va_up f6 0 (some (u1 0)))), ((u1 0), zO 6 3 gg6), ((u1 1), zJ K 1400 (fun _ => 0)), ((u1 2), zJ K 1400 (fun _ => 0)), ((u1 3), zJ K 1400 (fun _ => 0)), (a7, zO 2 6 (va_up g7 5 (.int 0))), (a8, zI K 10 ff14)] H := hP
  have hD : va_D A [(a0, zO 1 18 gg32), (a2, zO 3 7 gg4), (a1, zO 4 6 g1), (a3, zI K 8 f3), (a4, zO 4 6 g4), (a5, zI K 8 f5), (a6, zR K 512 (va_up f6 0 (some (u1 0)))), ((u1 0), zO 6 3 gg6), ((u1 1), zJ K 1400 (fun _ => 0)), ((u1 2), zJ K 1400 (fun _ => 0)), ((u1 3), zJ K 1400 (fun _ => 0)), (a7, zO 2 6 (va_up g7 5 (.int 0))), (a8, zI K 10 ff14)] := hD
  refine lv_aload_n hx hb dX1_find_68 rfl (lv_at hl 0 rfl) ?_
  refine lv_bipush (v := 6) hx hb dX1_find_69 (by decide) ?_
  refine z_put hx hb hg hown hK hP hD hS i_X1 rfl tyX1_ok nmX1 0 rfl 16 (by decide) mt265 rfl rfl rfl dX1_find_71 (fun gg34 H locs y35 hP hD hS => ?_)
  have hP : va_P K.1 classes [(a0, zO 1 18 gg34), (a2, zO 3 7 gg4), (a1, zO 4 6 g1), (a3, zI K 8 f3), (a4, zO 4 6 g4), (a5, zI K 8 f5), (a6, zR K 512 (va_up f6 0 (some (u1 0)))), ((u1 0), zO 6 3 gg6), ((u1 1), zJ K 1400 (fun _ => 0)), ((u1 2), zJ K 1400 (fun _ => 0)), ((u1 3), zJ K 1400 (fun _ => 0)), (a7, zO 2 6 (va_up g7 5 (.int 0))), (a8, zI K 10 ff14)] H := hP
  have hD : va_D A [(a0, zO 1 18 gg34), (a2, zO 3 7 gg4), (a1, zO 4 6 g1), (a3, zI K 8 f3), (a4, zO 4 6 g4), (a5, zI K 8 f5), (a6, zR K 512 (va_up f6 0 (some (u1 0)))), ((u1 0), zO 6 3 gg6), ((u1 1), zJ K 1400 (fun _ => 0)), ((u1 2), zJ K 1400 (fun _ => 0)), ((u1 3), zJ K 1400 (fun _ => 0)), (a7, zO 2 6 (va_up g7 5 (.int 0))), (a8, zI K 10 ff14)] := hD
  refine lv_aload_n hx hb dX1_find_74 rfl (lv_at hl 0 rfl) ?_
  refine lv_iconst (v := 0) hx hb dX1_find_75 (by decide) ?_
  refine z_put hx hb hg hown hK hP hD hS i_X1 rfl tyX1_ok nmX1 0 rfl 17 (by decide) mt266 rfl rfl rfl dX1_find_76 (fun gg36 H locs y37 hP hD hS => ?_)
  have hP : va_P K.1 classes [(a0, zO 1 18 gg36), (a2, zO 3 7 gg4), (a1, zO 4 6 g1), (a3, zI K 8 f3), (a4, zO 4 6 g4), (a5, zI K 8 f5), (a6, zR K 512 (va_up f6 0 (some (u1 0)))), ((u1 0), zO 6 3 gg6), ((u1 1), zJ K 1400 (fun _ => 0)), ((u1 2), zJ K 1400 (fun _ => 0)), ((u1 3), zJ K 1400 (fun _ => 0)), (a7, zO 2 6 (va_up g7 5 (.int 0))), (a8, zI K 10 ff14)] H := hP
  have hD : va_D A [(a0, zO 1 18 gg36), (a2, zO 3 7 gg4), (a1, zO 4 6 g1), (a3, zI K 8 f3), (a4, zO 4 6 g4), (a5, zI K 8 f5), (a6, zR K 512 (va_up f6 0 (some (u1 0)))), ((u1 0), zO 6 3 gg6), ((u1 1), zJ K 1400 (fun _ => 0)), ((u1 2), zJ K 1400 (fun _ => 0)), ((u1 3), zJ K 1400 (fun _ => 0)), (a7, zO 2 6 (va_up g7 5 (.int 0))), (a8, zI K 10 ff14)] := hD
  refine lv_aload_n hx hb dX1_find_79 rfl (lv_at hl 0 rfl) ?_
  refine lv_iload_n hx hb dX1_find_80 rfl (lv_at hl 2 rfl) ?_
  refine z_callv [(a0, zO 1 18 gg36)] [(a2, zO 3 7 gg4), (a1, zO 4 6 g1), (a3, zI K 8 f3), (a4, zO 4 6 g4), (a5, zI K 8 f5), (a6, zR K 512 (va_up f6 0 (some (u1 0)))), ((u1 0), zO 6 3 gg6), ((u1 1), zJ K 1400 (fun _ => 0)), ((u1 2), zJ K 1400 (fun _ => 0)), ((u1 3), zJ K 1400 (fun _ => 0)), (a7, zO 2 6 (va_up g7 5 (.int 0))), (a8, zI K 10 ff14)] [0] [1, 2, 3, 4, 5, 6, 7, 8, 9, 10, 11, 12] hP hD hS hA rfl rfl (by decide) (by decide) (by decide +kernel) 4 4203 rfl rfl (fun hPc hDc hF => z_runV (As := [.int 640]) (rest := []) ⟨hx, hb, hml, hown, hg⟩ (cX1_goTo_2 l K H.size a0 gg36) kV_RX1_86 hd_X1_goTo rfl rfl ⟨(Nat.le_of_ble_eq_true rfl), (Nat.le_of_ble_eq_true rfl)⟩ hK hS hZ hPc hDc hF 0 rfl rfl rfl hl.1 rfl (Nat.le_of_ble_eq_true rfl) dX1_find_81 ⟨(Nat.le_of_ble_eq_true rfl), (Nat.le_of_ble_eq_true rfl)⟩) (fun u38 H locs w39 hP hD hS => ?_)
  have hP : va_P K.1 classes [(a2, zO 3 7 gg4), (a1, zO 4 6 g1), (a3, zI K 8 f3), (a4, zO 4 6 g4), (a5, zI K 8 f5), (a6, zR K 512 (va_up f6 0 (some (u1 0)))), ((u1 0), zO 6 3 gg6), ((u1 1), zJ K 1400 (fun _ => 0)), ((u1 2), zJ K 1400 (fun _ => 0)), ((u1 3), zJ K 1400 (fun _ => 0)), (a7, zO 2 6 (va_up g7 5 (.int 0))), (a8, zI K 10 ff14), (a0, zO 1 18 (va_up (va_up gg36 12 (.int 640)) 11 (.int 0)))] H := hP
  have hD : va_D A [(a2, zO 3 7 gg4), (a1, zO 4 6 g1), (a3, zI K 8 f3), (a4, zO 4 6 g4), (a5, zI K 8 f5), (a6, zR K 512 (va_up f6 0 (some (u1 0)))), ((u1 0), zO 6 3 gg6), ((u1 1), zJ K 1400 (fun _ => 0)), ((u1 2), zJ K 1400 (fun _ => 0)), ((u1 3), zJ K 1400 (fun _ => 0)), (a7, zO 2 6 (va_up g7 5 (.int 0))), (a8, zI K 10 ff14), (a0, zO 1 18 (va_up (va_up gg36 12 (.int 640)) 11 (.int 0)))] := hD
  obtain ⟨gg41, y42⟩ : ∃ z, z = ((va_up (va_up gg36 12 (.int 640)) 11 (.int 0)) : Nat → Value) := ⟨_, rfl⟩
  rw [← y42] at hP hD
  refine lv_iconst (v := 0) hx hb dX1_find_84 (by decide) ?_
  refine lv_istore (lv' := [(5, .int 0), (0, .ref a0), (1, .ref a1), (2, .int 640), (3, .int 1), (4, .int 1)]) hx hb dX1_find_85 hl (by decide) rfl (fun ls hl => ?_)
  refine lv_iload hx hb dX1_find_87 (lv_at hl 0 rfl) ?_
  refine lv_ldc (v := 1000000) hx hb hown (hg _ mt961) dX1_find_89 ?_
  refine lv_icmp_ge (tgt := 189) hx hb dX1_find_91 (by decide) (fun c => absurd c (by decide)) (fun _ => ?_)
  refine lv_aload_n hx hb dX1_find_94 rfl (lv_at hl 1 rfl) ?_
  refine z_get (v := .int 0) hx hb hg hown hK hP i_X1 rfl 12 rfl 11 (by decide) mt260 (zu_of y42 zu_eq) dX1_find_95 ?_
  refine lv_bipush (v := 6) hx hb dX1_find_98 (by decide) ?_
  refine lv_icmp_eq (tgt := 189) hx hb dX1_find_100 (by decide) (fun c => absurd c (by decide)) (fun _ => ?_)
  refine lv_aload_n hx hb dX1_find_103 rfl (lv_at hl 1 rfl) ?_
  refine z_get (v := .int 0) hx hb hg hown hK hP i_X1 rfl 12 rfl 11 (by decide) mt260 (zu_of y42 zu_eq) dX1_find_104 ?_
  refine lv_tableIn (off := 33) (tgt := 140) hx hb dX1_find_107 (by decide) (by decide) (by decide) (by decide) ?_
  refine lv_aload_n hx hb dX1_find_140 rfl (lv_at hl 1 rfl) ?_
  refine z_callv [(a0, zO 1 18 gg41)] [(a2, zO 3 7 gg4), (a1, zO 4 6 g1), (a3, zI K 8 f3), (a4, zO 4 6 g4), (a5, zI K 8 f5), (a6, zR K 512 (va_up f6 0 (some (u1 0)))), ((u1 0), zO 6 3 gg6), ((u1 1), zJ K 1400 (fun _ => 0)), ((u1 2), zJ K 1400 (fun _ => 0)), ((u1 3), zJ K 1400 (fun _ => 0)), (a7, zO 2 6 (va_up g7 5 (.int 0))), (a8, zI K 10 ff14)] [12] [0, 1, 2, 3, 4, 5, 6, 7, 8, 9, 10, 11] hP hD hS hA rfl rfl (by decide) (by decide) (by decide +kernel) 4 4203 rfl rfl (fun hPc hDc hF => z_runV (As := []) (rest := []) ⟨hx, hb, hml, hown, hg⟩ (cX1_step_1 l K H.size a0 gg41 (zu_of y42 (zu_ne (by decide) (zu_ne (by decide) (zu_of y37 (zu_ne (by decide) (zu_of y35 (zu_ne (by decide) (zu_of y33 (zu_ne (by decide) (zu_of y31 (zu_ne (by decide) (zu_of y29 zu_eq)))))))))))) (zu_of y42 (zu_ne (by decide) (zu_ne (by decide) (zu_of y37 (zu_ne (by decide) (zu_of y35 (zu_ne (by decide) (zu_of y33 (zu_ne (by decide) (zu_of y31 (zu_ne (by decide) (zu_of y29 (zu_ne (by decide) (zu_of y27 zu_eq)))))))))))))) (zu_of y42 (zu_ne (by decide) (zu_ne (by decide) (zu_of y37 (zu_ne (by decide) (zu_of y35 (zu_ne (by decide) (zu_of y33 (zu_ne (by decide) (zu_of y31 (zu_ne (by decide) (zu_of y29 (zu_ne (by decide) (zu_of y27 (zu_ne (by decide) (zu_of y25 (zu_ne (by decide) (zu_of y23 (zu_ne (by decide) (zu_of y21 zu_eq))))))))))))))))))))) kV_RX1_91 hd_X1_step rfl rfl ⟨(Nat.le_of_ble_eq_true rfl), (Nat.le_of_ble_eq_true rfl)⟩ hK hS hZ hPc hDc hF 0 rfl rfl rfl hl.1 rfl (Nat.le_of_ble_eq_true rfl) dX1_find_141 ⟨(Nat.le_of_ble_eq_true rfl), (Nat.le_of_ble_eq_true rfl)⟩) (fun u43 H locs w44 hP hD hS => ?_)
  have hP : va_P K.1 classes [(a2, zO 3 7 gg4), (a1, zO 4 6 g1), (a3, zI K 8 f3), (a4, zO 4 6 g4), (a5, zI K 8 f5), (a6, zR K 512 (va_up f6 0 (some (u1 0)))), ((u1 0), zO 6 3 gg6), ((u1 1), zJ K 1400 (fun _ => 0)), ((u1 2), zJ K 1400 (fun _ => 0)), ((u1 3), zJ K 1400 (fun _ => 0)), (a7, zO 2 6 (va_up g7 5 (.int 0))), (a8, zI K 10 ff14), (a0, zO 1 18 (va_up (va_up gg41 16 (.int 7)) 11 (.int 4)))] H := hP
  have hD : va_D A [(a2, zO 3 7 gg4), (a1, zO 4 6 g1), (a3, zI K 8 f3), (a4, zO 4 6 g4), (a5, zI K 8 f5), (a6, zR K 512 (va_up f6 0 (some (u1 0)))), ((u1 0), zO 6 3 gg6), ((u1 1), zJ K 1400 (fun _ => 0)), ((u1 2), zJ K 1400 (fun _ => 0)), ((u1 3), zJ K 1400 (fun _ => 0)), (a7, zO 2 6 (va_up g7 5 (.int 0))), (a8, zI K 10 ff14), (a0, zO 1 18 (va_up (va_up gg41 16 (.int 7)) 11 (.int 4)))] := hD
  obtain ⟨gg46, y47⟩ : ∃ z, z = ((va_up (va_up gg41 16 (.int 7)) 11 (.int 4)) : Nat → Value) := ⟨_, rfl⟩
  rw [← y47] at hP hD
  refine lv_goto (tgt := 183) hx hb dX1_find_144 (by decide) ?_
  refine lv_iinc (v := 1) (lv' := [(5, .int 1), (0, .ref a0), (1, .ref a1), (2, .int 640), (3, .int 1), (4, .int 1)]) hx hb dX1_find_183 hl (k := 0) rfl (by decide +kernel) (by decide) rfl (fun ls hl => ?_)
  refine lv_goto (tgt := 87) hx hb dX1_find_186 (by decide) ?_
  refine lv_iload hx hb dX1_find_87 (lv_at hl 0 rfl) ?_
  refine lv_ldc (v := 1000000) hx hb hown (hg _ mt961) dX1_find_89 ?_
  refine lv_icmp_ge (tgt := 189) hx hb dX1_find_91 (by decide) (fun c => absurd c (by decide)) (fun _ => ?_)
  refine lv_aload_n hx hb dX1_find_94 rfl (lv_at hl 1 rfl) ?_
  refine z_get (v := .int 4) hx hb hg hown hK hP i_X1 rfl 12 rfl 11 (by decide) mt260 (zu_of y47 zu_eq) dX1_find_95 ?_
  refine lv_bipush (v := 6) hx hb dX1_find_98 (by decide) ?_
  refine lv_icmp_eq (tgt := 189) hx hb dX1_find_100 (by decide) (fun c => absurd c (by decide)) (fun _ => ?_)
  refine lv_aload_n hx hb dX1_find_103 rfl (lv_at hl 1 rfl) ?_
  refine z_get (v := .int 4) hx hb hg hown hK hP i_X1 rfl 12 rfl 11 (by decide) mt260 (zu_of y47 zu_eq) dX1_find_104 ?_
  refine lv_tableIn (off := 65) (tgt := 172) hx hb dX1_find_107 (by decide) (by decide) (by decide) (by decide) ?_
  refine lv_aload_n hx hb dX1_find_172 rfl (lv_at hl 1 rfl) ?_
  refine z_callv [(a0, zO 1 18 gg46), (a7, zO 2 6 (va_up g7 5 (.int 0)))] [(a2, zO 3 7 gg4), (a1, zO 4 6 g1), (a3, zI K 8 f3), (a4, zO 4 6 g4), (a5, zI K 8 f5), (a6, zR K 512 (va_up f6 0 (some (u1 0)))), ((u1 0), zO 6 3 gg6), ((u1 1), zJ K 1400 (fun _ => 0)), ((u1 2), zJ K 1400 (fun _ => 0)), ((u1 3), zJ K 1400 (fun _ => 0)), (a8, zI K 10 ff14)] [12, 10] [0, 1, 2, 3, 4, 5, 6, 7, 8, 9, 11] hP hD hS hA rfl rfl (by decide) (by decide) (by decide +kernel) 4 4203 rfl rfl (fun hPc hDc hF => z_runV (As := []) (rest := []) ⟨hx, hb, hml, hown, hg⟩ (cX1_leave_1 l K H.size a0 a7 gg46 (va_up g7 5 (.int 0)) (zu_of y47 (zu_ne (by decide) (zu_ne (by decide) (zu_of y42 (zu_ne (by decide) (zu_ne (by decide) (zu_of y37 (zu_ne (by decide) (zu_of y35 (zu_ne (by decide) (zu_of y33 (zu_ne (by decide) (zu_of y31 (zu_ne (by decide) (zu_of y29 (zu_ne (by decide) (zu_of y27 (zu_ne (by decide) (zu_of y25 (zu_ne (by decide) (zu_of y23 (zu_ne (by decide) (zu_of y21 (zu_ne (by decide) (zu_of y19 (zu_ne (by decide) (zu_of y17 (zu_ne (by decide) e25)))))))))))))))))))))))))))) zu_eq) kV_RX1_108 hd_X1_leave rfl rfl ⟨(Nat.le_of_ble_eq_true rfl), (Nat.le_of_ble_eq_true rfl)⟩ hK hS hZ hPc hDc hF 0 rfl rfl rfl hl.1 rfl (Nat.le_of_ble_eq_true rfl) dX1_find_173 ⟨(Nat.le_of_ble_eq_true rfl), (Nat.le_of_ble_eq_true rfl)⟩) (fun u48 H locs w49 hP hD hS => ?_)
  have hP : va_P K.1 classes [(a2, zO 3 7 gg4), (a1, zO 4 6 g1), (a3, zI K 8 f3), (a4, zO 4 6 g4), (a5, zI K 8 f5), (a6, zR K 512 (va_up f6 0 (some (u1 0)))), ((u1 0), zO 6 3 gg6), ((u1 1), zJ K 1400 (fun _ => 0)), ((u1 2), zJ K 1400 (fun _ => 0)), ((u1 3), zJ K 1400 (fun _ => 0)), (a8, zI K 10 ff14), (a0, zO 1 18 (va_up gg46 11 (.int 5))), (a7, zO 2 6 (va_up g7 5 (.int 0)))] H := hP
  have hD : va_D A [(a2, zO 3 7 gg4), (a1, zO 4 6 g1), (a3, zI K 8 f3), (a4, zO 4 6 g4), (a5, zI K 8 f5), (a6, zR K 512 (va_up f6 0 (some (u1 0)))), ((u1 0), zO 6 3 gg6), ((u1 1), zJ K 1400 (fun _ => 0)), ((u1 2), zJ K 1400 (fun _ => 0)), ((u1 3), zJ K 1400 (fun _ => 0)), (a8, zI K 10 ff14), (a0, zO 1 18 (va_up gg46 11 (.int 5))), (a7, zO 2 6 (va_up g7 5 (.int 0)))] := hD
  refine lv_goto (tgt := 183) hx hb dX1_find_176 (by decide) ?_
  refine lv_iinc (v := 2) (lv' := [(5, .int 2), (0, .ref a0), (1, .ref a1), (2, .int 640), (3, .int 1), (4, .int 1)]) hx hb dX1_find_183 hl (k := 0) rfl (by decide +kernel) (by decide) rfl (fun ls hl => ?_)
  refine lv_goto (tgt := 87) hx hb dX1_find_186 (by decide) ?_
  refine lv_iload hx hb dX1_find_87 (lv_at hl 0 rfl) ?_
  refine lv_ldc (v := 1000000) hx hb hown (hg _ mt961) dX1_find_89 ?_
  refine lv_icmp_ge (tgt := 189) hx hb dX1_find_91 (by decide) (fun c => absurd c (by decide)) (fun _ => ?_)
  refine lv_aload_n hx hb dX1_find_94 rfl (lv_at hl 1 rfl) ?_
  refine z_get (v := .int 5) hx hb hg hown hK hP i_X1 rfl 11 rfl 11 (by decide) mt260 zu_eq dX1_find_95 ?_
  refine lv_bipush (v := 6) hx hb dX1_find_98 (by decide) ?_
  refine lv_icmp_eq (tgt := 189) hx hb dX1_find_100 (by decide) (fun c => absurd c (by decide)) (fun _ => ?_)
  refine lv_aload_n hx hb dX1_find_103 rfl (lv_at hl 1 rfl) ?_
  refine z_get (v := .int 5) hx hb hg hown hK hP i_X1 rfl 11 rfl 11 (by decide) mt260 zu_eq dX1_find_104 ?_
  refine lv_tableOut (tgt := 179) hx hb dX1_find_107 (by decide) (by decide) ?_
  refine lv_aload_n hx hb dX1_find_179 rfl (lv_at hl 1 rfl) ?_
  refine z_callv [(a0, zO 1 18 (va_up gg46 11 (.int 5)))] [(a2, zO 3 7 gg4), (a1, zO 4 6 g1), (a3, zI K 8 f3), (a4, zO 4 6 g4), (a5, zI K 8 f5), (a6, zR K 512 (va_up f6 0 (some (u1 0)))), ((u1 0), zO 6 3 gg6), ((u1 1), zJ K 1400 (fun _ => 0)), ((u1 2), zJ K 1400 (fun _ => 0)), ((u1 3), zJ K 1400 (fun _ => 0)), (a8, zI K 10 ff14), (a7, zO 2 6 (va_up g7 5 (.int 0)))] [11] [0, 1, 2, 3, 4, 5, 6, 7, 8, 9, 10, 12] hP hD hS hA rfl rfl (by decide) (by decide) (by decide +kernel) 4 4203 rfl rfl (fun hPc hDc hF => z_runV (As := []) (rest := []) ⟨hx, hb, hml, hown, hg⟩ (cX1_rest_1 l K H.size a0 (va_up gg46 11 (.int 5)) (zu_ne (by decide) (zu_of y47 (zu_ne (by decide) zu_eq)))) kV_RX1_111 hd_X1_rest rfl rfl ⟨(Nat.le_of_ble_eq_true rfl), (Nat.le_of_ble_eq_true rfl)⟩ hK hS hZ hPc hDc hF 0 rfl rfl rfl hl.1 rfl (Nat.le_of_ble_eq_true rfl) dX1_find_180 ⟨(Nat.le_of_ble_eq_true rfl), (Nat.le_of_ble_eq_true rfl)⟩) (fun u51 H locs w52 hP hD hS => ?_)
  have hP : va_P K.1 classes [(a2, zO 3 7 gg4), (a1, zO 4 6 g1), (a3, zI K 8 f3), (a4, zO 4 6 g4), (a5, zI K 8 f5), (a6, zR K 512 (va_up f6 0 (some (u1 0)))), ((u1 0), zO 6 3 gg6), ((u1 1), zJ K 1400 (fun _ => 0)), ((u1 2), zJ K 1400 (fun _ => 0)), ((u1 3), zJ K 1400 (fun _ => 0)), (a8, zI K 10 ff14), (a7, zO 2 6 (va_up g7 5 (.int 0))), (a0, zO 1 18 (va_up (va_up gg46 11 (.int 5)) 11 (.int 6)))] H := hP
  have hD : va_D A [(a2, zO 3 7 gg4), (a1, zO 4 6 g1), (a3, zI K 8 f3), (a4, zO 4 6 g4), (a5, zI K 8 f5), (a6, zR K 512 (va_up f6 0 (some (u1 0)))), ((u1 0), zO 6 3 gg6), ((u1 1), zJ K 1400 (fun _ => 0)), ((u1 2), zJ K 1400 (fun _ => 0)), ((u1 3), zJ K 1400 (fun _ => 0)), (a8, zI K 10 ff14), (a7, zO 2 6 (va_up g7 5 (.int 0))), (a0, zO 1 18 (va_up (va_up gg46 11 (.int 5)) 11 (.int 6)))] := hD
  obtain ⟨gg54, y55⟩ : ∃ z, z = ((va_up (va_up gg46 11 (.int 5)) 11 (.int 6)) : Nat → Value) := ⟨_, rfl⟩
  rw [← y55] at hP hD
  refine lv_iinc (v := 3) (lv' := [(5, .int 3), (0, .ref a0), (1, .ref a1), (2, .int 640), (3, .int 1), (4, .int 1)]) hx hb dX1_find_183 hl (k := 0) rfl (by decide +kernel) (by decide) rfl (fun ls hl => ?_)
  refine lv_goto (tgt := 87) hx hb dX1_find_186 (by decide) ?_
  refine lv_iload hx hb dX1_find_87 (lv_at hl 0 rfl) ?_
  refine lv_ldc (v := 1000000) hx hb hown (hg _ mt961) dX1_find_89 ?_
  refine lv_icmp_ge (tgt := 189) hx hb dX1_find_91 (by decide) (fun c => absurd c (by decide)) (fun _ => ?_)
  refine lv_aload_n hx hb dX1_find_94 rfl (lv_at hl 1 rfl) ?_
  refine z_get (v := .int 6) hx hb hg hown hK hP i_X1 rfl 12 rfl 11 (by decide) mt260 (zu_of y55 zu_eq) dX1_find_95 ?_
  refine lv_bipush (v := 6) hx hb dX1_find_98 (by decide) ?_
  refine lv_icmp_eq (tgt := 189) hx hb dX1_find_100 (by decide) (fun _ => ?_) (fun c => absurd (by decide) c)
  refine lv_aload_n hx hb dX1_find_189 rfl (lv_at hl 1 rfl) ?_
  refine z_get (v := .int 7) hx hb hg hown hK hP i_X1 rfl 12 rfl 16 (by decide) mt265 (zu_of y55 (zu_ne (by decide) (zu_ne (by decide) (zu_of y47 (zu_ne (by decide) zu_eq))))) dX1_find_190 ?_
  subst y55
  subst y47
  subst y42
  subst y37
  subst y35
  subst y33
  subst y31
  subst y29
  subst y27
  subst y25
  subst y23
  subst y21
  subst y19
  subst y17
  subst y15
  subst y7
  subst y5
  have hP9 : va_P K.1 classes [(a0, zO 1 18 (va_up (va_up (va_up (va_up (va_up (va_up (va_up (va_up (va_up (va_up (va_up (va_up (va_up (va_up (va_up (va_up (va_up g0 6 (.ref a1)) 7 (.int 1)) 9 (.int 1)) 4 (.int 0)) 5 (.int 0)) 8 (.int 0)) 10 (.int 0)) 13 (.int (-1))) 14 (.int 0)) 16 (.int 6)) 17 (.int 0)) 12 (.int 640)) 11 (.int 0)) 16 (.int 7)) 11 (.int 4)) 11 (.int 5)) 11 (.int 6))), (a2, zO 3 7 (va_up (va_up (va_up (va_up (va_up g2 5 (.int 0)) 5 (.int 0)) 3 (.int 1)) 4 (.int 0)) 6 (.int 0))), (a1, zO 4 6 g1), (a3, zI K 8 f3), (a4, zO 4 6 g4), (a5, zI K 8 f5), (a6, zR K 512 (va_up f6 0 (some (u1 0)))), (a7, zO 2 6 (va_up g7 5 (.int 0))), (a8, zI K 10 (va_up (va_up (va_up (va_up (va_up (va_up (va_up (va_up (va_up (va_up f8 0 0) 1 0) 2 0) 3 0) 4 0) 5 0) 6 0) 7 0) 8 0) 9 0)), ((u1 0), zO 6 3 (va_up (va_up (va_up (fun k => defaultValue (tyX7 k)) 0 (.ref (u1 1))) 1 (.ref (u1 2))) 2 (.ref (u1 3)))), ((u1 1), zJ K 1400 (fun _ => 0)), ((u1 2), zJ K 1400 (fun _ => 0)), ((u1 3), zJ K 1400 (fun _ => 0))] H := hP.sub [12, 0, 1, 2, 3, 4, 5, 11, 10, 6, 7, 8, 9] rfl
  have hD9 : va_D A [(a0, zO 1 18 (va_up (va_up (va_up (va_up (va_up (va_up (va_up (va_up (va_up (va_up (va_up (va_up (va_up (va_up (va_up (va_up (va_up g0 6 (.ref a1)) 7 (.int 1)) 9 (.int 1)) 4 (.int 0)) 5 (.int 0)) 8 (.int 0)) 10 (.int 0)) 13 (.int (-1))) 14 (.int 0)) 16 (.int 6)) 17 (.int 0)) 12 (.int 640)) 11 (.int 0)) 16 (.int 7)) 11 (.int 4)) 11 (.int 5)) 11 (.int 6))), (a2, zO 3 7 (va_up (va_up (va_up (va_up (va_up g2 5 (.int 0)) 5 (.int 0)) 3 (.int 1)) 4 (.int 0)) 6 (.int 0))), (a1, zO 4 6 g1), (a3, zI K 8 f3), (a4, zO 4 6 g4), (a5, zI K 8 f5), (a6, zR K 512 (va_up f6 0 (some (u1 0)))), (a7, zO 2 6 (va_up g7 5 (.int 0))), (a8, zI K 10 (va_up (va_up (va_up (va_up (va_up (va_up (va_up (va_up (va_up (va_up f8 0 0) 1 0) 2 0) 3 0) 4 0) 5 0) 6 0) 7 0) 8 0) 9 0)), ((u1 0), zO 6 3 (va_up (va_up (va_up (fun k => defaultValue (tyX7 k)) 0 (.ref (u1 1))) 1 (.ref (u1 2))) 2 (.ref (u1 3)))), ((u1 1), zJ K 1400 (fun _ => 0)), ((u1 2), zJ K 1400 (fun _ => 0)), ((u1 3), zJ K 1400 (fun _ => 0))] := hD.sub [12, 0, 1, 2, 3, 4, 5, 11, 10, 6, 7, 8, 9] (by decide) rfl
  exact z_iret hx hb hr (fun k => ([(u1 0), (u1 1), (u1 2), (u1 3)] : List Nat).getD k 0) rfl hP9 hD9 hS (Nat.le_of_ble_eq_true rfl) (Nat.le_of_ble_eq_true rfl) hlocks dX1_find_193
set_option maxHeartbeats 4000000 in
set_option maxRecDepth 100000 in
theorem cX11_run_7 (l : Launch) (K : zK) (sz : Nat) (a0 : Nat) (a1 : Nat) (a2 : Nat) (a3 : Nat) (a4 : Nat) (a5 : Nat) (a6 : Nat) (a7 : Nat) (a8 : Nat) (a9 : Nat) (a10 : Nat) (a11 : Nat) (a12 : Nat) (a13 : Nat) (a14 : Nat) (a15 : Nat) (g0 : Nat → Value) (g1 : Nat → Value) (g2 : Nat → Value) (f3 : Nat → Int32) (f4 : Nat → Int32) (f5 : Nat → Int32) (f6 : Nat → Int32) (f7 : Nat → Int32) (g8 : Nat → Value) (g9 : Nat → Value) (f10 : Nat → Int32) (g11 : Nat → Value) (f12 : Nat → Int32) (f13 : Nat → Option Nat) (g14 : Nat → Value) (f15 : Nat → Int32) (j0 : Nat) (hj0 : j0 < 8) (x1 : Int32) (x2 : Int32) (e0 : g0 3 = (.ref a1)) (e1 : g1 0 = (.ref a2)) (e2 : g2 5 = (.int 645)) (e3 : g2 0 = (.ref a3)) (e4 : g2 1 = (.ref a4)) (e5 : g2 2 = (.ref a5)) (e6 : g2 3 = (.ref a6)) (e7 : g2 4 = (.ref a7)) (e8 : g0 7 = (.ref a8)) (e9 : g8 0 = (.ref a9)) (e10 : g9 6 = (.int 0)) (e11 : g9 4 = (.int 0)) (e12 : g9 0 = (.ref a1)) (e13 : g1 2 = (.ref a10)) (e14 : f10 0 = 0) (e15 : f10 1 = 0) (e16 : f10 2 = 0) (e17 : f10 3 = 0) (e18 : f10 4 = 0) (e19 : f10 5 = 0) (e20 : f10 6 = 0) (e21 : f10 7 = 0) (e22 : g9 1 = (.ref a11)) (e23 : g11 2 = (.ref a12)) (e24 : f12 0 = 0) (e25 : f12 1 = 0) (e26 : f12 2 = 0) (e27 : f12 3 = 0) (e28 : f12 4 = 0) (e29 : f12 5 = 0) (e30 : f12 6 = 0) (e31 : f12 7 = 0) (e32 : g9 3 = (.int 0)) (e33 : g9 2 = (.ref a13)) (e34 : g8 1 = (.ref a14)) (e35 : g8 2 = (.ref a15)) : Met l yX11_run (Cond.code yX11_run cX11_run 9 (some .int) :: WG) { frames := 5, cells := 4, slots := 4203, locals := 97 } (zPre K [(a0, zO 9 9 g0), (a1, zO 4 6 g1), (a2, zO 7 6 g2), (a3, zI K 645 f3), (a4, zI K 645 f4), (a5, zI K 645 f5), (a6, zI K 645 f6), (a7, zI K 1935 f7), (a8, zO 1 18 g8), (a9, zO 3 7 g9), (a10, zI K 8 f10), (a11, zO 4 6 g11), (a12, zI K 8 f12), (a13, zR K 512 f13), (a14, zO 2 6 g14), (a15, zI K 10 f15)] sz [.ref a0, .int (nI j0), .int 0, .int x1, .int x2, .int 1, .int 0]) (va_Qi (fun (r : Int32) (_ : Nat → Nat) => r = 7) (zB K (va_A [(a0, zO 9 9 g0), (a1, zO 4 6 g1), (a2, zO 7 6 g2), (a3, zI K 645 f3), (a4, zI K 645 f4), (a5, zI K 645 f5), (a6, zI K 645 f6), (a7, zI K 1935 f7), (a8, zO 1 18 g8), (a9, zO 3 7 g9), (a10, zI K 8 f10), (a11, zO 4 6 g11), (a12, zI K 8 f12), (a13, zR K 512 f13), (a14, zO 2 6 g14), (a15, zI K 10 f15)] sz) (fun u : Nat → Nat => [])) (va_A [(a0, zO 9 9 g0), (a1, zO 4 6 g1), (a2, zO 7 6 g2), (a3, zI K 645 f3), (a4, zI K 645 f4), (a5, zI K 645 f5), (a6, zI K 645 f6), (a7, zI K 1935 f7), (a8, zO 1 18 g8), (a9, zO 3 7 g9), (a10, zI K 8 f10), (a11, zO 4 6 g11), (a12, zI K 8 f12), (a13, zR K 512 f13), (a14, zO 2 6 g14), (a15, zI K 10 f15)] sz)) 4 4203 (va_A [(a0, zO 9 9 g0), (a1, zO 4 6 g1), (a2, zO 7 6 g2), (a3, zI K 645 f3), (a4, zI K 645 f4), (a5, zI K 645 f5), (a6, zI K 645 f6), (a7, zI K 1935 f7), (a8, zO 1 18 g8), (a9, zO 3 7 g9), (a10, zI K 8 f10), (a11, zO 4 6 g11), (a12, zI K 8 f12), (a13, zR K 512 f13), (a14, zO 2 6 g14), (a15, zI K 10 f15)] sz) := by
  refine z_met (Qc := fun A => (va_Qi (fun (r : Int32) (_ : Nat → Nat) => r = 7) (zB K A (fun u : Nat → Nat => [])) A)) (by decide +kernel) (Nat.le_of_ble_eq_true rfl) ?_
  intro p e s m args below meth c A ls H hx hb hr hg hown hlocks hml hin hK hP hD hA hS hZ hl
  have hown : s.vm.findClass RX11 = some m.cls := hown
  have hl : lv_has ls 9 [(0, .ref a0), (1, .int (nI j0)), (2, .int 0), (3, .int x1), (4, .int x2), (5, .int 1), (6, .int 0)] := hl
  refine lv_aload_n hx hb dX11_run_0 rfl (lv_at hl 0 rfl) ?_
  refine lv_iload hx hb dX11_run_1 (lv_at hl 5 rfl) ?_
  refine lv_sipush (v := 601) hx hb dX11_run_3 (by decide) ?_
  refine z_callv [(a0, zO 9 9 g0)] [(a1, zO 4 6 g1), (a2, zO 7 6 g2), (a3, zI K 645 f3), (a4, zI K 645 f4), (a5, zI K 645 f5), (a6, zI K 645 f6), (a7, zI K 1935 f7), (a8, zO 1 18 g8), (a9, zO 3 7 g9), (a10, zI K 8 f10), (a11, zO 4 6 g11), (a12, zI K 8 f12), (a13, zR K 512 f13), (a14, zO 2 6 g14), (a15, zI K 10 f15)] [0] [1, 2, 3, 4, 5, 6, 7, 8, 9, 10, 11, 12, 13, 14, 15] hP hD hS hA rfl rfl (by decide) (by decide) (by decide +kernel) 0 0 rfl rfl (fun hPc hDc hF => z_runV (As := [.int 1, .int 601]) (rest := []) ⟨hx, hb, hml, hown, hg⟩ (cX11_checkRange_17 l K H.size a0 g0) kV_RX11_72 hd_X11_checkRange rfl rfl ⟨(Nat.le_of_ble_eq_true rfl), (Nat.le_of_ble_eq_true rfl)⟩ hK hS hZ hPc hDc hF 0 rfl rfl rfl hl.1 rfl (Nat.le_of_ble_eq_true rfl) dX11_run_6 ⟨(Nat.le_of_ble_eq_true rfl), (Nat.le_of_ble_eq_true rfl)⟩) (fun u1 H locs w2 hP hD hS => ?_)
  have hP : va_P K.1 classes [(a1, zO 4 6 g1), (a2, zO 7 6 g2), (a3, zI K 645 f3), (a4, zI K 645 f4), (a5, zI K 645 f5), (a6, zI K 645 f6), (a7, zI K 1935 f7), (a8, zO 1 18 g8), (a9, zO 3 7 g9), (a10, zI K 8 f10), (a11, zO 4 6 g11), (a12, zI K 8 f12), (a13, zR K 512 f13), (a14, zO 2 6 g14), (a15, zI K 10 f15), (a0, zO 9 9 g0)] H := hP
  have hD : va_D A [(a1, zO 4 6 g1), (a2, zO 7 6 g2), (a3, zI K 645 f3), (a4, zI K 645 f4), (a5, zI K 645 f5), (a6, zI K 645 f6), (a7, zI K 1935 f7), (a8, zO 1 18 g8), (a9, zO 3 7 g9), (a10, zI K 8 f10), (a11, zO 4 6 g11), (a12, zI K 8 f12), (a13, zR K 512 f13), (a14, zO 2 6 g14), (a15, zI K 10 f15), (a0, zO 9 9 g0)] := hD
  refine lv_aload_n hx hb dX11_run_9 rfl (lv_at hl 0 rfl) ?_
  refine lv_iload_n hx hb dX11_run_10 rfl (lv_at hl 1 rfl) ?_
  refine lv_iload_n hx hb dX11_run_11 rfl (lv_at hl 2 rfl) ?_
  refine lv_iload hx hb dX11_run_12 (lv_at hl 6 rfl) ?_
  refine z_callr [(a0, zO 9 9 g0)] [(a1, zO 4 6 g1), (a2, zO 7 6 g2), (a3, zI K 645 f3), (a4, zI K 645 f4), (a5, zI K 645 f5), (a6, zI K 645 f6), (a7, zI K 1935 f7), (a8, zO 1 18 g8), (a9, zO 3 7 g9), (a10, zI K 8 f10), (a11, zO 4 6 g11), (a12, zI K 8 f12), (a13, zR K 512 f13), (a14, zO 2 6 g14), (a15, zI K 10 f15)] [15] [0, 1, 2, 3, 4, 5, 6, 7, 8, 9, 10, 11, 12, 13, 14] hP hD hS hA rfl rfl (by decide) (by decide) (by decide +kernel) 0 0 rfl rfl (fun hPc hDc hF => z_runV (As := [.int (nI j0), .int 0, .int 0]) (rest := []) ⟨hx, hb, hml, hown, hg⟩ (cX11_programToRun_4 l K H.size a0 a1 g0 j0 hj0 e0) kV_RX11_130 hd_X11_programToRun rfl rfl ⟨(Nat.le_of_ble_eq_true rfl), (Nat.le_of_ble_eq_true rfl)⟩ hK hS hZ hPc hDc hF 0 rfl rfl rfl hl.1 rfl (Nat.le_of_ble_eq_true rfl) dX11_run_14 ⟨(Nat.le_of_ble_eq_true rfl), (Nat.le_of_ble_eq_true rfl)⟩) (fun u4 H locs w5 hP hD hS => ?_)
  have hP : va_P K.1 classes [(a1, zO 4 6 g1), (a2, zO 7 6 g2), (a3, zI K 645 f3), (a4, zI K 645 f4), (a5, zI K 645 f5), (a6, zI K 645 f6), (a7, zI K 1935 f7), (a8, zO 1 18 g8), (a9, zO 3 7 g9), (a10, zI K 8 f10), (a11, zO 4 6 g11), (a12, zI K 8 f12), (a13, zR K 512 f13), (a14, zO 2 6 g14), (a15, zI K 10 f15), (a0, zO 9 9 g0)] H := hP
  have hD : va_D A [(a1, zO 4 6 g1), (a2, zO 7 6 g2), (a3, zI K 645 f3), (a4, zI K 645 f4), (a5, zI K 645 f5), (a6, zI K 645 f6), (a7, zI K 1935 f7), (a8, zO 1 18 g8), (a9, zO 3 7 g9), (a10, zI K 8 f10), (a11, zO 4 6 g11), (a12, zI K 8 f12), (a13, zR K 512 f13), (a14, zO 2 6 g14), (a15, zI K 10 f15), (a0, zO 9 9 g0)] := hD
  refine W.eq (g2 := F0 m 17 ls [.ref a1]) rfl ?_
  refine lv_astore (lv' := [(7, .ref a1), (0, .ref a0), (1, .int (nI j0)), (2, .int 0), (3, .int x1), (4, .int x2), (5, .int 1), (6, .int 0)]) hx hb dX11_run_17 hl (by decide) rfl (fun ls hl => ?_)
  refine lv_aload hx hb dX11_run_19 (lv_at hl 0 rfl) ?_
  refine lv_iload_n hx hb dX11_run_21 rfl (lv_at hl 2 rfl) ?_
  refine lv_iload_n hx hb dX11_run_22 rfl (lv_at hl 3 rfl) ?_
  refine lv_iload_n hx hb dX11_run_23 rfl (lv_at hl 4 rfl) ?_
  refine lv_iload hx hb dX11_run_24 (lv_at hl 5 rfl) ?_
  refine z_calli [(a1, zO 4 6 g1), (a2, zO 7 6 g2), (a3, zI K 645 f3), (a4, zI K 645 f4), (a5, zI K 645 f5), (a6, zI K 645 f6), (a7, zI K 1935 f7)] [(a8, zO 1 18 g8), (a9, zO 3 7 g9), (a10, zI K 8 f10), (a11, zO 4 6 g11), (a12, zI K 8 f12), (a13, zR K 512 f13), (a14, zO 2 6 g14), (a15, zI K 10 f15), (a0, zO 9 9 g0)] [0, 1, 2, 3, 4, 5, 6] [7, 8, 9, 10, 11, 12, 13, 14, 15] hP hD hS hA rfl rfl (by decide) (by decide) (by decide +kernel) 0 0 rfl rfl (fun hPc hDc hF => z_runV (As := [.int (nI j0), .int 0, .int x1, .int x2]) (rest := []) ⟨hx, hb, hml, hown, hg⟩ (cX5_call_2 l K H.size a1 a2 a3 a4 a5 a6 a7 g1 g2 f3 f4 f5 f6 f7 j0 hj0 x1 x2 e1 e2 e3 e4 e5 e6 e7) kV_RX11_134 hd_X5_call rfl rfl ⟨(Nat.le_of_ble_eq_true rfl), (Nat.le_of_ble_eq_true rfl)⟩ hK hS hZ hPc hDc hF 0 rfl rfl rfl hl.1 rfl (Nat.le_of_ble_eq_true rfl) dX11_run_26 ⟨(Nat.le_of_ble_eq_true rfl), (Nat.le_of_ble_eq_true rfl)⟩) (fun r9 u7 H locs w8 hP hD hS => ?_)
  subst w8
  have hP : va_P K.1 classes [(a8, zO 1 18 g8), (a9, zO 3 7 g9), (a10, zI K 8 f10), (a11, zO 4 6 g11), (a12, zI K 8 f12), (a13, zR K 512 f13), (a14, zO 2 6 g14), (a15, zI K 10 f15), (a0, zO 9 9 g0), (a1, zO 4 6 g1), (a2, zO 7 6 g2), (a3, zI K 645 (va_up (va_up (va_up (va_up (va_up f3 640 2) 641 0) 642 4) 643 0) 644 4)), (a4, zI K 645 (va_up (va_up (va_up (va_up (va_up f4 640 (nI j0)) 641 x1) 642 0) 643 x2) 644 0)), (a5, zI K 645 (va_up (va_up (va_up (va_up (va_up f5 640 0) 641 0) 642 0) 643 0) 644 0)), (a6, zI K 645 (va_up (va_up (va_up (va_up (va_up f6 640 0) 641 0) 642 0) 643 0) 644 0)), (a7, zI K 1935 (va_up (va_up (va_up (va_up (va_up (va_up (va_up (va_up (va_up (va_up (va_up (va_up (va_up (va_up (va_up (va_up (va_up (va_up (va_up (va_up (va_up f7 1920 (-1)) 1921 (-1)) 1922 (-1)) 1923 (-1)) 1924 (-1)) 1925 (-1)) 1926 (-1)) 1927 (-1)) 1928 (-1)) 1926 640) 1927 641) 1928 (-1)) 1929 (-1)) 1930 (-1)) 1931 (-1)) 1932 (-1)) 1933 (-1)) 1934 (-1)) 1932 642) 1933 643) 1934 (-1)))] H := hP
  have hD : va_D A [(a8, zO 1 18 g8), (a9, zO 3 7 g9), (a10, zI K 8 f10), (a11, zO 4 6 g11), (a12, zI K 8 f12), (a13, zR K 512 f13), (a14, zO 2 6 g14), (a15, zI K 10 f15), (a0, zO 9 9 g0), (a1, zO 4 6 g1), (a2, zO 7 6 g2), (a3, zI K 645 (va_up (va_up (va_up (va_up (va_up f3 640 2) 641 0) 642 4) 643 0) 644 4)), (a4, zI K 645 (va_up (va_up (va_up (va_up (va_up f4 640 (nI j0)) 641 x1) 642 0) 643 x2) 644 0)), (a5, zI K 645 (va_up (va_up (va_up (va_up (va_up f5 640 0) 641 0) 642 0) 643 0) 644 0)), (a6, zI K 645 (va_up (va_up (va_up (va_up (va_up f6 640 0) 641 0) 642 0) 643 0) 644 0)), (a7, zI K 1935 (va_up (va_up (va_up (va_up (va_up (va_up (va_up (va_up (va_up (va_up (va_up (va_up (va_up (va_up (va_up (va_up (va_up (va_up (va_up (va_up (va_up f7 1920 (-1)) 1921 (-1)) 1922 (-1)) 1923 (-1)) 1924 (-1)) 1925 (-1)) 1926 (-1)) 1927 (-1)) 1928 (-1)) 1926 640) 1927 641) 1928 (-1)) 1929 (-1)) 1930 (-1)) 1931 (-1)) 1932 (-1)) 1933 (-1)) 1934 (-1)) 1932 642) 1933 643) 1934 (-1)))] := hD
  obtain ⟨ff10, y11⟩ : ∃ z, z = ((va_up (va_up (va_up (va_up (va_up f3 640 2) 641 0) 642 4) 643 0) 644 4) : Nat → Int32) := ⟨_, rfl⟩
  rw [← y11] at hP hD
  obtain ⟨ff12, y13⟩ : ∃ z, z = ((va_up (va_up (va_up (va_up (va_up f4 640 (nI j0)) 641 x1) 642 0) 643 x2) 644 0) : Nat → Int32) := ⟨_, rfl⟩
  rw [← y13] at hP hD
  obtain ⟨ff14, y15⟩ : ∃ z, z = ((va_up (va_up (va_up (va_up (va_up f5 640 0) 641 0) 642 0) 643 0) 644 0) : Nat → Int32) := ⟨_, rfl⟩
  rw [← y15] at hP hD
  obtain ⟨ff16, y17⟩ : ∃ z, z = ((va_up (va_up (va_up (va_up (va_up f6 640 0) 641 0) 642 0) 643 0) 644 0) : Nat → Int32) := ⟨_, rfl⟩
  rw [← y17] at hP hD
  obtain ⟨ff18, y19⟩ : ∃ z, z = ((va_up (va_up (va_up (va_up (va_up (va_up (va_up (va_up (va_up (va_up (va_up (va_up (va_up (va_up (va_up (va_up (va_up (va_up (va_up (va_up (va_up f7 1920 (-1)) 1921 (-1)) 1922 (-1)) 1923 (-1)) 1924 (-1)) 1925 (-1)) 1926 (-1)) 1927 (-1)) 1928 (-1)) 1926 640) 1927 641) 1928 (-1)) 1929 (-1)) 1930 (-1)) 1931 (-1)) 1932 (-1)) 1933 (-1)) 1934 (-1)) 1932 642) 1933 643) 1934 (-1)) : Nat → Int32) := ⟨_, rfl⟩
  rw [← y19] at hP hD
  refine lv_istore (lv' := [(8, .int 640), (7, .ref a1), (0, .ref a0), (1, .int (nI j0)), (2, .int 0), (3, .int x1), (4, .int x2), (5, .int 1), (6, .int 0)]) hx hb dX11_run_29 hl (by decide) rfl (fun ls hl => ?_)
  refine lv_aload_n hx hb dX11_run_31 rfl (lv_at hl 2 rfl) ?_
  refine z_get (v := .ref a8) hx hb hg hown hK hP i_X11 rfl 8 rfl 7 (by decide) mt311 e8 dX11_run_32 ?_
  refine lv_aload hx hb dX11_run_35 (lv_at hl 1 rfl) ?_
  refine lv_iload hx hb dX11_run_37 (lv_at hl 0 rfl) ?_
  refine lv_iconst (v := 1) hx hb dX11_run_39 (by decide) ?_
  refine lv_iload hx hb dX11_run_40 (lv_at hl 7 rfl) ?_
  refine z_calli [(a8, zO 1 18 g8), (a9, zO 3 7 g9), (a1, zO 4 6 g1), (a10, zI K 8 f10), (a11, zO 4 6 g11), (a12, zI K 8 f12), (a13, zR K 512 f13), (a14, zO 2 6 g14), (a15, zI K 10 f15)] [(a0, zO 9 9 g0), (a2, zO 7 6 g2), (a3, zI K 645 ff10), (a4, zI K 645 ff12), (a5, zI K 645 ff14), (a6, zI K 645 ff16), (a7, zI K 1935 ff18)] [0, 1, 9, 2, 3, 4, 5, 6, 7] [8, 10, 11, 12, 13, 14, 15] hP hD hS hA rfl rfl (by decide) (by decide) (by decide +kernel) 4 4203 rfl rfl (fun hPc hDc hF => z_runV (As := [.ref a1, .int 640, .int 1, .int 1]) (rest := []) ⟨hx, hb, hml, hown, hg⟩ (cX1_find_2 l K H.size a8 a1 a9 a10 a11 a12 a13 a14 a15 g8 g9 g1 f10 g11 f12 f13 g14 f15 e9 e10 e11 e12 e13 e14 e15 e16 e17 e18 e19 e20 e21 e22 e23 e24 e25 e26 e27 e28 e29 e30 e31 e32 e33 e34 e35) kV_RX11_138 hd_X1_find rfl rfl ⟨(Nat.le_of_ble_eq_true rfl), (Nat.le_of_ble_eq_true rfl)⟩ hK hS hZ hPc hDc hF 0 rfl rfl rfl hl.1 rfl (Nat.le_of_ble_eq_true rfl) dX11_run_42 ⟨(Nat.le_of_ble_eq_true rfl), (Nat.le_of_ble_eq_true rfl)⟩) (fun r22 u20 H locs w21 hP hD hS => ?_)
  subst w21
  have hP : va_P K.1 classes [(a0, zO 9 9 g0), (a2, zO 7 6 g2), (a3, zI K 645 ff10), (a4, zI K 645 ff12), (a5, zI K 645 ff14), (a6, zI K 645 ff16), (a7, zI K 1935 ff18), (a8, zO 1 18 (va_up (va_up (va_up (va_up (va_up (va_up (va_up (va_up (va_up (va_up (va_up (va_up (va_up (va_up (va_up (va_up (va_up g8 6 (.ref a1)) 7 (.int 1)) 9 (.int 1)) 4 (.int 0)) 5 (.int 0)) 8 (.int 0)) 10 (.int 0)) 13 (.int (-1))) 14 (.int 0)) 16 (.int 6)) 17 (.int 0)) 12 (.int 640)) 11 (.int 0)) 16 (.int 7)) 11 (.int 4)) 11 (.int 5)) 11 (.int 6))), (a9, zO 3 7 (va_up (va_up (va_up (va_up (va_up g9 5 (.int 0)) 5 (.int 0)) 3 (.int 1)) 4 (.int 0)) 6 (.int 0))), (a1, zO 4 6 g1), (a10, zI K 8 f10), (a11, zO 4 6 g11), (a12, zI K 8 f12), (a13, zR K 512 (va_up f13 0 (some (u20 0)))), (a14, zO 2 6 (va_up g14 5 (.int 0))), (a15, zI K 10 (va_up (va_up (va_up (va_up (va_up (va_up (va_up (va_up (va_up (va_up f15 0 0) 1 0) 2 0) 3 0) 4 0) 5 0) 6 0) 7 0) 8 0) 9 0)), ((u20 0), zO 6 3 (va_up (va_up (va_up (fun k => defaultValue (tyX7 k)) 0 (.ref (u20 1))) 1 (.ref (u20 2))) 2 (.ref (u20 3)))), ((u20 1), zJ K 1400 (fun _ => 0)), ((u20 2), zJ K 1400 (fun _ => 0)), ((u20 3), zJ K 1400 (fun _ => 0))] H := hP
  have hD : va_D A [(a0, zO 9 9 g0), (a2, zO 7 6 g2), (a3, zI K 645 ff10), (a4, zI K 645 ff12), (a5, zI K 645 ff14), (a6, zI K 645 ff16), (a7, zI K 1935 ff18), (a8, zO 1 18 (va_up (va_up (va_up (va_up (va_up (va_up (va_up (va_up (va_up (va_up (va_up (va_up (va_up (va_up (va_up (va_up (va_up g8 6 (.ref a1)) 7 (.int 1)) 9 (.int 1)) 4 (.int 0)) 5 (.int 0)) 8 (.int 0)) 10 (.int 0)) 13 (.int (-1))) 14 (.int 0)) 16 (.int 6)) 17 (.int 0)) 12 (.int 640)) 11 (.int 0)) 16 (.int 7)) 11 (.int 4)) 11 (.int 5)) 11 (.int 6))), (a9, zO 3 7 (va_up (va_up (va_up (va_up (va_up g9 5 (.int 0)) 5 (.int 0)) 3 (.int 1)) 4 (.int 0)) 6 (.int 0))), (a1, zO 4 6 g1), (a10, zI K 8 f10), (a11, zO 4 6 g11), (a12, zI K 8 f12), (a13, zR K 512 (va_up f13 0 (some (u20 0)))), (a14, zO 2 6 (va_up g14 5 (.int 0))), (a15, zI K 10 (va_up (va_up (va_up (va_up (va_up (va_up (va_up (va_up (va_up (va_up f15 0 0) 1 0) 2 0) 3 0) 4 0) 5 0) 6 0) 7 0) 8 0) 9 0)), ((u20 0), zO 6 3 (va_up (va_up (va_up (fun k => defaultValue (tyX7 k)) 0 (.ref (u20 1))) 1 (.ref (u20 2))) 2 (.ref (u20 3)))), ((u20 1), zJ K 1400 (fun _ => 0)), ((u20 2), zJ K 1400 (fun _ => 0)), ((u20 3), zJ K 1400 (fun _ => 0))] := hD
  obtain ⟨gg23, y24⟩ : ∃ z, z = ((va_up (va_up (va_up (va_up (va_up (va_up (va_up (va_up (va_up (va_up (va_up (va_up (va_up (va_up (va_up (va_up (va_up g8 6 (.ref a1)) 7 (.int 1)) 9 (.int 1)) 4 (.int 0)) 5 (.int 0)) 8 (.int 0)) 10 (.int 0)) 13 (.int (-1))) 14 (.int 0)) 16 (.int 6)) 17 (.int 0)) 12 (.int 640)) 11 (.int 0)) 16 (.int 7)) 11 (.int 4)) 11 (.int 5)) 11 (.int 6)) : Nat → Value) := ⟨_, rfl⟩
  rw [← y24] at hP hD
  obtain ⟨gg25, y26⟩ : ∃ z, z = ((va_up (va_up (va_up (va_up (va_up g9 5 (.int 0)) 5 (.int 0)) 3 (.int 1)) 4 (.int 0)) 6 (.int 0)) : Nat → Value) := ⟨_, rfl⟩
  rw [← y26] at hP hD
  obtain ⟨ff27, y28⟩ : ∃ z, z = ((va_up (va_up (va_up (va_up (va_up (va_up (va_up (va_up (va_up (va_up f15 0 0) 1 0) 2 0) 3 0) 4 0) 5 0) 6 0) 7 0) 8 0) 9 0) : Nat → Int32) := ⟨_, rfl⟩
  rw [← y28] at hP hD
  obtain ⟨gg29, y30⟩ : ∃ z, z = ((va_up (va_up (va_up (fun k => defaultValue (tyX7 k)) 0 (.ref (u20 1))) 1 (.ref (u20 2))) 2 (.ref (u20 3))) : Nat → Value) := ⟨_, rfl⟩
  rw [← y30] at hP hD
  subst y30
  subst y28
  subst y26
  subst y24
  subst y19
  subst y17
  subst y15
  subst y13
  subst y11
  have hP9 : va_P K.1 classes [] H := hP.sub [] rfl
  have hD9 : va_D A [] := hD.sub [] (by decide) rfl
  exact z_iret hx hb hr (fun _ => 0) rfl hP9 hD9 hS (Nat.le_of_ble_eq_true rfl) (Nat.le_of_ble_eq_true rfl) hlocks dX11_run_45
set_option maxHeartbeats 4000000 in
set_option maxRecDepth 100000 in
theorem cL_run_7 (l : Launch) (hl9 : l.stackTraces = false) (K : zK) (sz : Nat) (a0 : Nat) (a1 : Nat) (a2 : Nat) (a3 : Nat) (a4 : Nat) (a5 : Nat) (a6 : Nat) (a7 : Nat) (a8 : Nat) (a9 : Nat) (a10 : Nat) (a11 : Nat) (a12 : Nat) (a13 : Nat) (a14 : Nat) (a15 : Nat) (a16 : Nat) (g0 : Nat → Value) (g2 : Nat → Value) (g3 : Nat → Value) (f4 : Nat → Int32) (f5 : Nat → Int32) (f6 : Nat → Int32) (f7 : Nat → Int32) (f8 : Nat → Int32) (g9 : Nat → Value) (g10 : Nat → Value) (f11 : Nat → Int32) (g12 : Nat → Value) (f13 : Nat → Int32) (f14 : Nat → Option Nat) (g15 : Nat → Value) (f16 : Nat → Int32) (f1 : Nat → Int64) (j0 : Nat) (hj0 : j0 < 8) (x1 : Int32) (x2 : Int32) (e0 : g0 3 = (.ref a2)) (e1 : g2 0 = (.ref a3)) (e2 : g3 5 = (.int 645)) (e3 : g3 0 = (.ref a4)) (e4 : g3 1 = (.ref a5)) (e5 : g3 2 = (.ref a6)) (e6 : g3 3 = (.ref a7)) (e7 : g3 4 = (.ref a8)) (e8 : g0 7 = (.ref a9)) (e9 : g9 0 = (.ref a10)) (e10 : g10 6 = (.int 0)) (e11 : g10 4 = (.int 0)) (e12 : g10 0 = (.ref a2)) (e13 : g2 2 = (.ref a11)) (e14 : f11 0 = 0) (e15 : f11 1 = 0) (e16 : f11 2 = 0) (e17 : f11 3 = 0) (e18 : f11 4 = 0) (e19 : f11 5 = 0) (e20 : f11 6 = 0) (e21 : f11 7 = 0) (e22 : g10 1 = (.ref a12)) (e23 : g12 2 = (.ref a13)) (e24 : f13 0 = 0) (e25 : f13 1 = 0) (e26 : f13 2 = 0) (e27 : f13 3 = 0) (e28 : f13 4 = 0) (e29 : f13 5 = 0) (e30 : f13 6 = 0) (e31 : f13 7 = 0) (e32 : g10 3 = (.int 0)) (e33 : g10 2 = (.ref a14)) (e34 : g9 1 = (.ref a15)) (e35 : g9 2 = (.ref a16)) : vx_Met l yL_run (Cond.codeWith yL_run cL_run 9 (some .int) [(0, 18, 21, 18), (0, 18, 25, 13)] :: WG) { frames := 6, cells := 4, slots := 4203, locals := 125 } (zPre K [(a0, zO 9 9 g0), (a2, zO 4 6 g2), (a3, zO 7 6 g3), (a4, zI K 645 f4), (a5, zI K 645 f5), (a6, zI K 645 f6), (a7, zI K 645 f7), (a8, zI K 1935 f8), (a9, zO 1 18 g9), (a10, zO 3 7 g10), (a11, zI K 8 f11), (a12, zO 4 6 g12), (a13, zI K 8 f13), (a14, zR K 512 f14), (a15, zO 2 6 g15), (a16, zI K 10 f16), (a1, zJ K 1 f1)] sz [.ref a0, .int (nI j0), .int 0, .int x1, .int x2, .int 1, .int 0, .ref a1]) (va_Qi (fun (r : Int32) (_ : Nat → Nat) => r = 0) (zB K (va_A [(a0, zO 9 9 g0), (a2, zO 4 6 g2), (a3, zO 7 6 g3), (a4, zI K 645 f4), (a5, zI K 645 f5), (a6, zI K 645 f6), (a7, zI K 645 f7), (a8, zI K 1935 f8), (a9, zO 1 18 g9), (a10, zO 3 7 g10), (a11, zI K 8 f11), (a12, zO 4 6 g12), (a13, zI K 8 f13), (a14, zR K 512 f14), (a15, zO 2 6 g15), (a16, zI K 10 f16), (a1, zJ K 1 f1)] sz) (fun u : Nat → Nat => [(a1, zJ K 1 (va_up f1 0 7))])) (va_A [(a0, zO 9 9 g0), (a2, zO 4 6 g2), (a3, zO 7 6 g3), (a4, zI K 645 f4), (a5, zI K 645 f5), (a6, zI K 645 f6), (a7, zI K 645 f7), (a8, zI K 1935 f8), (a9, zO 1 18 g9), (a10, zO 3 7 g10), (a11, zI K 8 f11), (a12, zO 4 6 g12), (a13, zI K 8 f13), (a14, zR K 512 f14), (a15, zO 2 6 g15), (a16, zI K 10 f16), (a1, zJ K 1 f1)] sz)) (vx_X (fun _ : Unit => False) (fun _ _ _ => True) (va_A [(a0, zO 9 9 g0), (a2, zO 4 6 g2), (a3, zO 7 6 g3), (a4, zI K 645 f4), (a5, zI K 645 f5), (a6, zI K 645 f6), (a7, zI K 645 f7), (a8, zI K 1935 f8), (a9, zO 1 18 g9), (a10, zO 3 7 g10), (a11, zI K 8 f11), (a12, zO 4 6 g12), (a13, zI K 8 f13), (a14, zR K 512 f14), (a15, zO 2 6 g15), (a16, zI K 10 f16), (a1, zJ K 1 f1)] sz)) 4 4203 (va_A [(a0, zO 9 9 g0), (a2, zO 4 6 g2), (a3, zO 7 6 g3), (a4, zI K 645 f4), (a5, zI K 645 f5), (a6, zI K 645 f6), (a7, zI K 645 f7), (a8, zI K 1935 f8), (a9, zO 1 18 g9), (a10, zO 3 7 g10), (a11, zI K 8 f11), (a12, zO 4 6 g12), (a13, zI K 8 f13), (a14, zR K 512 f14), (a15, zO 2 6 g15), (a16, zI K 10 f16), (a1, zJ K 1 f1)] sz) := by
  refine z_hmet (Qc := fun A => (va_Qi (fun (r : Int32) (_ : Nat → Nat) => r = 0) (zB K A (fun u : Nat → Nat => [(a1, zJ K 1 (va_up f1 0 7))])) A)) (XC := fun A => vx_X (fun _ : Unit => False) (fun _ _ _ => True) A) (by decide +kernel) (Nat.le_of_ble_eq_true rfl) ?_
  intro p e s m args below meth c A ls H hx hb hr hg hown hlocks hml hTab hK hP hD hA hS hZ hl
  have hown : s.vm.findClass RL = some m.cls := hown
  have hl : lv_has ls 9 [(0, .ref a0), (1, .int (nI j0)), (2, .int 0), (3, .int x1), (4, .int x2), (5, .int 1), (6, .int 0), (7, .ref a1)] := hl
  refine lv_aload hx hb dL_run_0 (lv_at hl 7 rfl) ?_
  refine lv_iconst (v := 0) hx hb dL_run_2 (by decide) ?_
  refine lv_aload_n hx hb dL_run_3 rfl (lv_at hl 0 rfl) ?_
  refine lv_iload_n hx hb dL_run_4 rfl (lv_at hl 1 rfl) ?_
  refine lv_iload_n hx hb dL_run_5 rfl (lv_at hl 2 rfl) ?_
  refine lv_iload_n hx hb dL_run_6 rfl (lv_at hl 3 rfl) ?_
  refine lv_iload hx hb dL_run_7 (lv_at hl 4 rfl) ?_
  refine lv_iload hx hb dL_run_9 (lv_at hl 5 rfl) ?_
  refine lv_iload hx hb dL_run_11 (lv_at hl 6 rfl) ?_
  refine z_calli [(a0, zO 9 9 g0), (a2, zO 4 6 g2), (a3, zO 7 6 g3), (a4, zI K 645 f4), (a5, zI K 645 f5), (a6, zI K 645 f6), (a7, zI K 645 f7), (a8, zI K 1935 f8), (a9, zO 1 18 g9), (a10, zO 3 7 g10), (a11, zI K 8 f11), (a12, zO 4 6 g12), (a13, zI K 8 f13), (a14, zR K 512 f14), (a15, zO 2 6 g15), (a16, zI K 10 f16)] [(a1, zJ K 1 f1)] [0, 1, 2, 3, 4, 5, 6, 7, 8, 9, 10, 11, 12, 13, 14, 15] [16] hP hD hS hA rfl rfl (by decide) (by decide) (by decide +kernel) 4 4203 rfl rfl (fun hPc hDc hF => z_runV (As := [.int (nI j0), .int 0, .int x1, .int x2, .int 1, .int 0]) (rest := [.int 0, .ref a1]) ⟨hx, hb, hml, hown, hg⟩ (cX11_run_7 l K H.size a0 a2 a3 a4 a5 a6 a7 a8 a9 a10 a11 a12 a13 a14 a15 a16 g0 g2 g3 f4 f5 f6 f7 f8 g9 g10 f11 g12 f13 f14 g15 f16 j0 hj0 x1 x2 e0 e1 e2 e3 e4 e5 e6 e7 e8 e9 e10 e11 e12 e13 e14 e15 e16 e17 e18 e19 e20 e21 e22 e23 e24 e25 e26 e27 e28 e29 e30 e31 e32 e33 e34 e35) kV_RL_73 hd_X11_run rfl rfl ⟨(Nat.le_of_ble_eq_true rfl), (Nat.le_of_ble_eq_true rfl)⟩ hK hS hZ hPc hDc hF 0 rfl rfl rfl hl.1 rfl (Nat.le_of_ble_eq_true rfl) dL_run_13 ⟨(Nat.le_of_ble_eq_true rfl), (Nat.le_of_ble_eq_true rfl)⟩) (fun r3 u1 H locs w2 hP hD hS => ?_)
  subst w2
  have hP : va_P K.1 classes [(a1, zJ K 1 f1)] H := hP
  have hD : va_D A [(a1, zJ K 1 f1)] := hD
  refine lv_i2l hx hb dL_run_16 rfl ?_
  refine z_cstl (v := 7) (by decide +kernel) ?_
  refine z_last (j := 0) hx hb hK hP hD hS 0 rfl rfl (Nat.le_of_ble_eq_true rfl) (Nat.le_of_ble_eq_true rfl) dL_run_17 (fun ff4 H locs y5 hP hD hS => ?_)
  have hP : va_P K.1 classes [(a1, zJ K 1 ff4)] H := hP
  have hD : va_D A [(a1, zJ K 1 ff4)] := hD
  refine lv_goto (tgt := 29) hx hb dL_run_18 (by decide) ?_
  refine lv_iconst (v := 0) hx hb dL_run_29 (by decide) ?_
  subst y5
  have hP9 : va_P K.1 classes [(a1, zJ K 1 (va_up f1 0 7))] H := hP.sub [0] rfl
  have hD9 : va_D A [(a1, zJ K 1 (va_up f1 0 7))] := hD.sub [0] (by decide) rfl
  exact z_iret hx hb hr (fun _ => 0) rfl hP9 hD9 hS (Nat.le_of_ble_eq_true rfl) (Nat.le_of_ble_eq_true rfl) hlocks dL_run_30
set_option maxHeartbeats 4000000 in
set_option maxRecDepth 100000 in
theorem cX12_isIn_24 (l : Launch) (K : zK) (sz : Nat) : Met l yX12_isIn (Cond.code yX12_isIn cX12_isIn 3 (some .boolean) :: WG) { frames := 0, cells := 0, slots := 0, locals := 0 } (zPre K [] sz [.int 0, .int 0, .int 2]) (va_Qi (fun (r : Int32) (_ : Nat → Nat) => r = 1) (zB K (va_A [] sz) (fun u : Nat → Nat => [])) (va_A [] sz)) 0 0 (va_A [] sz) := by
  refine z_met (Qc := fun A => (va_Qi (fun (r : Int32) (_ : Nat → Nat) => r = 1) (zB K A (fun u : Nat → Nat => [])) A)) (by decide +kernel) (Nat.le_of_ble_eq_true rfl) ?_
  intro p e s m args below meth c A ls H hx hb hr hg hown hlocks hml hin hK hP hD hA hS hZ hl
  have hown : s.vm.findClass RX12 = some m.cls := hown
  have hl : lv_has ls 3 [(0, .int 0), (1, .int 0), (2, .int 2)] := hl
  refine lv_iload_n hx hb dX12_isIn_0 rfl (lv_at hl 0 rfl) ?_
  refine lv_iload_n hx hb dX12_isIn_1 rfl (lv_at hl 1 rfl) ?_
  refine lv_icmp_lt (tgt := 14) hx hb dX12_isIn_2 (by decide) (fun c => absurd c (by decide)) (fun _ => ?_)
  refine lv_iload_n hx hb dX12_isIn_5 rfl (lv_at hl 0 rfl) ?_
  refine lv_iload_n hx hb dX12_isIn_6 rfl (lv_at hl 2 rfl) ?_
  refine lv_icmp_gt (tgt := 14) hx hb dX12_isIn_7 (by decide) (fun c => absurd c (by decide)) (fun _ => ?_)
  refine lv_iconst (v := 1) hx hb dX12_isIn_10 (by decide) ?_
  refine lv_goto (tgt := 15) hx hb dX12_isIn_11 (by decide) ?_
  have hP9 : va_P K.1 classes [] H := hP.sub [] rfl
  have hD9 : va_D A [] := hD.sub [] (by decide) rfl
  exact z_zret hx hb hr rfl (fun _ => 0) rfl hP9 hD9 hS (Nat.le_of_ble_eq_true rfl) (Nat.le_of_ble_eq_true rfl) hlocks dX12_isIn_15
set_option maxHeartbeats 4000000 in
set_option maxRecDepth 100000 in
theorem cX12_mayRun_9 (l : Launch) (K : zK) (sz : Nat) (a0 : Nat) (g0 : Nat → Value) (j0 : Nat) (hj0 : j0 < 8) : Met l yX12_mayRun (Cond.code yX12_mayRun cX12_mayRun 5 (some .boolean) :: WG) { frames := 2, cells := 0, slots := 0, locals := 42 } (zPre K [(a0, zO 10 83 g0)] sz [.ref a0, .int (nI j0), .int 0, .int 1, .int 0]) (va_Qi (fun (r : Int32) (_ : Nat → Nat) => r = 1) (zB K (va_A [(a0, zO 10 83 g0)] sz) (fun u : Nat → Nat => [(a0, zO 10 83 (va_up g0 81 (.int 0)))])) (va_A [(a0, zO 10 83 g0)] sz)) 0 0 (va_A [(a0, zO 10 83 g0)] sz) := by
  refine z_met (Qc := fun A => (va_Qi (fun (r : Int32) (_ : Nat → Nat) => r = 1) (zB K A (fun u : Nat → Nat => [(a0, zO 10 83 (va_up g0 81 (.int 0)))])) A)) (by decide +kernel) (Nat.le_of_ble_eq_true rfl) ?_
  intro p e s m args below meth c A ls H hx hb hr hg hown hlocks hml hin hK hP hD hA hS hZ hl
  have hown : s.vm.findClass RX12 = some m.cls := hown
  have hl : lv_has ls 5 [(0, .ref a0), (1, .int (nI j0)), (2, .int 0), (3, .int 1), (4, .int 0)] := hl
  refine lv_aload_n hx hb dX12_mayRun_0 rfl (lv_at hl 0 rfl) ?_
  refine lv_iload_n hx hb dX12_mayRun_1 rfl (lv_at hl 1 rfl) ?_
  refine z_calli [] [(a0, zO 10 83 g0)] [] [0] hP hD hS hA rfl rfl (by decide) (by decide) (by decide +kernel) 0 0 rfl rfl (fun hPc hDc hF => z_runS (As := [.int (nI j0)]) (rest := [.ref a0]) ⟨hx, hb, hml, hown, hg⟩ (cX12_isGlobal_2 l K H.size j0 hj0) kS_RX12_197 hd_X12_isGlobal rfl rfl ⟨(Nat.le_of_ble_eq_true rfl), (Nat.le_of_ble_eq_true rfl)⟩ hK hS hZ hPc hDc hF rfl hl.1 rfl (Nat.le_of_ble_eq_true rfl) dX12_mayRun_2 ⟨(Nat.le_of_ble_eq_true rfl), (Nat.le_of_ble_eq_true rfl)⟩) (fun r3 u1 H locs w2 hP hD hS => ?_)
  subst w2
  have hP : va_P K.1 classes [(a0, zO 10 83 g0)] H := hP
  have hD : va_D A [(a0, zO 10 83 g0)] := hD
  refine lv_if_eq (tgt := 21) hx hb dX12_mayRun_5 (by decide) (fun c => absurd c (by decide)) (fun _ => ?_)
  refine lv_iload_n hx hb dX12_mayRun_8 rfl (lv_at hl 2 rfl) ?_
  refine lv_iconst (v := 0) hx hb dX12_mayRun_9 (by decide) ?_
  refine lv_iconst (v := 2) hx hb dX12_mayRun_10 (by decide) ?_
  refine z_calli [] [(a0, zO 10 83 g0)] [] [0] hP hD hS hA rfl rfl (by decide) (by decide) (by decide +kernel) 0 0 rfl rfl (fun hPc hDc hF => z_runS (As := [.int 0, .int 0, .int 2]) (rest := [.ref a0]) ⟨hx, hb, hml, hown, hg⟩ (cX12_isIn_24 l K H.size) kS_RX12_175 hd_X12_isIn rfl rfl ⟨(Nat.le_of_ble_eq_true rfl), (Nat.le_of_ble_eq_true rfl)⟩ hK hS hZ hPc hDc hF rfl hl.1 rfl (Nat.le_of_ble_eq_true rfl) dX12_mayRun_11 ⟨(Nat.le_of_ble_eq_true rfl), (Nat.le_of_ble_eq_true rfl)⟩) (fun r6 u4 H locs w5 hP hD hS => ?_)
  subst w5
  have hP : va_P K.1 classes [(a0, zO 10 83 g0)] H := hP
  have hD : va_D A [(a0, zO 10 83 g0)] := hD
  refine lv_if_eq (tgt := 21) hx hb dX12_mayRun_14 (by decide) (fun c => absurd c (by decide)) (fun _ => ?_)
  refine lv_iload_n hx hb dX12_mayRun_17 rfl (lv_at hl 3 rfl) ?_
  refine lv_if_ne (tgt := 25) hx hb dX12_mayRun_18 (by decide) (fun _ => ?_) (fun c => absurd c (by decide))
  refine lv_iload hx hb dX12_mayRun_25 (lv_at hl 4 rfl) ?_
  refine lv_if_eq (tgt := 41) hx hb dX12_mayRun_27 (by decide) (fun _ => ?_) (fun c => absurd (by decide) c)
  refine lv_iconst (v := 0) hx hb dX12_mayRun_41 (by decide) ?_
  refine z_calli [(a0, zO 10 83 g0)] [] [0] [] hP hD hS hA rfl rfl (by decide) (by decide) (by decide +kernel) 0 0 rfl rfl (fun hPc hDc hF => z_runV (As := [.int 0]) (rest := []) ⟨hx, hb, hml, hown, hg⟩ (cX12_can_1 l K H.size a0 g0) kV_RX12_182 hd_X12_can rfl rfl ⟨(Nat.le_of_ble_eq_true rfl), (Nat.le_of_ble_eq_true rfl)⟩ hK hS hZ hPc hDc hF 0 rfl rfl rfl hl.1 rfl (Nat.le_of_ble_eq_true rfl) dX12_mayRun_42 ⟨(Nat.le_of_ble_eq_true rfl), (Nat.le_of_ble_eq_true rfl)⟩) (fun r9 u7 H locs w8 hP hD hS => ?_)
  subst w8
  have hP : va_P K.1 classes [(a0, zO 10 83 (va_up g0 81 (.int 0)))] H := hP
  have hD : va_D A [(a0, zO 10 83 (va_up g0 81 (.int 0)))] := hD
  have hP9 : va_P K.1 classes [(a0, zO 10 83 (va_up g0 81 (.int 0)))] H := hP.sub [0] rfl
  have hD9 : va_D A [(a0, zO 10 83 (va_up g0 81 (.int 0)))] := hD.sub [0] (by decide) rfl
  exact z_zret hx hb hr rfl (fun _ => 0) rfl hP9 hD9 hS (Nat.le_of_ble_eq_true rfl) (Nat.le_of_ble_eq_true rfl) hlocks dX12_mayRun_45
set_option maxHeartbeats 4000000 in
set_option maxRecDepth 100000 in
theorem cX12_laysRun_1 (l : Launch) (K : zK) (sz : Nat) (a0 : Nat) (a1 : Nat) (a2 : Nat) (a3 : Nat) (g0 : Nat → Value) (f1 : Nat → Int32) (f2 : Nat → Int32) (f3 : Nat → Int32) (j0 : Nat) (hj0 : j0 < 8) (x1 : Int32) (x2 : Int32) (e0 : g0 8 = (.ref a1)) (e1 : g0 9 = (.ref a2)) (e2 : g0 13 = (.ref a3)) : Met l yX12_laysRun (Cond.code yX12_laysRun cX12_laysRun 7 none :: WG) { frames := 0, cells := 0, slots := 0, locals := 0 } (zPre K [(a0, zO 10 83 g0), (a1, zI K 1290 f1), (a2, zI K 1290 f2), (a3, zI K 1290 f3)] sz [.ref a0, .int (nI j0), .int 0, .int x1, .int x2]) (va_Qv (fun _ : Nat → Nat => True) (zB K (va_A [(a0, zO 10 83 g0), (a1, zI K 1290 f1), (a2, zI K 1290 f2), (a3, zI K 1290 f3)] sz) (fun u : Nat → Nat => [(a0, zO 10 83 g0), (a1, zI K 1290 (va_up f1 1280 2)), (a2, zI K 1290 (va_up f2 1280 (nI j0))), (a3, zI K 1290 (va_up f3 1280 1281))])) (va_A [(a0, zO 10 83 g0), (a1, zI K 1290 f1), (a2, zI K 1290 f2), (a3, zI K 1290 f3)] sz)) 0 0 (va_A [(a0, zO 10 83 g0), (a1, zI K 1290 f1), (a2, zI K 1290 f2), (a3, zI K 1290 f3)] sz) := by
  refine z_met (Qc := fun A => (va_Qv (fun _ : Nat → Nat => True) (zB K A (fun u : Nat → Nat => [(a0, zO 10 83 g0), (a1, zI K 1290 (va_up f1 1280 2)), (a2, zI K 1290 (va_up f2 1280 (nI j0))), (a3, zI K 1290 (va_up f3 1280 1281))])) A)) (by decide +kernel) (Nat.le_of_ble_eq_true rfl) ?_
  intro p e s m args below meth c A ls H hx hb hr hg hown hlocks hml hin hK hP hD hA hS hZ hl
  have hown : s.vm.findClass RX12 = some m.cls := hown
  have hl : lv_has ls 7 [(0, .ref a0), (1, .int (nI j0)), (2, .int 0), (3, .int x1), (4, .int x2)] := hl
  refine lv_sipush (v := 1280) hx hb dX12_laysRun_0 (by decide) ?_
  refine lv_istore (lv' := [(5, .int 1280), (0, .ref a0), (1, .int (nI j0)), (2, .int 0), (3, .int x1), (4, .int x2)]) hx hb dX12_laysRun_3 hl (by decide) rfl (fun ls hl => ?_)
  refine lv_iconst (v := 0) hx hb dX12_laysRun_5 (by decide) ?_
  refine lv_istore (lv' := [(6, .int 0), (5, .int 1280), (0, .ref a0), (1, .int (nI j0)), (2, .int 0), (3, .int x1), (4, .int x2)]) hx hb dX12_laysRun_6 hl (by decide) rfl (fun ls hl => ?_)
  refine lv_iload hx hb dX12_laysRun_8 (lv_at hl 0 rfl) ?_
  refine lv_iload_n hx hb dX12_laysRun_10 rfl (lv_at hl 4 rfl) ?_
  refine lv_icmp_ge (tgt := 31) hx hb dX12_laysRun_11 (by decide) (fun _ => ?_) (fun c => absurd (by decide) c)
  refine lv_aload_n hx hb dX12_laysRun_31 rfl (lv_at hl 2 rfl) ?_
  refine z_get (v := .ref a1) hx hb hg hown hK hP i_X12 rfl 0 rfl 8 (by decide) mt1288 e0 dX12_laysRun_32 ?_
  refine lv_iload hx hb dX12_laysRun_35 (lv_at hl 1 rfl) ?_
  refine lv_iconst (v := 2) hx hb dX12_laysRun_37 (by decide) ?_
  refine z_iast (j := 1280) hx hb hK hP hD hS 1 rfl rfl (Nat.le_of_ble_eq_true rfl) (Nat.le_of_ble_eq_true rfl) dX12_laysRun_38 (fun ff1 H locs y2 hP hD hS => ?_)
  have hP : va_P K.1 classes [(a0, zO 10 83 g0), (a1, zI K 1290 ff1), (a2, zI K 1290 f2), (a3, zI K 1290 f3)] H := hP
  have hD : va_D A [(a0, zO 10 83 g0), (a1, zI K 1290 ff1), (a2, zI K 1290 f2), (a3, zI K 1290 f3)] := hD
  refine lv_aload_n hx hb dX12_laysRun_39 rfl (lv_at hl 2 rfl) ?_
  refine z_get (v := .ref a2) hx hb hg hown hK hP i_X12 rfl 0 rfl 9 (by decide) mt1289 e1 dX12_laysRun_40 ?_
  refine lv_iload hx hb dX12_laysRun_43 (lv_at hl 1 rfl) ?_
  refine lv_iload_n hx hb dX12_laysRun_45 rfl (lv_at hl 3 rfl) ?_
  refine z_iast (j := 1280) hx hb hK hP hD hS 2 rfl rfl (Nat.le_of_ble_eq_true rfl) (Nat.le_of_ble_eq_true rfl) dX12_laysRun_46 (fun ff3 H locs y4 hP hD hS => ?_)
  have hP : va_P K.1 classes [(a0, zO 10 83 g0), (a1, zI K 1290 ff1), (a2, zI K 1290 ff3), (a3, zI K 1290 f3)] H := hP
  have hD : va_D A [(a0, zO 10 83 g0), (a1, zI K 1290 ff1), (a2, zI K 1290 ff3), (a3, zI K 1290 f3)] := hD
  refine lv_aload_n hx hb dX12_laysRun_47 rfl (lv_at hl 2 rfl) ?_
  refine z_get (v := .ref a3) hx hb hg hown hK hP i_X12 rfl 0 rfl 13 (by decide) mt1293 e2 dX12_laysRun_48 ?_
  refine lv_iload hx hb dX12_laysRun_51 (lv_at hl 1 rfl) ?_
  refine lv_iload hx hb dX12_laysRun_53 (lv_at hl 1 rfl) ?_
  refine lv_iconst (v := 1) hx hb dX12_laysRun_55 (by decide) ?_
  refine lv_iadd hx hb dX12_laysRun_56 ?_
  refine z_cst (v := 1281) (by decide +kernel) ?_
  refine z_iast (j := 1280) hx hb hK hP hD hS 3 rfl rfl (Nat.le_of_ble_eq_true rfl) (Nat.le_of_ble_eq_true rfl) dX12_laysRun_57 (fun ff5 H locs y6 hP hD hS => ?_)
  have hP : va_P K.1 classes [(a0, zO 10 83 g0), (a1, zI K 1290 ff1), (a2, zI K 1290 ff3), (a3, zI K 1290 ff5)] H := hP
  have hD : va_D A [(a0, zO 10 83 g0), (a1, zI K 1290 ff1), (a2, zI K 1290 ff3), (a3, zI K 1290 ff5)] := hD
  refine lv_iconst (v := 0) hx hb dX12_laysRun_58 (by decide) ?_
  refine lv_istore (lv' := [(6, .int 0), (5, .int 1280), (0, .ref a0), (1, .int (nI j0)), (2, .int 0), (3, .int x1), (4, .int x2)]) hx hb dX12_laysRun_59 hl (by decide) rfl (fun ls hl => ?_)
  refine lv_iload hx hb dX12_laysRun_61 (lv_at hl 0 rfl) ?_
  refine lv_iload_n hx hb dX12_laysRun_63 rfl (lv_at hl 4 rfl) ?_
  refine lv_icmp_ge (tgt := 132) hx hb dX12_laysRun_64 (by decide) (fun _ => ?_) (fun c => absurd (by decide) c)
  subst y6
  subst y4
  subst y2
  have hP9 : va_P K.1 classes [(a0, zO 10 83 g0), (a1, zI K 1290 (va_up f1 1280 2)), (a2, zI K 1290 (va_up f2 1280 (nI j0))), (a3, zI K 1290 (va_up f3 1280 1281))] H := hP.sub [0, 1, 2, 3] rfl
  have hD9 : va_D A [(a0, zO 10 83 g0), (a1, zI K 1290 (va_up f1 1280 2)), (a2, zI K 1290 (va_up f2 1280 (nI j0))), (a3, zI K 1290 (va_up f3 1280 1281))] := hD.sub [0, 1, 2, 3] (by decide) rfl
  exact z_vret hx hb hr (fun _ => 0) trivial hP9 hD9 hS (Nat.le_of_ble_eq_true rfl) (Nat.le_of_ble_eq_true rfl) hlocks dX12_laysRun_132
set_option maxHeartbeats 4000000 in
set_option maxRecDepth 100000 in
theorem cX12_goesOn_1 (l : Launch) (K : zK) (sz : Nat) (a0 : Nat) (g0 : Nat → Value) : Met l yX12_goesOn (Cond.code yX12_goesOn cX12_goesOn 4 none :: WG) { frames := 0, cells := 0, slots := 0, locals := 0 } (zPre K [(a0, zO 10 83 g0)] sz [.ref a0, .int 1280, .int (-1), .int 0]) (va_Qv (fun _ : Nat → Nat => True) (zB K (va_A [(a0, zO 10 83 g0)] sz) (fun u : Nat → Nat => [(a0, zO 10 83 (va_up (va_up (va_up (va_up g0 62 (.int 1280)) 63 (.int (-1))) 64 (.int 0)) 65 (.int 0)))])) (va_A [(a0, zO 10 83 g0)] sz)) 0 0 (va_A [(a0, zO 10 83 g0)] sz) := by
  refine z_met (Qc := fun A => (va_Qv (fun _ : Nat → Nat => True) (zB K A (fun u : Nat → Nat => [(a0, zO 10 83 (va_up (va_up (va_up (va_up g0 62 (.int 1280)) 63 (.int (-1))) 64 (.int 0)) 65 (.int 0)))])) A)) (by decide +kernel) (Nat.le_of_ble_eq_true rfl) ?_
  intro p e s m args below meth c A ls H hx hb hr hg hown hlocks hml hin hK hP hD hA hS hZ hl
  have hown : s.vm.findClass RX12 = some m.cls := hown
  have hl : lv_has ls 4 [(0, .ref a0), (1, .int 1280), (2, .int (-1)), (3, .int 0)] := hl
  refine lv_aload_n hx hb dX12_goesOn_0 rfl (lv_at hl 0 rfl) ?_
  refine lv_iload_n hx hb dX12_goesOn_1 rfl (lv_at hl 1 rfl) ?_
  refine z_put hx hb hg hown hK hP hD hS i_X12 rfl tyX12_ok nmX12 0 rfl 62 (by decide) mt1342 rfl rfl rfl dX12_goesOn_2 (fun gg1 H locs y2 hP hD hS => ?_)
  have hP : va_P K.1 classes [(a0, zO 10 83 gg1)] H := hP
  have hD : va_D A [(a0, zO 10 83 gg1)] := hD
  refine lv_aload_n hx hb dX12_goesOn_5 rfl (lv_at hl 0 rfl) ?_
  refine lv_iload_n hx hb dX12_goesOn_6 rfl (lv_at hl 2 rfl) ?_
  refine z_put hx hb hg hown hK hP hD hS i_X12 rfl tyX12_ok nmX12 0 rfl 63 (by decide) mt1343 rfl rfl rfl dX12_goesOn_7 (fun gg3 H locs y4 hP hD hS => ?_)
  have hP : va_P K.1 classes [(a0, zO 10 83 gg3)] H := hP
  have hD : va_D A [(a0, zO 10 83 gg3)] := hD
  refine lv_aload_n hx hb dX12_goesOn_10 rfl (lv_at hl 0 rfl) ?_
  refine lv_iload_n hx hb dX12_goesOn_11 rfl (lv_at hl 3 rfl) ?_
  refine z_put hx hb hg hown hK hP hD hS i_X12 rfl tyX12_ok nmX12 0 rfl 64 (by decide) mt1344 rfl rfl rfl dX12_goesOn_12 (fun gg5 H locs y6 hP hD hS => ?_)
  have hP : va_P K.1 classes [(a0, zO 10 83 gg5)] H := hP
  have hD : va_D A [(a0, zO 10 83 gg5)] := hD
  refine lv_aload_n hx hb dX12_goesOn_15 rfl (lv_at hl 0 rfl) ?_
  refine lv_iconst (v := 0) hx hb dX12_goesOn_16 (by decide) ?_
  refine z_put hx hb hg hown hK hP hD hS i_X12 rfl tyX12_ok nmX12 0 rfl 65 (by decide) mt1345 rfl rfl rfl dX12_goesOn_17 (fun gg7 H locs y8 hP hD hS => ?_)
  have hP : va_P K.1 classes [(a0, zO 10 83 gg7)] H := hP
  have hD : va_D A [(a0, zO 10 83 gg7)] := hD
  subst y8
  subst y6
  subst y4
  subst y2
  have hP9 : va_P K.1 classes [(a0, zO 10 83 (va_up (va_up (va_up (va_up g0 62 (.int 1280)) 63 (.int (-1))) 64 (.int 0)) 65 (.int 0)))] H := hP.sub [0] rfl
  have hD9 : va_D A [(a0, zO 10 83 (va_up (va_up (va_up (va_up g0 62 (.int 1280)) 63 (.int (-1))) 64 (.int 0)) 65 (.int 0)))] := hD.sub [0] (by decide) rfl
  exact z_vret hx hb hr (fun _ => 0) trivial hP9 hD9 hS (Nat.le_of_ble_eq_true rfl) (Nat.le_of_ble_eq_true rfl) hlocks dX12_goesOn_20
set_option maxHeartbeats 4000000 in
set_option maxRecDepth 100000 in
theorem cX12_stops_1 (l : Launch) (K : zK) (sz : Nat) (a0 : Nat) (g0 : Nat → Value) (e0 : g0 72 = (.int 0)) : Met l yX12_stops (Cond.code yX12_stops cX12_stops 2 none :: WG) { frames := 0, cells := 0, slots := 0, locals := 0 } (zPre K [(a0, zO 10 83 g0)] sz [.ref a0, .int 7]) (va_Qv (fun _ : Nat → Nat => True) (zB K (va_A [(a0, zO 10 83 g0)] sz) (fun u : Nat → Nat => [(a0, zO 10 83 (va_up g0 61 (.int 7)))])) (va_A [(a0, zO 10 83 g0)] sz)) 0 0 (va_A [(a0, zO 10 83 g0)] sz) := by
  refine z_met (Qc := fun A => (va_Qv (fun _ : Nat → Nat => True) (zB K A (fun u : Nat → Nat => [(a0, zO 10 83 (va_up g0 61 (.int 7)))])) A)) (by decide +kernel) (Nat.le_of_ble_eq_true rfl) ?_
  intro p e s m args below meth c A ls H hx hb hr hg hown hlocks hml hin hK hP hD hA hS hZ hl
  have hown : s.vm.findClass RX12 = some m.cls := hown
  have hl : lv_has ls 2 [(0, .ref a0), (1, .int 7)] := hl
  refine lv_aload_n hx hb dX12_stops_0 rfl (lv_at hl 0 rfl) ?_
  refine lv_iload_n hx hb dX12_stops_1 rfl (lv_at hl 1 rfl) ?_
  refine z_put hx hb hg hown hK hP hD hS i_X12 rfl tyX12_ok nmX12 0 rfl 61 (by decide) mt1341 rfl rfl rfl dX12_stops_2 (fun gg1 H locs y2 hP hD hS => ?_)
  have hP : va_P K.1 classes [(a0, zO 10 83 gg1)] H := hP
  have hD : va_D A [(a0, zO 10 83 gg1)] := hD
  refine lv_aload_n hx hb dX12_stops_5 rfl (lv_at hl 0 rfl) ?_
  refine z_get (v := .int 0) hx hb hg hown hK hP i_X12 rfl 0 rfl 72 (by decide) mt1352 (zu_of y2 (zu_ne (by decide) e0)) dX12_stops_6 ?_
  refine lv_if_le (tgt := 54) hx hb dX12_stops_9 (by decide) (fun _ => ?_) (fun c => absurd (by decide) c)
  subst y2
  have hP9 : va_P K.1 classes [(a0, zO 10 83 (va_up g0 61 (.int 7)))] H := hP.sub [0] rfl
  have hD9 : va_D A [(a0, zO 10 83 (va_up g0 61 (.int 7)))] := hD.sub [0] (by decide) rfl
  exact z_vret hx hb hr (fun _ => 0) trivial hP9 hD9 hS (Nat.le_of_ble_eq_true rfl) (Nat.le_of_ble_eq_true rfl) hlocks dX12_stops_54
set_option maxHeartbeats 4000000 in
set_option maxRecDepth 100000 in
theorem cX12_steps_1 (l : Launch) (K : zK) (sz : Nat) (a0 : Nat) (g0 : Nat → Value) (e0 : g0 58 = (.int 0)) (e1 : g0 59 = (.int 600)) (e2 : g0 57 = (.int 0)) (e3 : g0 60 = (.int 1)) (e4 : g0 72 = (.int 0)) : Met l yX12_steps (Cond.code yX12_steps cX12_steps 1 none :: WG) { frames := 1, cells := 0, slots := 0, locals := 21 } (zPre K [(a0, zO 10 83 g0)] sz [.ref a0]) (va_Qv (fun _ : Nat → Nat => True) (zB K (va_A [(a0, zO 10 83 g0)] sz) (fun u : Nat → Nat => [(a0, zO 10 83 (va_up g0 61 (.int 7)))])) (va_A [(a0, zO 10 83 g0)] sz)) 0 0 (va_A [(a0, zO 10 83 g0)] sz) := by
  refine z_met (Qc := fun A => (va_Qv (fun _ : Nat → Nat => True) (zB K A (fun u : Nat → Nat => [(a0, zO 10 83 (va_up g0 61 (.int 7)))])) A)) (by decide +kernel) (Nat.le_of_ble_eq_true rfl) ?_
  intro p e s m args below meth c A ls H hx hb hr hg hown hlocks hml hin hK hP hD hA hS hZ hl
  have hown : s.vm.findClass RX12 = some m.cls := hown
  have hl : lv_has ls 1 [(0, .ref a0)] := hl
  refine lv_aload_n hx hb dX12_steps_0 rfl (lv_at hl 0 rfl) ?_
  refine z_get (v := .int 0) hx hb hg hown hK hP i_X12 rfl 0 rfl 58 (by decide) mt1338 e0 dX12_steps_1 ?_
  refine lv_aload_n hx hb dX12_steps_4 rfl (lv_at hl 0 rfl) ?_
  refine z_get (v := .int 600) hx hb hg hown hK hP i_X12 rfl 0 rfl 59 (by decide) mt1339 e1 dX12_steps_5 ?_
  refine lv_icmp_ne (tgt := 18) hx hb dX12_steps_8 (by decide) (fun _ => ?_) (fun c => absurd c (by decide))
  refine lv_aload_n hx hb dX12_steps_18 rfl (lv_at hl 0 rfl) ?_
  refine z_get (v := .int 0) hx hb hg hown hK hP i_X12 rfl 0 rfl 57 (by decide) mt1337 e2 dX12_steps_19 ?_
  refine lv_if_ne (tgt := 45) hx hb dX12_steps_22 (by decide) (fun c => absurd (by decide) c) (fun _ => ?_)
  refine lv_aload_n hx hb dX12_steps_25 rfl (lv_at hl 0 rfl) ?_
  refine z_get (v := .int 0) hx hb hg hown hK hP i_X12 rfl 0 rfl 58 (by decide) mt1338 e0 dX12_steps_26 ?_
  refine lv_iconst (v := 1) hx hb dX12_steps_29 (by decide) ?_
  refine lv_iadd hx hb dX12_steps_30 ?_
  refine z_cst (v := 1) (by decide +kernel) ?_
  refine lv_aload_n hx hb dX12_steps_31 rfl (lv_at hl 0 rfl) ?_
  refine z_get (v := .int 1) hx hb hg hown hK hP i_X12 rfl 0 rfl 60 (by decide) mt1340 e3 dX12_steps_32 ?_
  refine lv_icmp_ne (tgt := 45) hx hb dX12_steps_35 (by decide) (fun c => absurd (by decide) c) (fun _ => ?_)
  refine lv_aload_n hx hb dX12_steps_38 rfl (lv_at hl 0 rfl) ?_
  refine lv_bipush (v := 7) hx hb dX12_steps_39 (by decide) ?_
  refine z_callv [(a0, zO 10 83 g0)] [] [0] [] hP hD hS hA rfl rfl (by decide) (by decide) (by decide +kernel) 0 0 rfl rfl (fun hPc hDc hF => z_runV (As := [.int 7]) (rest := []) ⟨hx, hb, hml, hown, hg⟩ (cX12_stops_1 l K H.size a0 g0 e4) kV_RX12_434 hd_X12_stops rfl rfl ⟨(Nat.le_of_ble_eq_true rfl), (Nat.le_of_ble_eq_true rfl)⟩ hK hS hZ hPc hDc hF 0 rfl rfl rfl hl.1 rfl (Nat.le_of_ble_eq_true rfl) dX12_steps_41 ⟨(Nat.le_of_ble_eq_true rfl), (Nat.le_of_ble_eq_true rfl)⟩) (fun u1 H locs w2 hP hD hS => ?_)
  have hP : va_P K.1 classes [(a0, zO 10 83 (va_up g0 61 (.int 7)))] H := hP
  have hD : va_D A [(a0, zO 10 83 (va_up g0 61 (.int 7)))] := hD
  have hP9 : va_P K.1 classes [(a0, zO 10 83 (va_up g0 61 (.int 7)))] H := hP.sub [0] rfl
  have hD9 : va_D A [(a0, zO 10 83 (va_up g0 61 (.int 7)))] := hD.sub [0] (by decide) rfl
  exact z_vret hx hb hr (fun _ => 0) trivial hP9 hD9 hS (Nat.le_of_ble_eq_true rfl) (Nat.le_of_ble_eq_true rfl) hlocks dX12_steps_44
set_option maxHeartbeats 4000000 in
set_option maxRecDepth 100000 in
theorem cX12_finds_1 (l : Launch) (K : zK) (sz : Nat) (a0 : Nat) (g0 : Nat → Value) (e0 : g0 72 = (.int 0)) (e1 : g0 65 = (.int 0)) (e2 : g0 58 = (.int 0)) (e3 : g0 59 = (.int 600)) (e4 : g0 57 = (.int 0)) (e5 : g0 60 = (.int 1)) : Met l yX12_finds (Cond.code yX12_finds cX12_finds 1 none :: WG) { frames := 2, cells := 0, slots := 0, locals := 41 } (zPre K [(a0, zO 10 83 g0)] sz [.ref a0]) (va_Qv (fun _ : Nat → Nat => True) (zB K (va_A [(a0, zO 10 83 g0)] sz) (fun u : Nat → Nat => [(a0, zO 10 83 (va_up (va_up g0 61 (.int (-1))) 61 (.int 7)))])) (va_A [(a0, zO 10 83 g0)] sz)) 0 0 (va_A [(a0, zO 10 83 g0)] sz) := by
  refine z_met (Qc := fun A => (va_Qv (fun _ : Nat → Nat => True) (zB K A (fun u : Nat → Nat => [(a0, zO 10 83 (va_up (va_up g0 61 (.int (-1))) 61 (.int 7)))])) A)) (by decide +kernel) (Nat.le_of_ble_eq_true rfl) ?_
  intro p e s m args below meth c A ls H hx hb hr hg hown hlocks hml hin hK hP hD hA hS hZ hl
  have hown : s.vm.findClass RX12 = some m.cls := hown
  have hl : lv_has ls 1 [(0, .ref a0)] := hl
  refine lv_aload_n hx hb dX12_finds_0 rfl (lv_at hl 0 rfl) ?_
  refine lv_iconst (v := (-1)) hx hb dX12_finds_1 (by decide) ?_
  refine z_put hx hb hg hown hK hP hD hS i_X12 rfl tyX12_ok nmX12 0 rfl 61 (by decide) mt1341 rfl rfl rfl dX12_finds_2 (fun gg1 H locs y2 hP hD hS => ?_)
  have hP : va_P K.1 classes [(a0, zO 10 83 gg1)] H := hP
  have hD : va_D A [(a0, zO 10 83 gg1)] := hD
  refine lv_aload_n hx hb dX12_finds_5 rfl (lv_at hl 0 rfl) ?_
  refine z_get (v := .int (-1)) hx hb hg hown hK hP i_X12 rfl 0 rfl 61 (by decide) mt1341 (zu_of y2 zu_eq) dX12_finds_6 ?_
  refine lv_iconst (v := (-1)) hx hb dX12_finds_9 (by decide) ?_
  refine lv_icmp_ne (tgt := 48) hx hb dX12_finds_10 (by decide) (fun c => absurd (by decide) c) (fun _ => ?_)
  refine lv_aload_n hx hb dX12_finds_13 rfl (lv_at hl 0 rfl) ?_
  refine z_get (v := .int 0) hx hb hg hown hK hP i_X12 rfl 0 rfl 72 (by decide) mt1352 (zu_of y2 (zu_ne (by decide) e0)) dX12_finds_14 ?_
  refine lv_if_gt (tgt := 27) hx hb dX12_finds_17 (by decide) (fun c => absurd c (by decide)) (fun _ => ?_)
  refine lv_aload_n hx hb dX12_finds_20 rfl (lv_at hl 0 rfl) ?_
  refine z_get (v := .int 0) hx hb hg hown hK hP i_X12 rfl 0 rfl 65 (by decide) mt1345 (zu_of y2 (zu_ne (by decide) e1)) dX12_finds_21 ?_
  refine lv_if_ne (tgt := 48) hx hb dX12_finds_24 (by decide) (fun c => absurd (by decide) c) (fun _ => ?_)
  refine lv_aload_n hx hb dX12_finds_27 rfl (lv_at hl 0 rfl) ?_
  refine z_get (v := .int 0) hx hb hg hown hK hP i_X12 rfl 0 rfl 65 (by decide) mt1345 (zu_of y2 (zu_ne (by decide) e1)) dX12_finds_28 ?_
  refine lv_if_eq (tgt := 41) hx hb dX12_finds_31 (by decide) (fun _ => ?_) (fun c => absurd (by decide) c)
  refine lv_aload_n hx hb dX12_finds_41 rfl (lv_at hl 0 rfl) ?_
  refine z_callv [(a0, zO 10 83 gg1)] [] [0] [] hP hD hS hA rfl rfl (by decide) (by decide) (by decide +kernel) 0 0 rfl rfl (fun hPc hDc hF => z_runV (As := []) (rest := []) ⟨hx, hb, hml, hown, hg⟩ (cX12_steps_1 l K H.size a0 gg1 (zu_of y2 (zu_ne (by decide) e2)) (zu_of y2 (zu_ne (by decide) e3)) (zu_of y2 (zu_ne (by decide) e4)) (zu_of y2 (zu_ne (by decide) e5)) (zu_of y2 (zu_ne (by decide) e0))) kV_RX12_476 hd_X12_steps rfl rfl ⟨(Nat.le_of_ble_eq_true rfl), (Nat.le_of_ble_eq_true rfl)⟩ hK hS hZ hPc hDc hF 0 rfl rfl rfl hl.1 rfl (Nat.le_of_ble_eq_true rfl) dX12_finds_42 ⟨(Nat.le_of_ble_eq_true rfl), (Nat.le_of_ble_eq_true rfl)⟩) (fun u3 H locs w4 hP hD hS => ?_)
  have hP : va_P K.1 classes [(a0, zO 10 83 (va_up gg1 61 (.int 7)))] H := hP
  have hD : va_D A [(a0, zO 10 83 (va_up gg1 61 (.int 7)))] := hD
  refine lv_goto (tgt := 5) hx hb dX12_finds_45 (by decide) ?_
  refine lv_aload_n hx hb dX12_finds_5 rfl (lv_at hl 0 rfl) ?_
  refine z_get (v := .int 7) hx hb hg hown hK hP i_X12 rfl 0 rfl 61 (by decide) mt1341 zu_eq dX12_finds_6 ?_
  refine lv_iconst (v := (-1)) hx hb dX12_finds_9 (by decide) ?_
  refine lv_icmp_ne (tgt := 48) hx hb dX12_finds_10 (by decide) (fun _ => ?_) (fun c => absurd c (by decide))
  subst y2
  have hP9 : va_P K.1 classes [(a0, zO 10 83 (va_up (va_up g0 61 (.int (-1))) 61 (.int 7)))] H := hP.sub [0] rfl
  have hD9 : va_D A [(a0, zO 10 83 (va_up (va_up g0 61 (.int (-1))) 61 (.int 7)))] := hD.sub [0] (by decide) rfl
  exact z_vret hx hb hr (fun _ => 0) trivial hP9 hD9 hS (Nat.le_of_ble_eq_true rfl) (Nat.le_of_ble_eq_true rfl) hlocks dX12_finds_48
set_option maxHeartbeats 4000000 in
set_option maxRecDepth 100000 in
theorem cX12_reaches_1 (l : Launch) (K : zK) (sz : Nat) (a0 : Nat) (a1 : Nat) (a2 : Nat) (g0 : Nat → Value) (f1 : Nat → Int32) (f2 : Nat → Int32) (e0 : g0 52 = (.ref a1)) (e1 : f1 0 = (-1)) (e2 : g0 53 = (.ref a2)) (e3 : g0 54 = (.int 0)) : Met l yX12_reaches (Cond.code yX12_reaches cX12_reaches 2 none :: WG) { frames := 0, cells := 0, slots := 0, locals := 0 } (zPre K [(a0, zO 10 83 g0), (a1, zI K 210000 f1), (a2, zI K 210000 f2)] sz [.ref a0, .int 0]) (va_Qv (fun _ : Nat → Nat => True) (zB K (va_A [(a0, zO 10 83 g0), (a1, zI K 210000 f1), (a2, zI K 210000 f2)] sz) (fun u : Nat → Nat => [(a0, zO 10 83 (va_up g0 54 (.int 1))), (a1, zI K 210000 (va_up f1 0 0)), (a2, zI K 210000 (va_up f2 0 0))])) (va_A [(a0, zO 10 83 g0), (a1, zI K 210000 f1), (a2, zI K 210000 f2)] sz)) 0 0 (va_A [(a0, zO 10 83 g0), (a1, zI K 210000 f1), (a2, zI K 210000 f2)] sz) := by
  refine z_met (Qc := fun A => (va_Qv (fun _ : Nat → Nat => True) (zB K A (fun u : Nat → Nat => [(a0, zO 10 83 (va_up g0 54 (.int 1))), (a1, zI K 210000 (va_up f1 0 0)), (a2, zI K 210000 (va_up f2 0 0))])) A)) (by decide +kernel) (Nat.le_of_ble_eq_true rfl) ?_
  intro p e s m args below meth c A ls H hx hb hr hg hown hlocks hml hin hK hP hD hA hS hZ hl
  have hown : s.vm.findClass RX12 = some m.cls := hown
  have hl : lv_has ls 2 [(0, .ref a0), (1, .int 0)] := hl
  refine lv_iload_n hx hb dX12_reaches_0 rfl (lv_at hl 1 rfl) ?_
  refine lv_iconst (v := (-1)) hx hb dX12_reaches_1 (by decide) ?_
  refine lv_icmp_eq (tgt := 42) hx hb dX12_reaches_2 (by decide) (fun c => absurd c (by decide)) (fun _ => ?_)
  refine lv_aload_n hx hb dX12_reaches_5 rfl (lv_at hl 0 rfl) ?_
  refine z_get (v := .ref a1) hx hb hg hown hK hP i_X12 rfl 0 rfl 52 (by decide) mt1332 e0 dX12_reaches_6 ?_
  refine lv_iload_n hx hb dX12_reaches_9 rfl (lv_at hl 1 rfl) ?_
  refine z_iald (v := (-1)) (j := 0) hx hb hK hP 1 rfl rfl (Nat.le_of_ble_eq_true rfl) (Nat.le_of_ble_eq_true rfl) e1 dX12_reaches_10 ?_
  refine lv_iconst (v := (-1)) hx hb dX12_reaches_11 (by decide) ?_
  refine lv_icmp_ne (tgt := 42) hx hb dX12_reaches_12 (by decide) (fun c => absurd (by decide) c) (fun _ => ?_)
  refine lv_aload_n hx hb dX12_reaches_15 rfl (lv_at hl 0 rfl) ?_
  refine z_get (v := .ref a1) hx hb hg hown hK hP i_X12 rfl 0 rfl 52 (by decide) mt1332 e0 dX12_reaches_16 ?_
  refine lv_iload_n hx hb dX12_reaches_19 rfl (lv_at hl 1 rfl) ?_
  refine lv_iconst (v := 0) hx hb dX12_reaches_20 (by decide) ?_
  refine z_iast (j := 0) hx hb hK hP hD hS 1 rfl rfl (Nat.le_of_ble_eq_true rfl) (Nat.le_of_ble_eq_true rfl) dX12_reaches_21 (fun ff1 H locs y2 hP hD hS => ?_)
  have hP : va_P K.1 classes [(a0, zO 10 83 g0), (a1, zI K 210000 ff1), (a2, zI K 210000 f2)] H := hP
  have hD : va_D A [(a0, zO 10 83 g0), (a1, zI K 210000 ff1), (a2, zI K 210000 f2)] := hD
  refine lv_aload_n hx hb dX12_reaches_22 rfl (lv_at hl 0 rfl) ?_
  refine z_get (v := .ref a2) hx hb hg hown hK hP i_X12 rfl 0 rfl 53 (by decide) mt1333 e2 dX12_reaches_23 ?_
  refine lv_aload_n hx hb dX12_reaches_26 rfl (lv_at hl 0 rfl) ?_
  refine z_get (v := .int 0) hx hb hg hown hK hP i_X12 rfl 0 rfl 54 (by decide) mt1334 e3 dX12_reaches_27 ?_
  refine lv_iload_n hx hb dX12_reaches_30 rfl (lv_at hl 1 rfl) ?_
  refine z_iast (j := 0) hx hb hK hP hD hS 2 rfl rfl (Nat.le_of_ble_eq_true rfl) (Nat.le_of_ble_eq_true rfl) dX12_reaches_31 (fun ff3 H locs y4 hP hD hS => ?_)
  have hP : va_P K.1 classes [(a0, zO 10 83 g0), (a1, zI K 210000 ff1), (a2, zI K 210000 ff3)] H := hP
  have hD : va_D A [(a0, zO 10 83 g0), (a1, zI K 210000 ff1), (a2, zI K 210000 ff3)] := hD
  refine lv_aload_n hx hb dX12_reaches_32 rfl (lv_at hl 0 rfl) ?_
  refine lv_dup hx hb dX12_reaches_33 rfl ?_
  refine z_get (v := .int 0) hx hb hg hown hK hP i_X12 rfl 0 rfl 54 (by decide) mt1334 e3 dX12_reaches_34 ?_
  refine lv_iconst (v := 1) hx hb dX12_reaches_37 (by decide) ?_
  refine lv_iadd hx hb dX12_reaches_38 ?_
  refine z_cst (v := 1) (by decide +kernel) ?_
  refine z_put hx hb hg hown hK hP hD hS i_X12 rfl tyX12_ok nmX12 0 rfl 54 (by decide) mt1334 rfl rfl rfl dX12_reaches_39 (fun gg5 H locs y6 hP hD hS => ?_)
  have hP : va_P K.1 classes [(a0, zO 10 83 gg5), (a1, zI K 210000 ff1), (a2, zI K 210000 ff3)] H := hP
  have hD : va_D A [(a0, zO 10 83 gg5), (a1, zI K 210000 ff1), (a2, zI K 210000 ff3)] := hD
  subst y6
  subst y4
  subst y2
  have hP9 : va_P K.1 classes [(a0, zO 10 83 (va_up g0 54 (.int 1))), (a1, zI K 210000 (va_up f1 0 0)), (a2, zI K 210000 (va_up f2 0 0))] H := hP.sub [0, 1, 2] rfl
  have hD9 : va_D A [(a0, zO 10 83 (va_up g0 54 (.int 1))), (a1, zI K 210000 (va_up f1 0 0)), (a2, zI K 210000 (va_up f2 0 0))] := hD.sub [0, 1, 2] (by decide) rfl
  exact z_vret hx hb hr (fun _ => 0) trivial hP9 hD9 hS (Nat.le_of_ble_eq_true rfl) (Nat.le_of_ble_eq_true rfl) hlocks dX12_reaches_42
set_option maxHeartbeats 4000000 in
set_option maxRecDepth 100000 in
theorem cX12_reaches_2 (l : Launch) (K : zK) (sz : Nat) (a0 : Nat) (a1 : Nat) (a2 : Nat) (g0 : Nat → Value) (f1 : Nat → Int32) (f2 : Nat → Int32) (e0 : g0 52 = (.ref a1)) (e1 : f1 1 = (-1)) (e2 : g0 53 = (.ref a2)) (e3 : g0 54 = (.int 1)) : Met l yX12_reaches (Cond.code yX12_reaches cX12_reaches 2 none :: WG) { frames := 0, cells := 0, slots := 0, locals := 0 } (zPre K [(a0, zO 10 83 g0), (a1, zI K 210000 f1), (a2, zI K 210000 f2)] sz [.ref a0, .int 1]) (va_Qv (fun _ : Nat → Nat => True) (zB K (va_A [(a0, zO 10 83 g0), (a1, zI K 210000 f1), (a2, zI K 210000 f2)] sz) (fun u : Nat → Nat => [(a0, zO 10 83 (va_up g0 54 (.int 2))), (a1, zI K 210000 (va_up f1 1 0)), (a2, zI K 210000 (va_up f2 1 1))])) (va_A [(a0, zO 10 83 g0), (a1, zI K 210000 f1), (a2, zI K 210000 f2)] sz)) 0 0 (va_A [(a0, zO 10 83 g0), (a1, zI K 210000 f1), (a2, zI K 210000 f2)] sz) := by
  refine z_met (Qc := fun A => (va_Qv (fun _ : Nat → Nat => True) (zB K A (fun u : Nat → Nat => [(a0, zO 10 83 (va_up g0 54 (.int 2))), (a1, zI K 210000 (va_up f1 1 0)), (a2, zI K 210000 (va_up f2 1 1))])) A)) (by decide +kernel) (Nat.le_of_ble_eq_true rfl) ?_
  intro p e s m args below meth c A ls H hx hb hr hg hown hlocks hml hin hK hP hD hA hS hZ hl
  have hown : s.vm.findClass RX12 = some m.cls := hown
  have hl : lv_has ls 2 [(0, .ref a0), (1, .int 1)] := hl
  refine lv_iload_n hx hb dX12_reaches_0 rfl (lv_at hl 1 rfl) ?_
  refine lv_iconst (v := (-1)) hx hb dX12_reaches_1 (by decide) ?_
  refine lv_icmp_eq (tgt := 42) hx hb dX12_reaches_2 (by decide) (fun c => absurd c (by decide)) (fun _ => ?_)
  refine lv_aload_n hx hb dX12_reaches_5 rfl (lv_at hl 0 rfl) ?_
  refine z_get (v := .ref a1) hx hb hg hown hK hP i_X12 rfl 0 rfl 52 (by decide) mt1332 e0 dX12_reaches_6 ?_
  refine lv_iload_n hx hb dX12_reaches_9 rfl (lv_at hl 1 rfl) ?_
  refine z_iald (v := (-1)) (j := 1) hx hb hK hP 1 rfl rfl (Nat.le_of_ble_eq_true rfl) (Nat.le_of_ble_eq_true rfl) e1 dX12_reaches_10 ?_
  refine lv_iconst (v := (-1)) hx hb dX12_reaches_11 (by decide) ?_
  refine lv_icmp_ne (tgt := 42) hx hb dX12_reaches_12 (by decide) (fun c => absurd (by decide) c) (fun _ => ?_)
  refine lv_aload_n hx hb dX12_reaches_15 rfl (lv_at hl 0 rfl) ?_
  refine z_get (v := .ref a1) hx hb hg hown hK hP i_X12 rfl 0 rfl 52 (by decide) mt1332 e0 dX12_reaches_16 ?_
  refine lv_iload_n hx hb dX12_reaches_19 rfl (lv_at hl 1 rfl) ?_
  refine lv_iconst (v := 0) hx hb dX12_reaches_20 (by decide) ?_
  refine z_iast (j := 1) hx hb hK hP hD hS 1 rfl rfl (Nat.le_of_ble_eq_true rfl) (Nat.le_of_ble_eq_true rfl) dX12_reaches_21 (fun ff1 H locs y2 hP hD hS => ?_)
  have hP : va_P K.1 classes [(a0, zO 10 83 g0), (a1, zI K 210000 ff1), (a2, zI K 210000 f2)] H := hP
  have hD : va_D A [(a0, zO 10 83 g0), (a1, zI K 210000 ff1), (a2, zI K 210000 f2)] := hD
  refine lv_aload_n hx hb dX12_reaches_22 rfl (lv_at hl 0 rfl) ?_
  refine z_get (v := .ref a2) hx hb hg hown hK hP i_X12 rfl 0 rfl 53 (by decide) mt1333 e2 dX12_reaches_23 ?_
  refine lv_aload_n hx hb dX12_reaches_26 rfl (lv_at hl 0 rfl) ?_
  refine z_get (v := .int 1) hx hb hg hown hK hP i_X12 rfl 0 rfl 54 (by decide) mt1334 e3 dX12_reaches_27 ?_
  refine lv_iload_n hx hb dX12_reaches_30 rfl (lv_at hl 1 rfl) ?_
  refine z_iast (j := 1) hx hb hK hP hD hS 2 rfl rfl (Nat.le_of_ble_eq_true rfl) (Nat.le_of_ble_eq_true rfl) dX12_reaches_31 (fun ff3 H locs y4 hP hD hS => ?_)
  have hP : va_P K.1 classes [(a0, zO 10 83 g0), (a1, zI K 210000 ff1), (a2, zI K 210000 ff3)] H := hP
  have hD : va_D A [(a0, zO 10 83 g0), (a1, zI K 210000 ff1), (a2, zI K 210000 ff3)] := hD
  refine lv_aload_n hx hb dX12_reaches_32 rfl (lv_at hl 0 rfl) ?_
  refine lv_dup hx hb dX12_reaches_33 rfl ?_
  refine z_get (v := .int 1) hx hb hg hown hK hP i_X12 rfl 0 rfl 54 (by decide) mt1334 e3 dX12_reaches_34 ?_
  refine lv_iconst (v := 1) hx hb dX12_reaches_37 (by decide) ?_
  refine lv_iadd hx hb dX12_reaches_38 ?_
  refine z_cst (v := 2) (by decide +kernel) ?_
  refine z_put hx hb hg hown hK hP hD hS i_X12 rfl tyX12_ok nmX12 0 rfl 54 (by decide) mt1334 rfl rfl rfl dX12_reaches_39 (fun gg5 H locs y6 hP hD hS => ?_)
  have hP : va_P K.1 classes [(a0, zO 10 83 gg5), (a1, zI K 210000 ff1), (a2, zI K 210000 ff3)] H := hP
  have hD : va_D A [(a0, zO 10 83 gg5), (a1, zI K 210000 ff1), (a2, zI K 210000 ff3)] := hD
  subst y6
  subst y4
  subst y2
  have hP9 : va_P K.1 classes [(a0, zO 10 83 (va_up g0 54 (.int 2))), (a1, zI K 210000 (va_up f1 1 0)), (a2, zI K 210000 (va_up f2 1 1))] H := hP.sub [0, 1, 2] rfl
  have hD9 : va_D A [(a0, zO 10 83 (va_up g0 54 (.int 2))), (a1, zI K 210000 (va_up f1 1 0)), (a2, zI K 210000 (va_up f2 1 1))] := hD.sub [0, 1, 2] (by decide) rfl
  exact z_vret hx hb hr (fun _ => 0) trivial hP9 hD9 hS (Nat.le_of_ble_eq_true rfl) (Nat.le_of_ble_eq_true rfl) hlocks dX12_reaches_42
set_option maxHeartbeats 4000000 in
set_option maxRecDepth 100000 in
theorem cX12_reaches_3 (l : Launch) (K : zK) (sz : Nat) (a0 : Nat) (a1 : Nat) (a2 : Nat) (g0 : Nat → Value) (f1 : Nat → Int32) (f2 : Nat → Int32) (e0 : g0 52 = (.ref a1)) (e1 : f1 2 = (-1)) (e2 : g0 53 = (.ref a2)) (e3 : g0 54 = (.int 2)) : Met l yX12_reaches (Cond.code yX12_reaches cX12_reaches 2 none :: WG) { frames := 0, cells := 0, slots := 0, locals := 0 } (zPre K [(a0, zO 10 83 g0), (a1, zI K 210000 f1), (a2, zI K 210000 f2)] sz [.ref a0, .int 2]) (va_Qv (fun _ : Nat → Nat => True) (zB K (va_A [(a0, zO 10 83 g0), (a1, zI K 210000 f1), (a2, zI K 210000 f2)] sz) (fun u : Nat → Nat => [(a0, zO 10 83 (va_up g0 54 (.int 3))), (a1, zI K 210000 (va_up f1 2 0)), (a2, zI K 210000 (va_up f2 2 2))])) (va_A [(a0, zO 10 83 g0), (a1, zI K 210000 f1), (a2, zI K 210000 f2)] sz)) 0 0 (va_A [(a0, zO 10 83 g0), (a1, zI K 210000 f1), (a2, zI K 210000 f2)] sz) := by
  refine z_met (Qc := fun A => (va_Qv (fun _ : Nat → Nat => True) (zB K A (fun u : Nat → Nat => [(a0, zO 10 83 (va_up g0 54 (.int 3))), (a1, zI K 210000 (va_up f1 2 0)), (a2, zI K 210000 (va_up f2 2 2))])) A)) (by decide +kernel) (Nat.le_of_ble_eq_true rfl) ?_
  intro p e s m args below meth c A ls H hx hb hr hg hown hlocks hml hin hK hP hD hA hS hZ hl
  have hown : s.vm.findClass RX12 = some m.cls := hown
  have hl : lv_has ls 2 [(0, .ref a0), (1, .int 2)] := hl
  refine lv_iload_n hx hb dX12_reaches_0 rfl (lv_at hl 1 rfl) ?_
  refine lv_iconst (v := (-1)) hx hb dX12_reaches_1 (by decide) ?_
  refine lv_icmp_eq (tgt := 42) hx hb dX12_reaches_2 (by decide) (fun c => absurd c (by decide)) (fun _ => ?_)
  refine lv_aload_n hx hb dX12_reaches_5 rfl (lv_at hl 0 rfl) ?_
  refine z_get (v := .ref a1) hx hb hg hown hK hP i_X12 rfl 0 rfl 52 (by decide) mt1332 e0 dX12_reaches_6 ?_
  refine lv_iload_n hx hb dX12_reaches_9 rfl (lv_at hl 1 rfl) ?_
  refine z_iald (v := (-1)) (j := 2) hx hb hK hP 1 rfl rfl (Nat.le_of_ble_eq_true rfl) (Nat.le_of_ble_eq_true rfl) e1 dX12_reaches_10 ?_
  refine lv_iconst (v := (-1)) hx hb dX12_reaches_11 (by decide) ?_
  refine lv_icmp_ne (tgt := 42) hx hb dX12_reaches_12 (by decide) (fun c => absurd (by decide) c) (fun _ => ?_)
  refine lv_aload_n hx hb dX12_reaches_15 rfl (lv_at hl 0 rfl) ?_
  refine z_get (v := .ref a1) hx hb hg hown hK hP i_X12 rfl 0 rfl 52 (by decide) mt1332 e0 dX12_reaches_16 ?_
  refine lv_iload_n hx hb dX12_reaches_19 rfl (lv_at hl 1 rfl) ?_
  refine lv_iconst (v := 0) hx hb dX12_reaches_20 (by decide) ?_
  refine z_iast (j := 2) hx hb hK hP hD hS 1 rfl rfl (Nat.le_of_ble_eq_true rfl) (Nat.le_of_ble_eq_true rfl) dX12_reaches_21 (fun ff1 H locs y2 hP hD hS => ?_)
  have hP : va_P K.1 classes [(a0, zO 10 83 g0), (a1, zI K 210000 ff1), (a2, zI K 210000 f2)] H := hP
  have hD : va_D A [(a0, zO 10 83 g0), (a1, zI K 210000 ff1), (a2, zI K 210000 f2)] := hD
  refine lv_aload_n hx hb dX12_reaches_22 rfl (lv_at hl 0 rfl) ?_
  refine z_get (v := .ref a2) hx hb hg hown hK hP i_X12 rfl 0 rfl 53 (by decide) mt1333 e2 dX12_reaches_23 ?_
  refine lv_aload_n hx hb dX12_reaches_26 rfl (lv_at hl 0 rfl) ?_
  refine z_get (v := .int 2) hx hb hg hown hK hP i_X12 rfl 0 rfl 54 (by decide) mt1334 e3 dX12_reaches_27 ?_
  refine lv_iload_n hx hb dX12_reaches_30 rfl (lv_at hl 1 rfl) ?_
  refine z_iast (j := 2) hx hb hK hP hD hS 2 rfl rfl (Nat.le_of_ble_eq_true rfl) (Nat.le_of_ble_eq_true rfl) dX12_reaches_31 (fun ff3 H locs y4 hP hD hS => ?_)
  have hP : va_P K.1 classes [(a0, zO 10 83 g0), (a1, zI K 210000 ff1), (a2, zI K 210000 ff3)] H := hP
  have hD : va_D A [(a0, zO 10 83 g0), (a1, zI K 210000 ff1), (a2, zI K 210000 ff3)] := hD
  refine lv_aload_n hx hb dX12_reaches_32 rfl (lv_at hl 0 rfl) ?_
  refine lv_dup hx hb dX12_reaches_33 rfl ?_
  refine z_get (v := .int 2) hx hb hg hown hK hP i_X12 rfl 0 rfl 54 (by decide) mt1334 e3 dX12_reaches_34 ?_
  refine lv_iconst (v := 1) hx hb dX12_reaches_37 (by decide) ?_
  refine lv_iadd hx hb dX12_reaches_38 ?_
  refine z_cst (v := 3) (by decide +kernel) ?_
  refine z_put hx hb hg hown hK hP hD hS i_X12 rfl tyX12_ok nmX12 0 rfl 54 (by decide) mt1334 rfl rfl rfl dX12_reaches_39 (fun gg5 H locs y6 hP hD hS => ?_)
  have hP : va_P K.1 classes [(a0, zO 10 83 gg5), (a1, zI K 210000 ff1), (a2, zI K 210000 ff3)] H := hP
  have hD : va_D A [(a0, zO 10 83 gg5), (a1, zI K 210000 ff1), (a2, zI K 210000 ff3)] := hD
  subst y6
  subst y4
  subst y2
  have hP9 : va_P K.1 classes [(a0, zO 10 83 (va_up g0 54 (.int 3))), (a1, zI K 210000 (va_up f1 2 0)), (a2, zI K 210000 (va_up f2 2 2))] H := hP.sub [0, 1, 2] rfl
  have hD9 : va_D A [(a0, zO 10 83 (va_up g0 54 (.int 3))), (a1, zI K 210000 (va_up f1 2 0)), (a2, zI K 210000 (va_up f2 2 2))] := hD.sub [0, 1, 2] (by decide) rfl
  exact z_vret hx hb hr (fun _ => 0) trivial hP9 hD9 hS (Nat.le_of_ble_eq_true rfl) (Nat.le_of_ble_eq_true rfl) hlocks dX12_reaches_42
set_option maxHeartbeats 4000000 in
set_option maxRecDepth 100000 in
theorem cX12_reaches_4 (l : Launch) (K : zK) (sz : Nat) (a0 : Nat) (a1 : Nat) (a2 : Nat) (g0 : Nat → Value) (f1 : Nat → Int32) (f2 : Nat → Int32) (e0 : g0 52 = (.ref a1)) (e1 : f1 3 = (-1)) (e2 : g0 53 = (.ref a2)) (e3 : g0 54 = (.int 3)) : Met l yX12_reaches (Cond.code yX12_reaches cX12_reaches 2 none :: WG) { frames := 0, cells := 0, slots := 0, locals := 0 } (zPre K [(a0, zO 10 83 g0), (a1, zI K 210000 f1), (a2, zI K 210000 f2)] sz [.ref a0, .int 3]) (va_Qv (fun _ : Nat → Nat => True) (zB K (va_A [(a0, zO 10 83 g0), (a1, zI K 210000 f1), (a2, zI K 210000 f2)] sz) (fun u : Nat → Nat => [(a0, zO 10 83 (va_up g0 54 (.int 4))), (a1, zI K 210000 (va_up f1 3 0)), (a2, zI K 210000 (va_up f2 3 3))])) (va_A [(a0, zO 10 83 g0), (a1, zI K 210000 f1), (a2, zI K 210000 f2)] sz)) 0 0 (va_A [(a0, zO 10 83 g0), (a1, zI K 210000 f1), (a2, zI K 210000 f2)] sz) := by
  refine z_met (Qc := fun A => (va_Qv (fun _ : Nat → Nat => True) (zB K A (fun u : Nat → Nat => [(a0, zO 10 83 (va_up g0 54 (.int 4))), (a1, zI K 210000 (va_up f1 3 0)), (a2, zI K 210000 (va_up f2 3 3))])) A)) (by decide +kernel) (Nat.le_of_ble_eq_true rfl) ?_
  intro p e s m args below meth c A ls H hx hb hr hg hown hlocks hml hin hK hP hD hA hS hZ hl
  have hown : s.vm.findClass RX12 = some m.cls := hown
  have hl : lv_has ls 2 [(0, .ref a0), (1, .int 3)] := hl
  refine lv_iload_n hx hb dX12_reaches_0 rfl (lv_at hl 1 rfl) ?_
  refine lv_iconst (v := (-1)) hx hb dX12_reaches_1 (by decide) ?_
  refine lv_icmp_eq (tgt := 42) hx hb dX12_reaches_2 (by decide) (fun c => absurd c (by decide)) (fun _ => ?_)
  refine lv_aload_n hx hb dX12_reaches_5 rfl (lv_at hl 0 rfl) ?_
  refine z_get (v := .ref a1) hx hb hg hown hK hP i_X12 rfl 0 rfl 52 (by decide) mt1332 e0 dX12_reaches_6 ?_
  refine lv_iload_n hx hb dX12_reaches_9 rfl (lv_at hl 1 rfl) ?_
  refine z_iald (v := (-1)) (j := 3) hx hb hK hP 1 rfl rfl (Nat.le_of_ble_eq_true rfl) (Nat.le_of_ble_eq_true rfl) e1 dX12_reaches_10 ?_
  refine lv_iconst (v := (-1)) hx hb dX12_reaches_11 (by decide) ?_
  refine lv_icmp_ne (tgt := 42) hx hb dX12_reaches_12 (by decide) (fun c => absurd (by decide) c) (fun _ => ?_)
  refine lv_aload_n hx hb dX12_reaches_15 rfl (lv_at hl 0 rfl) ?_
  refine z_get (v := .ref a1) hx hb hg hown hK hP i_X12 rfl 0 rfl 52 (by decide) mt1332 e0 dX12_reaches_16 ?_
  refine lv_iload_n hx hb dX12_reaches_19 rfl (lv_at hl 1 rfl) ?_
  refine lv_iconst (v := 0) hx hb dX12_reaches_20 (by decide) ?_
  refine z_iast (j := 3) hx hb hK hP hD hS 1 rfl rfl (Nat.le_of_ble_eq_true rfl) (Nat.le_of_ble_eq_true rfl) dX12_reaches_21 (fun ff1 H locs y2 hP hD hS => ?_)
  have hP : va_P K.1 classes [(a0, zO 10 83 g0), (a1, zI K 210000 ff1), (a2, zI K 210000 f2)] H := hP
  have hD : va_D A [(a0, zO 10 83 g0), (a1, zI K 210000 ff1), (a2, zI K 210000 f2)] := hD
  refine lv_aload_n hx hb dX12_reaches_22 rfl (lv_at hl 0 rfl) ?_
  refine z_get (v := .ref a2) hx hb hg hown hK hP i_X12 rfl 0 rfl 53 (by decide) mt1333 e2 dX12_reaches_23 ?_
  refine lv_aload_n hx hb dX12_reaches_26 rfl (lv_at hl 0 rfl) ?_
  refine z_get (v := .int 3) hx hb hg hown hK hP i_X12 rfl 0 rfl 54 (by decide) mt1334 e3 dX12_reaches_27 ?_
  refine lv_iload_n hx hb dX12_reaches_30 rfl (lv_at hl 1 rfl) ?_
  refine z_iast (j := 3) hx hb hK hP hD hS 2 rfl rfl (Nat.le_of_ble_eq_true rfl) (Nat.le_of_ble_eq_true rfl) dX12_reaches_31 (fun ff3 H locs y4 hP hD hS => ?_)
  have hP : va_P K.1 classes [(a0, zO 10 83 g0), (a1, zI K 210000 ff1), (a2, zI K 210000 ff3)] H := hP
  have hD : va_D A [(a0, zO 10 83 g0), (a1, zI K 210000 ff1), (a2, zI K 210000 ff3)] := hD
  refine lv_aload_n hx hb dX12_reaches_32 rfl (lv_at hl 0 rfl) ?_
  refine lv_dup hx hb dX12_reaches_33 rfl ?_
  refine z_get (v := .int 3) hx hb hg hown hK hP i_X12 rfl 0 rfl 54 (by decide) mt1334 e3 dX12_reaches_34 ?_
  refine lv_iconst (v := 1) hx hb dX12_reaches_37 (by decide) ?_
  refine lv_iadd hx hb dX12_reaches_38 ?_
  refine z_cst (v := 4) (by decide +kernel) ?_
  refine z_put hx hb hg hown hK hP hD hS i_X12 rfl tyX12_ok nmX12 0 rfl 54 (by decide) mt1334 rfl rfl rfl dX12_reaches_39 (fun gg5 H locs y6 hP hD hS => ?_)
  have hP : va_P K.1 classes [(a0, zO 10 83 gg5), (a1, zI K 210000 ff1), (a2, zI K 210000 ff3)] H := hP
  have hD : va_D A [(a0, zO 10 83 gg5), (a1, zI K 210000 ff1), (a2, zI K 210000 ff3)] := hD
  subst y6
  subst y4
  subst y2
  have hP9 : va_P K.1 classes [(a0, zO 10 83 (va_up g0 54 (.int 4))), (a1, zI K 210000 (va_up f1 3 0)), (a2, zI K 210000 (va_up f2 3 3))] H := hP.sub [0, 1, 2] rfl
  have hD9 : va_D A [(a0, zO 10 83 (va_up g0 54 (.int 4))), (a1, zI K 210000 (va_up f1 3 0)), (a2, zI K 210000 (va_up f2 3 3))] := hD.sub [0, 1, 2] (by decide) rfl
  exact z_vret hx hb hr (fun _ => 0) trivial hP9 hD9 hS (Nat.le_of_ble_eq_true rfl) (Nat.le_of_ble_eq_true rfl) hlocks dX12_reaches_42
set_option maxHeartbeats 4000000 in
set_option maxRecDepth 100000 in
theorem cX12_reaches_5 (l : Launch) (K : zK) (sz : Nat) (a0 : Nat) (a1 : Nat) (a2 : Nat) (g0 : Nat → Value) (f1 : Nat → Int32) (f2 : Nat → Int32) (e0 : g0 52 = (.ref a1)) (e1 : f1 4 = (-1)) (e2 : g0 53 = (.ref a2)) (e3 : g0 54 = (.int 4)) : Met l yX12_reaches (Cond.code yX12_reaches cX12_reaches 2 none :: WG) { frames := 0, cells := 0, slots := 0, locals := 0 } (zPre K [(a0, zO 10 83 g0), (a1, zI K 210000 f1), (a2, zI K 210000 f2)] sz [.ref a0, .int 4]) (va_Qv (fun _ : Nat → Nat => True) (zB K (va_A [(a0, zO 10 83 g0), (a1, zI K 210000 f1), (a2, zI K 210000 f2)] sz) (fun u : Nat → Nat => [(a0, zO 10 83 (va_up g0 54 (.int 5))), (a1, zI K 210000 (va_up f1 4 0)), (a2, zI K 210000 (va_up f2 4 4))])) (va_A [(a0, zO 10 83 g0), (a1, zI K 210000 f1), (a2, zI K 210000 f2)] sz)) 0 0 (va_A [(a0, zO 10 83 g0), (a1, zI K 210000 f1), (a2, zI K 210000 f2)] sz) := by
  refine z_met (Qc := fun A => (va_Qv (fun _ : Nat → Nat => True) (zB K A (fun u : Nat → Nat => [(a0, zO 10 83 (va_up g0 54 (.int 5))), (a1, zI K 210000 (va_up f1 4 0)), (a2, zI K 210000 (va_up f2 4 4))])) A)) (by decide +kernel) (Nat.le_of_ble_eq_true rfl) ?_
  intro p e s m args below meth c A ls H hx hb hr hg hown hlocks hml hin hK hP hD hA hS hZ hl
  have hown : s.vm.findClass RX12 = some m.cls := hown
  have hl : lv_has ls 2 [(0, .ref a0), (1, .int 4)] := hl
  refine lv_iload_n hx hb dX12_reaches_0 rfl (lv_at hl 1 rfl) ?_
  refine lv_iconst (v := (-1)) hx hb dX12_reaches_1 (by decide) ?_
  refine lv_icmp_eq (tgt := 42) hx hb dX12_reaches_2 (by decide) (fun c => absurd c (by decide)) (fun _ => ?_)
  refine lv_aload_n hx hb dX12_reaches_5 rfl (lv_at hl 0 rfl) ?_
  refine z_get (v := .ref a1) hx hb hg hown hK hP i_X12 rfl 0 rfl 52 (by decide) mt1332 e0 dX12_reaches_6 ?_
  refine lv_iload_n hx hb dX12_reaches_9 rfl (lv_at hl 1 rfl) ?_
  refine z_iald (v := (-1)) (j := 4) hx hb hK hP 1 rfl rfl (Nat.le_of_ble_eq_true rfl) (Nat.le_of_ble_eq_true rfl) e1 dX12_reaches_10 ?_
  refine lv_iconst (v := (-1)) hx hb dX12_reaches_11 (by decide) ?_
  refine lv_icmp_ne (tgt := 42) hx hb dX12_reaches_12 (by decide) (fun c => absurd (by decide) c) (fun _ => ?_)
  refine lv_aload_n hx hb dX12_reaches_15 rfl (lv_at hl 0 rfl) ?_
  refine z_get (v := .ref a1) hx hb hg hown hK hP i_X12 rfl 0 rfl 52 (by decide) mt1332 e0 dX12_reaches_16 ?_
  refine lv_iload_n hx hb dX12_reaches_19 rfl (lv_at hl 1 rfl) ?_
  refine lv_iconst (v := 0) hx hb dX12_reaches_20 (by decide) ?_
  refine z_iast (j := 4) hx hb hK hP hD hS 1 rfl rfl (Nat.le_of_ble_eq_true rfl) (Nat.le_of_ble_eq_true rfl) dX12_reaches_21 (fun ff1 H locs y2 hP hD hS => ?_)
  have hP : va_P K.1 classes [(a0, zO 10 83 g0), (a1, zI K 210000 ff1), (a2, zI K 210000 f2)] H := hP
  have hD : va_D A [(a0, zO 10 83 g0), (a1, zI K 210000 ff1), (a2, zI K 210000 f2)] := hD
  refine lv_aload_n hx hb dX12_reaches_22 rfl (lv_at hl 0 rfl) ?_
  refine z_get (v := .ref a2) hx hb hg hown hK hP i_X12 rfl 0 rfl 53 (by decide) mt1333 e2 dX12_reaches_23 ?_
  refine lv_aload_n hx hb dX12_reaches_26 rfl (lv_at hl 0 rfl) ?_
  refine z_get (v := .int 4) hx hb hg hown hK hP i_X12 rfl 0 rfl 54 (by decide) mt1334 e3 dX12_reaches_27 ?_
  refine lv_iload_n hx hb dX12_reaches_30 rfl (lv_at hl 1 rfl) ?_
  refine z_iast (j := 4) hx hb hK hP hD hS 2 rfl rfl (Nat.le_of_ble_eq_true rfl) (Nat.le_of_ble_eq_true rfl) dX12_reaches_31 (fun ff3 H locs y4 hP hD hS => ?_)
  have hP : va_P K.1 classes [(a0, zO 10 83 g0), (a1, zI K 210000 ff1), (a2, zI K 210000 ff3)] H := hP
  have hD : va_D A [(a0, zO 10 83 g0), (a1, zI K 210000 ff1), (a2, zI K 210000 ff3)] := hD
  refine lv_aload_n hx hb dX12_reaches_32 rfl (lv_at hl 0 rfl) ?_
  refine lv_dup hx hb dX12_reaches_33 rfl ?_
  refine z_get (v := .int 4) hx hb hg hown hK hP i_X12 rfl 0 rfl 54 (by decide) mt1334 e3 dX12_reaches_34 ?_
  refine lv_iconst (v := 1) hx hb dX12_reaches_37 (by decide) ?_
  refine lv_iadd hx hb dX12_reaches_38 ?_
  refine z_cst (v := 5) (by decide +kernel) ?_
  refine z_put hx hb hg hown hK hP hD hS i_X12 rfl tyX12_ok nmX12 0 rfl 54 (by decide) mt1334 rfl rfl rfl dX12_reaches_39 (fun gg5 H locs y6 hP hD hS => ?_)
  have hP : va_P K.1 classes [(a0, zO 10 83 gg5), (a1, zI K 210000 ff1), (a2, zI K 210000 ff3)] H := hP
  have hD : va_D A [(a0, zO 10 83 gg5), (a1, zI K 210000 ff1), (a2, zI K 210000 ff3)] := hD
  subst y6
  subst y4
  subst y2
  have hP9 : va_P K.1 classes [(a0, zO 10 83 (va_up g0 54 (.int 5))), (a1, zI K 210000 (va_up f1 4 0)), (a2, zI K 210000 (va_up f2 4 4))] H := hP.sub [0, 1, 2] rfl
  have hD9 : va_D A [(a0, zO 10 83 (va_up g0 54 (.int 5))), (a1, zI K 210000 (va_up f1 4 0)), (a2, zI K 210000 (va_up f2 4 4))] := hD.sub [0, 1, 2] (by decide) rfl
  exact z_vret hx hb hr (fun _ => 0) trivial hP9 hD9 hS (Nat.le_of_ble_eq_true rfl) (Nat.le_of_ble_eq_true rfl) hlocks dX12_reaches_42
set_option maxHeartbeats 4000000 in
set_option maxRecDepth 100000 in
theorem cX12_reaches_6 (l : Launch) (K : zK) (sz : Nat) (a0 : Nat) (a1 : Nat) (a2 : Nat) (g0 : Nat → Value) (f1 : Nat → Int32) (f2 : Nat → Int32) (e0 : g0 52 = (.ref a1)) (e1 : f1 5 = (-1)) (e2 : g0 53 = (.ref a2)) (e3 : g0 54 = (.int 5)) : Met l yX12_reaches (Cond.code yX12_reaches cX12_reaches 2 none :: WG) { frames := 0, cells := 0, slots := 0, locals := 0 } (zPre K [(a0, zO 10 83 g0), (a1, zI K 210000 f1), (a2, zI K 210000 f2)] sz [.ref a0, .int 5]) (va_Qv (fun _ : Nat → Nat => True) (zB K (va_A [(a0, zO 10 83 g0), (a1, zI K 210000 f1), (a2, zI K 210000 f2)] sz) (fun u : Nat → Nat => [(a0, zO 10 83 (va_up g0 54 (.int 6))), (a1, zI K 210000 (va_up f1 5 0)), (a2, zI K 210000 (va_up f2 5 5))])) (va_A [(a0, zO 10 83 g0), (a1, zI K 210000 f1), (a2, zI K 210000 f2)] sz)) 0 0 (va_A [(a0, zO 10 83 g0), (a1, zI K 210000 f1), (a2, zI K 210000 f2)] sz) := by
  refine z_met (Qc := fun A => (va_Qv (fun _ : Nat → Nat => True) (zB K A (fun u : Nat → Nat => [(a0, zO 10 83 (va_up g0 54 (.int 6))), (a1, zI K 210000 (va_up f1 5 0)), (a2, zI K 210000 (va_up f2 5 5))])) A)) (by decide +kernel) (Nat.le_of_ble_eq_true rfl) ?_
  intro p e s m args below meth c A ls H hx hb hr hg hown hlocks hml hin hK hP hD hA hS hZ hl
  have hown : s.vm.findClass RX12 = some m.cls := hown
  have hl : lv_has ls 2 [(0, .ref a0), (1, .int 5)] := hl
  refine lv_iload_n hx hb dX12_reaches_0 rfl (lv_at hl 1 rfl) ?_
  refine lv_iconst (v := (-1)) hx hb dX12_reaches_1 (by decide) ?_
  refine lv_icmp_eq (tgt := 42) hx hb dX12_reaches_2 (by decide) (fun c => absurd c (by decide)) (fun _ => ?_)
  refine lv_aload_n hx hb dX12_reaches_5 rfl (lv_at hl 0 rfl) ?_
  refine z_get (v := .ref a1) hx hb hg hown hK hP i_X12 rfl 0 rfl 52 (by decide) mt1332 e0 dX12_reaches_6 ?_
  refine lv_iload_n hx hb dX12_reaches_9 rfl (lv_at hl 1 rfl) ?_
  refine z_iald (v := (-1)) (j := 5) hx hb hK hP 1 rfl rfl (Nat.le_of_ble_eq_true rfl) (Nat.le_of_ble_eq_true rfl) e1 dX12_reaches_10 ?_
  refine lv_iconst (v := (-1)) hx hb dX12_reaches_11 (by decide) ?_
  refine lv_icmp_ne (tgt := 42) hx hb dX12_reaches_12 (by decide) (fun c => absurd (by decide) c) (fun _ => ?_)
  refine lv_aload_n hx hb dX12_reaches_15 rfl (lv_at hl 0 rfl) ?_
  refine z_get (v := .ref a1) hx hb hg hown hK hP i_X12 rfl 0 rfl 52 (by decide) mt1332 e0 dX12_reaches_16 ?_
  refine lv_iload_n hx hb dX12_reaches_19 rfl (lv_at hl 1 rfl) ?_
  refine lv_iconst (v := 0) hx hb dX12_reaches_20 (by decide) ?_
  refine z_iast (j := 5) hx hb hK hP hD hS 1 rfl rfl (Nat.le_of_ble_eq_true rfl) (Nat.le_of_ble_eq_true rfl) dX12_reaches_21 (fun ff1 H locs y2 hP hD hS => ?_)
  have hP : va_P K.1 classes [(a0, zO 10 83 g0), (a1, zI K 210000 ff1), (a2, zI K 210000 f2)] H := hP
  have hD : va_D A [(a0, zO 10 83 g0), (a1, zI K 210000 ff1), (a2, zI K 210000 f2)] := hD
  refine lv_aload_n hx hb dX12_reaches_22 rfl (lv_at hl 0 rfl) ?_
  refine z_get (v := .ref a2) hx hb hg hown hK hP i_X12 rfl 0 rfl 53 (by decide) mt1333 e2 dX12_reaches_23 ?_
  refine lv_aload_n hx hb dX12_reaches_26 rfl (lv_at hl 0 rfl) ?_
  refine z_get (v := .int 5) hx hb hg hown hK hP i_X12 rfl 0 rfl 54 (by decide) mt1334 e3 dX12_reaches_27 ?_
  refine lv_iload_n hx hb dX12_reaches_30 rfl (lv_at hl 1 rfl) ?_
  refine z_iast (j := 5) hx hb hK hP hD hS 2 rfl rfl (Nat.le_of_ble_eq_true rfl) (Nat.le_of_ble_eq_true rfl) dX12_reaches_31 (fun ff3 H locs y4 hP hD hS => ?_)
  have hP : va_P K.1 classes [(a0, zO 10 83 g0), (a1, zI K 210000 ff1), (a2, zI K 210000 ff3)] H := hP
  have hD : va_D A [(a0, zO 10 83 g0), (a1, zI K 210000 ff1), (a2, zI K 210000 ff3)] := hD
  refine lv_aload_n hx hb dX12_reaches_32 rfl (lv_at hl 0 rfl) ?_
  refine lv_dup hx hb dX12_reaches_33 rfl ?_
  refine z_get (v := .int 5) hx hb hg hown hK hP i_X12 rfl 0 rfl 54 (by decide) mt1334 e3 dX12_reaches_34 ?_
  refine lv_iconst (v := 1) hx hb dX12_reaches_37 (by decide) ?_
  refine lv_iadd hx hb dX12_reaches_38 ?_
  refine z_cst (v := 6) (by decide +kernel) ?_
  refine z_put hx hb hg hown hK hP hD hS i_X12 rfl tyX12_ok nmX12 0 rfl 54 (by decide) mt1334 rfl rfl rfl dX12_reaches_39 (fun gg5 H locs y6 hP hD hS => ?_)
  have hP : va_P K.1 classes [(a0, zO 10 83 gg5), (a1, zI K 210000 ff1), (a2, zI K 210000 ff3)] H := hP
  have hD : va_D A [(a0, zO 10 83 gg5), (a1, zI K 210000 ff1), (a2, zI K 210000 ff3)] := hD
  subst y6
  subst y4
  subst y2
  have hP9 : va_P K.1 classes [(a0, zO 10 83 (va_up g0 54 (.int 6))), (a1, zI K 210000 (va_up f1 5 0)), (a2, zI K 210000 (va_up f2 5 5))] H := hP.sub [0, 1, 2] rfl
  have hD9 : va_D A [(a0, zO 10 83 (va_up g0 54 (.int 6))), (a1, zI K 210000 (va_up f1 5 0)), (a2, zI K 210000 (va_up f2 5 5))] := hD.sub [0, 1, 2] (by decide) rfl
  exact z_vret hx hb hr (fun _ => 0) trivial hP9 hD9 hS (Nat.le_of_ble_eq_true rfl) (Nat.le_of_ble_eq_true rfl) hlocks dX12_reaches_42
set_option maxHeartbeats 4000000 in
set_option maxRecDepth 100000 in
theorem cX12_reaches_7 (l : Launch) (K : zK) (sz : Nat) (a0 : Nat) (a1 : Nat) (a2 : Nat) (g0 : Nat → Value) (f1 : Nat → Int32) (f2 : Nat → Int32) (e0 : g0 52 = (.ref a1)) (e1 : f1 6 = (-1)) (e2 : g0 53 = (.ref a2)) (e3 : g0 54 = (.int 6)) : Met l yX12_reaches (Cond.code yX12_reaches cX12_reaches 2 none :: WG) { frames := 0, cells := 0, slots := 0, locals := 0 } (zPre K [(a0, zO 10 83 g0), (a1, zI K 210000 f1), (a2, zI K 210000 f2)] sz [.ref a0, .int 6]) (va_Qv (fun _ : Nat → Nat => True) (zB K (va_A [(a0, zO 10 83 g0), (a1, zI K 210000 f1), (a2, zI K 210000 f2)] sz) (fun u : Nat → Nat => [(a0, zO 10 83 (va_up g0 54 (.int 7))), (a1, zI K 210000 (va_up f1 6 0)), (a2, zI K 210000 (va_up f2 6 6))])) (va_A [(a0, zO 10 83 g0), (a1, zI K 210000 f1), (a2, zI K 210000 f2)] sz)) 0 0 (va_A [(a0, zO 10 83 g0), (a1, zI K 210000 f1), (a2, zI K 210000 f2)] sz) := by
  refine z_met (Qc := fun A => (va_Qv (fun _ : Nat → Nat => True) (zB K A (fun u : Nat → Nat => [(a0, zO 10 83 (va_up g0 54 (.int 7))), (a1, zI K 210000 (va_up f1 6 0)), (a2, zI K 210000 (va_up f2 6 6))])) A)) (by decide +kernel) (Nat.le_of_ble_eq_true rfl) ?_
  intro p e s m args below meth c A ls H hx hb hr hg hown hlocks hml hin hK hP hD hA hS hZ hl
  have hown : s.vm.findClass RX12 = some m.cls := hown
  have hl : lv_has ls 2 [(0, .ref a0), (1, .int 6)] := hl
  refine lv_iload_n hx hb dX12_reaches_0 rfl (lv_at hl 1 rfl) ?_
  refine lv_iconst (v := (-1)) hx hb dX12_reaches_1 (by decide) ?_
  refine lv_icmp_eq (tgt := 42) hx hb dX12_reaches_2 (by decide) (fun c => absurd c (by decide)) (fun _ => ?_)
  refine lv_aload_n hx hb dX12_reaches_5 rfl (lv_at hl 0 rfl) ?_
  refine z_get (v := .ref a1) hx hb hg hown hK hP i_X12 rfl 0 rfl 52 (by decide) mt1332 e0 dX12_reaches_6 ?_
  refine lv_iload_n hx hb dX12_reaches_9 rfl (lv_at hl 1 rfl) ?_
  refine z_iald (v := (-1)) (j := 6) hx hb hK hP 1 rfl rfl (Nat.le_of_ble_eq_true rfl) (Nat.le_of_ble_eq_true rfl) e1 dX12_reaches_10 ?_
  refine lv_iconst (v := (-1)) hx hb dX12_reaches_11 (by decide) ?_
  refine lv_icmp_ne (tgt := 42) hx hb dX12_reaches_12 (by decide) (fun c => absurd (by decide) c) (fun _ => ?_)
  refine lv_aload_n hx hb dX12_reaches_15 rfl (lv_at hl 0 rfl) ?_
  refine z_get (v := .ref a1) hx hb hg hown hK hP i_X12 rfl 0 rfl 52 (by decide) mt1332 e0 dX12_reaches_16 ?_
  refine lv_iload_n hx hb dX12_reaches_19 rfl (lv_at hl 1 rfl) ?_
  refine lv_iconst (v := 0) hx hb dX12_reaches_20 (by decide) ?_
  refine z_iast (j := 6) hx hb hK hP hD hS 1 rfl rfl (Nat.le_of_ble_eq_true rfl) (Nat.le_of_ble_eq_true rfl) dX12_reaches_21 (fun ff1 H locs y2 hP hD hS => ?_)
  have hP : va_P K.1 classes [(a0, zO 10 83 g0), (a1, zI K 210000 ff1), (a2, zI K 210000 f2)] H := hP
  have hD : va_D A [(a0, zO 10 83 g0), (a1, zI K 210000 ff1), (a2, zI K 210000 f2)] := hD
  refine lv_aload_n hx hb dX12_reaches_22 rfl (lv_at hl 0 rfl) ?_
  refine z_get (v := .ref a2) hx hb hg hown hK hP i_X12 rfl 0 rfl 53 (by decide) mt1333 e2 dX12_reaches_23 ?_
  refine lv_aload_n hx hb dX12_reaches_26 rfl (lv_at hl 0 rfl) ?_
  refine z_get (v := .int 6) hx hb hg hown hK hP i_X12 rfl 0 rfl 54 (by decide) mt1334 e3 dX12_reaches_27 ?_
  refine lv_iload_n hx hb dX12_reaches_30 rfl (lv_at hl 1 rfl) ?_
  refine z_iast (j := 6) hx hb hK hP hD hS 2 rfl rfl (Nat.le_of_ble_eq_true rfl) (Nat.le_of_ble_eq_true rfl) dX12_reaches_31 (fun ff3 H locs y4 hP hD hS => ?_)
  have hP : va_P K.1 classes [(a0, zO 10 83 g0), (a1, zI K 210000 ff1), (a2, zI K 210000 ff3)] H := hP
  have hD : va_D A [(a0, zO 10 83 g0), (a1, zI K 210000 ff1), (a2, zI K 210000 ff3)] := hD
  refine lv_aload_n hx hb dX12_reaches_32 rfl (lv_at hl 0 rfl) ?_
  refine lv_dup hx hb dX12_reaches_33 rfl ?_
  refine z_get (v := .int 6) hx hb hg hown hK hP i_X12 rfl 0 rfl 54 (by decide) mt1334 e3 dX12_reaches_34 ?_
  refine lv_iconst (v := 1) hx hb dX12_reaches_37 (by decide) ?_
  refine lv_iadd hx hb dX12_reaches_38 ?_
  refine z_cst (v := 7) (by decide +kernel) ?_
  refine z_put hx hb hg hown hK hP hD hS i_X12 rfl tyX12_ok nmX12 0 rfl 54 (by decide) mt1334 rfl rfl rfl dX12_reaches_39 (fun gg5 H locs y6 hP hD hS => ?_)
  have hP : va_P K.1 classes [(a0, zO 10 83 gg5), (a1, zI K 210000 ff1), (a2, zI K 210000 ff3)] H := hP
  have hD : va_D A [(a0, zO 10 83 gg5), (a1, zI K 210000 ff1), (a2, zI K 210000 ff3)] := hD
  subst y6
  subst y4
  subst y2
  have hP9 : va_P K.1 classes [(a0, zO 10 83 (va_up g0 54 (.int 7))), (a1, zI K 210000 (va_up f1 6 0)), (a2, zI K 210000 (va_up f2 6 6))] H := hP.sub [0, 1, 2] rfl
  have hD9 : va_D A [(a0, zO 10 83 (va_up g0 54 (.int 7))), (a1, zI K 210000 (va_up f1 6 0)), (a2, zI K 210000 (va_up f2 6 6))] := hD.sub [0, 1, 2] (by decide) rfl
  exact z_vret hx hb hr (fun _ => 0) trivial hP9 hD9 hS (Nat.le_of_ble_eq_true rfl) (Nat.le_of_ble_eq_true rfl) hlocks dX12_reaches_42
set_option maxHeartbeats 4000000 in
set_option maxRecDepth 100000 in
theorem cX12_reaches_8 (l : Launch) (K : zK) (sz : Nat) (a0 : Nat) (a1 : Nat) (a2 : Nat) (g0 : Nat → Value) (f1 : Nat → Int32) (f2 : Nat → Int32) (e0 : g0 52 = (.ref a1)) (e1 : f1 7 = (-1)) (e2 : g0 53 = (.ref a2)) (e3 : g0 54 = (.int 7)) : Met l yX12_reaches (Cond.code yX12_reaches cX12_reaches 2 none :: WG) { frames := 0, cells := 0, slots := 0, locals := 0 } (zPre K [(a0, zO 10 83 g0), (a1, zI K 210000 f1), (a2, zI K 210000 f2)] sz [.ref a0, .int 7]) (va_Qv (fun _ : Nat → Nat => True) (zB K (va_A [(a0, zO 10 83 g0), (a1, zI K 210000 f1), (a2, zI K 210000 f2)] sz) (fun u : Nat → Nat => [(a0, zO 10 83 (va_up g0 54 (.int 8))), (a1, zI K 210000 (va_up f1 7 0)), (a2, zI K 210000 (va_up f2 7 7))])) (va_A [(a0, zO 10 83 g0), (a1, zI K 210000 f1), (a2, zI K 210000 f2)] sz)) 0 0 (va_A [(a0, zO 10 83 g0), (a1, zI K 210000 f1), (a2, zI K 210000 f2)] sz) := by
  refine z_met (Qc := fun A => (va_Qv (fun _ : Nat → Nat => True) (zB K A (fun u : Nat → Nat => [(a0, zO 10 83 (va_up g0 54 (.int 8))), (a1, zI K 210000 (va_up f1 7 0)), (a2, zI K 210000 (va_up f2 7 7))])) A)) (by decide +kernel) (Nat.le_of_ble_eq_true rfl) ?_
  intro p e s m args below meth c A ls H hx hb hr hg hown hlocks hml hin hK hP hD hA hS hZ hl
  have hown : s.vm.findClass RX12 = some m.cls := hown
  have hl : lv_has ls 2 [(0, .ref a0), (1, .int 7)] := hl
  refine lv_iload_n hx hb dX12_reaches_0 rfl (lv_at hl 1 rfl) ?_
  refine lv_iconst (v := (-1)) hx hb dX12_reaches_1 (by decide) ?_
  refine lv_icmp_eq (tgt := 42) hx hb dX12_reaches_2 (by decide) (fun c => absurd c (by decide)) (fun _ => ?_)
  refine lv_aload_n hx hb dX12_reaches_5 rfl (lv_at hl 0 rfl) ?_
  refine z_get (v := .ref a1) hx hb hg hown hK hP i_X12 rfl 0 rfl 52 (by decide) mt1332 e0 dX12_reaches_6 ?_
  refine lv_iload_n hx hb dX12_reaches_9 rfl (lv_at hl 1 rfl) ?_
  refine z_iald (v := (-1)) (j := 7) hx hb hK hP 1 rfl rfl (Nat.le_of_ble_eq_true rfl) (Nat.le_of_ble_eq_true rfl) e1 dX12_reaches_10 ?_
  refine lv_iconst (v := (-1)) hx hb dX12_reaches_11 (by decide) ?_
  refine lv_icmp_ne (tgt := 42) hx hb dX12_reaches_12 (by decide) (fun c => absurd (by decide) c) (fun _ => ?_)
  refine lv_aload_n hx hb dX12_reaches_15 rfl (lv_at hl 0 rfl) ?_
  refine z_get (v := .ref a1) hx hb hg hown hK hP i_X12 rfl 0 rfl 52 (by decide) mt1332 e0 dX12_reaches_16 ?_
  refine lv_iload_n hx hb dX12_reaches_19 rfl (lv_at hl 1 rfl) ?_
  refine lv_iconst (v := 0) hx hb dX12_reaches_20 (by decide) ?_
  refine z_iast (j := 7) hx hb hK hP hD hS 1 rfl rfl (Nat.le_of_ble_eq_true rfl) (Nat.le_of_ble_eq_true rfl) dX12_reaches_21 (fun ff1 H locs y2 hP hD hS => ?_)
  have hP : va_P K.1 classes [(a0, zO 10 83 g0), (a1, zI K 210000 ff1), (a2, zI K 210000 f2)] H := hP
  have hD : va_D A [(a0, zO 10 83 g0), (a1, zI K 210000 ff1), (a2, zI K 210000 f2)] := hD
  refine lv_aload_n hx hb dX12_reaches_22 rfl (lv_at hl 0 rfl) ?_
  refine z_get (v := .ref a2) hx hb hg hown hK hP i_X12 rfl 0 rfl 53 (by decide) mt1333 e2 dX12_reaches_23 ?_
  refine lv_aload_n hx hb dX12_reaches_26 rfl (lv_at hl 0 rfl) ?_
  refine z_get (v := .int 7) hx hb hg hown hK hP i_X12 rfl 0 rfl 54 (by decide) mt1334 e3 dX12_reaches_27 ?_
  refine lv_iload_n hx hb dX12_reaches_30 rfl (lv_at hl 1 rfl) ?_
  refine z_iast (j := 7) hx hb hK hP hD hS 2 rfl rfl (Nat.le_of_ble_eq_true rfl) (Nat.le_of_ble_eq_true rfl) dX12_reaches_31 (fun ff3 H locs y4 hP hD hS => ?_)
  have hP : va_P K.1 classes [(a0, zO 10 83 g0), (a1, zI K 210000 ff1), (a2, zI K 210000 ff3)] H := hP
  have hD : va_D A [(a0, zO 10 83 g0), (a1, zI K 210000 ff1), (a2, zI K 210000 ff3)] := hD
  refine lv_aload_n hx hb dX12_reaches_32 rfl (lv_at hl 0 rfl) ?_
  refine lv_dup hx hb dX12_reaches_33 rfl ?_
  refine z_get (v := .int 7) hx hb hg hown hK hP i_X12 rfl 0 rfl 54 (by decide) mt1334 e3 dX12_reaches_34 ?_
  refine lv_iconst (v := 1) hx hb dX12_reaches_37 (by decide) ?_
  refine lv_iadd hx hb dX12_reaches_38 ?_
  refine z_cst (v := 8) (by decide +kernel) ?_
  refine z_put hx hb hg hown hK hP hD hS i_X12 rfl tyX12_ok nmX12 0 rfl 54 (by decide) mt1334 rfl rfl rfl dX12_reaches_39 (fun gg5 H locs y6 hP hD hS => ?_)
  have hP : va_P K.1 classes [(a0, zO 10 83 gg5), (a1, zI K 210000 ff1), (a2, zI K 210000 ff3)] H := hP
  have hD : va_D A [(a0, zO 10 83 gg5), (a1, zI K 210000 ff1), (a2, zI K 210000 ff3)] := hD
  subst y6
  subst y4
  subst y2
  have hP9 : va_P K.1 classes [(a0, zO 10 83 (va_up g0 54 (.int 8))), (a1, zI K 210000 (va_up f1 7 0)), (a2, zI K 210000 (va_up f2 7 7))] H := hP.sub [0, 1, 2] rfl
  have hD9 : va_D A [(a0, zO 10 83 (va_up g0 54 (.int 8))), (a1, zI K 210000 (va_up f1 7 0)), (a2, zI K 210000 (va_up f2 7 7))] := hD.sub [0, 1, 2] (by decide) rfl
  exact z_vret hx hb hr (fun _ => 0) trivial hP9 hD9 hS (Nat.le_of_ble_eq_true rfl) (Nat.le_of_ble_eq_true rfl) hlocks dX12_reaches_42
