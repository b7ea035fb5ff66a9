/-! the law, case by case (printed by wip/p1/lawgen.py) -/
set_option maxHeartbeats 4000000 in
set_option maxRecDepth 100000 in
theorem lawS_8_0 {p : Program} {l : Launch} {e : Env} {s : State} {m : MethodId} {below : List Frame} {meth : Method} {c : Code} {b : Nat} {xs : Nat → Int32} {K : zK} {A : Nat → Prop} {H : Heap} {locs : List Loc} {ls : Array Slot} (C : zC p l s m meth c b xs K A) (qx qm qo : Nat) (u v : Nat → Nat) (h0 : (xs 1).toInt < 0) (hP : va_P K.1 classes (lwW K qx qm qo u v) H) (hD : va_D A (lwW K qx qm qo u v)) (hS : va_S A s.heap H locs) (hl : lv_has ls 7 [(4, .int 0), (3, .ref qo), (2, .ref qm), (1, .ref qx), (0, .ref b)]) : W p l e room_1 s m #[Value.ref b] below meth c H locs 124 1863516 (lw_Z below #[Value.ref b] s) (F0 m 742 ls []) := by
  obtain ⟨hx, hb, hr, hml, hown, hg, hX, hbl, hlocks, hK, hZ, hl9, hAA, hA, hbA⟩ := C
  have hP : va_P K.1 classes [(qx, zO 9 9 (zc0 u v)), ((u 0), zO 7 6 (zc1 u v)), (qm, zO 10 83 (zc71 u v)), (qo, zJ K 1 (fun _ => 0))] H := hP.sub [0, 1, 71, 123] rfl
  have hD : va_D A [(qx, zO 9 9 (zc0 u v)), ((u 0), zO 7 6 (zc1 u v)), (qm, zO 10 83 (zc71 u v)), (qo, zJ K 1 (fun _ => 0))] := hD.sub [0, 1, 71, 123] (by decide +kernel) rfl
  refine lv_aload_n hx hb dL_law_742 rfl (lv_at hl 3 rfl) ?_
  refine lv_aload_n hx hb dL_law_743 rfl (lv_at hl 4 rfl) ?_
  refine lv_iload hx hb dL_law_744 (lv_at hl 0 rfl) ?_
  refine lv_iconst (v := 1) hx hb dL_law_746 (by decide) ?_
  refine lv_iadd hx hb dL_law_747 ?_
  refine z_cst (v := 1) (by decide +kernel) ?_
  refine z_sld (v := (xs 1)) (j := 1) hx hb hX hbl hbA hS rfl (Nat.le_of_ble_eq_true rfl) rfl dL_law_748 ?_
  refine lv_aload_n hx hb dL_law_749 rfl (lv_at hl 4 rfl) ?_
  refine lv_iload hx hb dL_law_750 (lv_at hl 0 rfl) ?_
  refine lv_iconst (v := 2) hx hb dL_law_752 (by decide) ?_
  refine lv_iadd hx hb dL_law_753 ?_
  refine z_cst (v := 2) (by decide +kernel) ?_
  refine z_sld (v := (xs 2)) (j := 2) hx hb hX hbl hbA hS rfl (Nat.le_of_ble_eq_true rfl) rfl dL_law_754 ?_
  refine lv_aload_n hx hb dL_law_755 rfl (lv_at hl 4 rfl) ?_
  refine lv_iload hx hb dL_law_756 (lv_at hl 0 rfl) ?_
  refine lv_iconst (v := 3) hx hb dL_law_758 (by decide) ?_
  refine lv_iadd hx hb dL_law_759 ?_
  refine z_cst (v := 3) (by decide +kernel) ?_
  refine z_sld (v := (xs 3)) (j := 3) hx hb hX hbl hbA hS rfl (Nat.le_of_ble_eq_true rfl) rfl dL_law_760 ?_
  refine lv_aload_n hx hb dL_law_761 rfl (lv_at hl 1 rfl) ?_
  refine z_hcalli [(qx, zO 9 9 (zc0 u v)), ((u 0), zO 7 6 (zc1 u v))] [(qm, zO 10 83 (zc71 u v)), (qo, zJ K 1 (fun _ => 0))] [0, 1] [2, 3] hP hD hS hA rfl rfl (by decide +kernel) (by decide +kernel) (by decide +kernel) 125 1863522 rfl rfl (fun hPc hDc hF => z_xrunH (As := [.ref qx, .int (xs 1), .int (xs 2), .int (xs 3), .ref qo]) (rest := []) ⟨hx, hb, hml, hown, hg⟩ (cL_choose_1 l hl9 K H.size qx qo (u 0) (zc0 u v) (zc1 u v) (xs 1) (xs 2) (xs 3) (zc0_0 u v) (by rw [Int32.lt_iff_toInt_lt, show (0 : Int32).toInt = 0 from by decide]; omega)) kS_RL_132 hd_L_choose rfl rfl ⟨(Nat.le_of_ble_eq_true rfl), (Nat.le_of_ble_eq_true rfl)⟩ hK hS hZ hPc hDc hF rfl hl.1 rfl (Nat.le_of_ble_eq_true rfl) dL_law_762 ⟨(Nat.le_of_ble_eq_true rfl), (Nat.le_of_ble_eq_true rfl)⟩) (fun r3 u1 H locs w2 hP hD hS => ?_)
  subst w2
  have hP : va_P K.1 classes [(qm, zO 10 83 (zc71 u v)), (qo, zJ K 1 (fun _ => 0))] H := hP
  have hD : va_D A [(qm, zO 10 83 (zc71 u v)), (qo, zJ K 1 (fun _ => 0))] := hD
  refine lv_istore (lv' := [(5, .int 1), (4, .int 0), (3, .ref qo), (2, .ref qm), (1, .ref qx), (0, .ref b)]) hx hb dL_law_765 hl (by decide) rfl (fun ls hl => ?_)
  refine lv_aload_n hx hb dL_law_767 rfl (lv_at hl 3 rfl) ?_
  refine lv_aload_n hx hb dL_law_768 rfl (lv_at hl 5 rfl) ?_
  refine lv_iload hx hb dL_law_769 (lv_at hl 1 rfl) ?_
  refine lv_iconst (v := 1) hx hb dL_law_771 (by decide) ?_
  refine lv_iadd hx hb dL_law_772 ?_
  refine z_cst (v := 1) (by decide +kernel) ?_
  refine z_sld (v := (xs 1)) (j := 1) hx hb hX hbl hbA hS rfl (Nat.le_of_ble_eq_true rfl) rfl dL_law_773 ?_
  refine lv_aload_n hx hb dL_law_774 rfl (lv_at hl 5 rfl) ?_
  refine lv_iload hx hb dL_law_775 (lv_at hl 1 rfl) ?_
  refine lv_iconst (v := 2) hx hb dL_law_777 (by decide) ?_
  refine lv_iadd hx hb dL_law_778 ?_
  refine z_cst (v := 2) (by decide +kernel) ?_
  refine z_sld (v := (xs 2)) (j := 2) hx hb hX hbl hbA hS rfl (Nat.le_of_ble_eq_true rfl) rfl dL_law_779 ?_
  refine lv_aload_n hx hb dL_law_780 rfl (lv_at hl 5 rfl) ?_
  refine lv_iload hx hb dL_law_781 (lv_at hl 1 rfl) ?_
  refine lv_iconst (v := 3) hx hb dL_law_783 (by decide) ?_
  refine lv_iadd hx hb dL_law_784 ?_
  refine z_cst (v := 3) (by decide +kernel) ?_
  refine z_sld (v := (xs 3)) (j := 3) hx hb hX hbl hbA hS rfl (Nat.le_of_ble_eq_true rfl) rfl dL_law_785 ?_
  refine z_calli [(qm, zO 10 83 (zc71 u v))] [(qo, zJ K 1 (fun _ => 0))] [0] [1] hP hD hS hA rfl rfl (by decide +kernel) (by decide +kernel) (by decide +kernel) 125 1863522 rfl rfl (fun hPc hDc hF => z_runV (As := [.int (xs 1), .int (xs 2), .int (xs 3)]) (rest := []) ⟨hx, hb, hml, hown, hg⟩ (cX12_choose_1 l K H.size qm (zc71 u v) (xs 1) (xs 2) (xs 3) (zc71_0 u v) (by rw [Int32.lt_iff_toInt_lt, show (0 : Int32).toInt = 0 from by decide]; omega)) kV_RL_134 hd_X12_choose rfl rfl ⟨(Nat.le_of_ble_eq_true rfl), (Nat.le_of_ble_eq_true rfl)⟩ hK hS hZ hPc hDc hF 0 rfl rfl rfl hl.1 rfl (Nat.le_of_ble_eq_true rfl) dL_law_786 ⟨(Nat.le_of_ble_eq_true rfl), (Nat.le_of_ble_eq_true rfl)⟩) (fun r6 u4 H locs w5 hP hD hS => ?_)
  subst w5
  have hP : va_P K.1 classes [(qo, zJ K 1 (fun _ => 0)), (qm, zO 10 83 (va_up (zc71 u v) 81 (.int 1)))] H := hP
  have hD : va_D A [(qo, zJ K 1 (fun _ => 0)), (qm, zO 10 83 (va_up (zc71 u v) 81 (.int 1)))] := hD
  refine lv_istore (lv' := [(6, .int 0), (5, .int 1), (4, .int 0), (3, .ref qo), (2, .ref qm), (1, .ref qx), (0, .ref b)]) hx hb dL_law_789 hl (by decide) rfl (fun ls hl => ?_)
  refine lv_aload_n hx hb dL_law_791 rfl (lv_at hl 4 rfl) ?_
  refine z_calli [(qm, zO 10 83 (va_up (zc71 u v) 81 (.int 1)))] [(qo, zJ K 1 (fun _ => 0))] [1] [0] hP hD hS hA rfl rfl (by decide +kernel) (by decide +kernel) (by decide +kernel) 125 1863522 rfl rfl (fun hPc hDc hF => z_runV (As := []) (rest := []) ⟨hx, hb, hml, hown, hg⟩ (cX12_thrown_2 l K H.size qm (va_up (zc71 u v) 81 (.int 1)) zu_eq) kV_RL_104 hd_X12_thrown rfl rfl ⟨(Nat.le_of_ble_eq_true rfl), (Nat.le_of_ble_eq_true rfl)⟩ hK hS hZ hPc hDc hF 0 rfl rfl rfl hl.1 rfl (Nat.le_of_ble_eq_true rfl) dL_law_792 ⟨(Nat.le_of_ble_eq_true rfl), (Nat.le_of_ble_eq_true rfl)⟩) (fun r9 u7 H locs w8 hP hD hS => ?_)
  subst w8
  have hP : va_P K.1 classes [(qo, zJ K 1 (fun _ => 0)), (qm, zO 10 83 (va_up (zc71 u v) 81 (.int 1)))] H := hP
  have hD : va_D A [(qo, zJ K 1 (fun _ => 0)), (qm, zO 10 83 (va_up (zc71 u v) 81 (.int 1)))] := hD
  refine lv_iload hx hb dL_law_795 (lv_at hl 1 rfl) ?_
  refine lv_icmp_eq (tgt := 802) hx hb dL_law_797 (by decide) (fun _ => ?_) (fun c => absurd (by decide) c)
  refine lv_iload hx hb dL_law_802 (lv_at hl 1 rfl) ?_
  refine lv_if_ne (tgt := 819) hx hb dL_law_804 (by decide) (fun _ => ?_) (fun c => absurd c (by decide))
  refine lv_goto (tgt := 2026) hx hb dL_law_819 (by decide) ?_
  exact law_back ⟨hx, hb, hr, hml, hown, hg, hX, hbl, hlocks, hK, hZ, hl9, hAA, hA, hbA⟩ (Nat.le_of_ble_eq_true rfl) (Nat.le_of_ble_eq_true rfl) hS (lv_sub hl [2, 6] rfl)
set_option maxHeartbeats 4000000 in
set_option maxRecDepth 100000 in
theorem lawS_8_1 {p : Program} {l : Launch} {e : Env} {s : State} {m : MethodId} {below : List Frame} {meth : Method} {c : Code} {b : Nat} {xs : Nat → Int32} {K : zK} {A : Nat → Prop} {H : Heap} {locs : List Loc} {ls : Array Slot} (C : zC p l s m meth c b xs K A) (qx qm qo : Nat) (u v : Nat → Nat) (h0 : 0 ≤ (xs 1).toInt) (hP : va_P K.1 classes (lwW K qx qm qo u v) H) (hD : va_D A (lwW K qx qm qo u v)) (hS : va_S A s.heap H locs) (hl : lv_has ls 7 [(4, .int 0), (3, .ref qo), (2, .ref qm), (1, .ref qx), (0, .ref b)]) : W p l e room_1 s m #[Value.ref b] below meth c H locs 124 1863516 (lw_Z below #[Value.ref b] s) (F0 m 742 ls []) := by
  obtain ⟨hx, hb, hr, hml, hown, hg, hX, hbl, hlocks, hK, hZ, hl9, hAA, hA, hbA⟩ := C
  have hP : va_P K.1 classes [(qx, zO 9 9 (zc0 u v)), ((u 0), zO 7 6 (zc1 u v)), (qm, zO 10 83 (zc71 u v)), (qo, zJ K 1 (fun _ => 0))] H := hP.sub [0, 1, 71, 123] rfl
  have hD : va_D A [(qx, zO 9 9 (zc0 u v)), ((u 0), zO 7 6 (zc1 u v)), (qm, zO 10 83 (zc71 u v)), (qo, zJ K 1 (fun _ => 0))] := hD.sub [0, 1, 71, 123] (by decide +kernel) rfl
  refine lv_aload_n hx hb dL_law_742 rfl (lv_at hl 3 rfl) ?_
  refine lv_aload_n hx hb dL_law_743 rfl (lv_at hl 4 rfl) ?_
  refine lv_iload hx hb dL_law_744 (lv_at hl 0 rfl) ?_
  refine lv_iconst (v := 1) hx hb dL_law_746 (by decide) ?_
  refine lv_iadd hx hb dL_law_747 ?_
  refine z_cst (v := 1) (by decide +kernel) ?_
  refine z_sld (v := (xs 1)) (j := 1) hx hb hX hbl hbA hS rfl (Nat.le_of_ble_eq_true rfl) rfl dL_law_748 ?_
  refine lv_aload_n hx hb dL_law_749 rfl (lv_at hl 4 rfl) ?_
  refine lv_iload hx hb dL_law_750 (lv_at hl 0 rfl) ?_
  refine lv_iconst (v := 2) hx hb dL_law_752 (by decide) ?_
  refine lv_iadd hx hb dL_law_753 ?_
  refine z_cst (v := 2) (by decide +kernel) ?_
  refine z_sld (v := (xs 2)) (j := 2) hx hb hX hbl hbA hS rfl (Nat.le_of_ble_eq_true rfl) rfl dL_law_754 ?_
  refine lv_aload_n hx hb dL_law_755 rfl (lv_at hl 4 rfl) ?_
  refine lv_iload hx hb dL_law_756 (lv_at hl 0 rfl) ?_
  refine lv_iconst (v := 3) hx hb dL_law_758 (by decide) ?_
  refine lv_iadd hx hb dL_law_759 ?_
  refine z_cst (v := 3) (by decide +kernel) ?_
  refine z_sld (v := (xs 3)) (j := 3) hx hb hX hbl hbA hS rfl (Nat.le_of_ble_eq_true rfl) rfl dL_law_760 ?_
  refine lv_aload_n hx hb dL_law_761 rfl (lv_at hl 1 rfl) ?_
  refine z_hcalli [(qx, zO 9 9 (zc0 u v)), ((u 0), zO 7 6 (zc1 u v))] [(qm, zO 10 83 (zc71 u v)), (qo, zJ K 1 (fun _ => 0))] [0, 1] [2, 3] hP hD hS hA rfl rfl (by decide +kernel) (by decide +kernel) (by decide +kernel) 125 1863522 rfl rfl (fun hPc hDc hF => z_xrunH (As := [.ref qx, .int (xs 1), .int (xs 2), .int (xs 3), .ref qo]) (rest := []) ⟨hx, hb, hml, hown, hg⟩ (cL_choose_2 l hl9 K H.size qx qo (u 0) (zc0 u v) (zc1 u v) (xs 1) (xs 2) (xs 3) (zc0_0 u v) (by rw [Int32.lt_iff_toInt_lt, show (0 : Int32).toInt = 0 from by decide]; omega) (zc1_5 u v) (by rw [Int32.le_iff_toInt_le, show (0 : Int32).toInt = 0 from by decide]; omega)) kS_RL_132 hd_L_choose rfl rfl ⟨(Nat.le_of_ble_eq_true rfl), (Nat.le_of_ble_eq_true rfl)⟩ hK hS hZ hPc hDc hF rfl hl.1 rfl (Nat.le_of_ble_eq_true rfl) dL_law_762 ⟨(Nat.le_of_ble_eq_true rfl), (Nat.le_of_ble_eq_true rfl)⟩) (fun r3 u1 H locs w2 hP hD hS => ?_)
  subst w2
  have hP : va_P K.1 classes [(qm, zO 10 83 (zc71 u v)), (qo, zJ K 1 (fun _ => 0))] H := hP
  have hD : va_D A [(qm, zO 10 83 (zc71 u v)), (qo, zJ K 1 (fun _ => 0))] := hD
  refine lv_istore (lv' := [(5, .int 1), (4, .int 0), (3, .ref qo), (2, .ref qm), (1, .ref qx), (0, .ref b)]) hx hb dL_law_765 hl (by decide) rfl (fun ls hl => ?_)
  refine lv_aload_n hx hb dL_law_767 rfl (lv_at hl 3 rfl) ?_
  refine lv_aload_n hx hb dL_law_768 rfl (lv_at hl 5 rfl) ?_
  refine lv_iload hx hb dL_law_769 (lv_at hl 1 rfl) ?_
  refine lv_iconst (v := 1) hx hb dL_law_771 (by decide) ?_
  refine lv_iadd hx hb dL_law_772 ?_
  refine z_cst (v := 1) (by decide +kernel) ?_
  refine z_sld (v := (xs 1)) (j := 1) hx hb hX hbl hbA hS rfl (Nat.le_of_ble_eq_true rfl) rfl dL_law_773 ?_
  refine lv_aload_n hx hb dL_law_774 rfl (lv_at hl 5 rfl) ?_
  refine lv_iload hx hb dL_law_775 (lv_at hl 1 rfl) ?_
  refine lv_iconst (v := 2) hx hb dL_law_777 (by decide) ?_
  refine lv_iadd hx hb dL_law_778 ?_
  refine z_cst (v := 2) (by decide +kernel) ?_
  refine z_sld (v := (xs 2)) (j := 2) hx hb hX hbl hbA hS rfl (Nat.le_of_ble_eq_true rfl) rfl dL_law_779 ?_
  refine lv_aload_n hx hb dL_law_780 rfl (lv_at hl 5 rfl) ?_
  refine lv_iload hx hb dL_law_781 (lv_at hl 1 rfl) ?_
  refine lv_iconst (v := 3) hx hb dL_law_783 (by decide) ?_
  refine lv_iadd hx hb dL_law_784 ?_
  refine z_cst (v := 3) (by decide +kernel) ?_
  refine z_sld (v := (xs 3)) (j := 3) hx hb hX hbl hbA hS rfl (Nat.le_of_ble_eq_true rfl) rfl dL_law_785 ?_
  refine z_calli [(qm, zO 10 83 (zc71 u v))] [(qo, zJ K 1 (fun _ => 0))] [0] [1] hP hD hS hA rfl rfl (by decide +kernel) (by decide +kernel) (by decide +kernel) 125 1863522 rfl rfl (fun hPc hDc hF => z_runV (As := [.int (xs 1), .int (xs 2), .int (xs 3)]) (rest := []) ⟨hx, hb, hml, hown, hg⟩ (cX12_choose_2 l K H.size qm (zc71 u v) (xs 1) (xs 2) (xs 3) (zc71_0 u v) (by rw [Int32.lt_iff_toInt_lt, show (0 : Int32).toInt = 0 from by decide]; omega) (by rw [Int32.lt_iff_toInt_lt, show (-1 : Int32).toInt = -1 from by decide]; omega)) kV_RL_134 hd_X12_choose rfl rfl ⟨(Nat.le_of_ble_eq_true rfl), (Nat.le_of_ble_eq_true rfl)⟩ hK hS hZ hPc hDc hF 0 rfl rfl rfl hl.1 rfl (Nat.le_of_ble_eq_true rfl) dL_law_786 ⟨(Nat.le_of_ble_eq_true rfl), (Nat.le_of_ble_eq_true rfl)⟩) (fun r6 u4 H locs w5 hP hD hS => ?_)
  subst w5
  have hP : va_P K.1 classes [(qo, zJ K 1 (fun _ => 0)), (qm, zO 10 83 (va_up (zc71 u v) 81 (.int 1)))] H := hP
  have hD : va_D A [(qo, zJ K 1 (fun _ => 0)), (qm, zO 10 83 (va_up (zc71 u v) 81 (.int 1)))] := hD
  refine lv_istore (lv' := [(6, .int 0), (5, .int 1), (4, .int 0), (3, .ref qo), (2, .ref qm), (1, .ref qx), (0, .ref b)]) hx hb dL_law_789 hl (by decide) rfl (fun ls hl => ?_)
  refine lv_aload_n hx hb dL_law_791 rfl (lv_at hl 4 rfl) ?_
  refine z_calli [(qm, zO 10 83 (va_up (zc71 u v) 81 (.int 1)))] [(qo, zJ K 1 (fun _ => 0))] [1] [0] hP hD hS hA rfl rfl (by decide +kernel) (by decide +kernel) (by decide +kernel) 125 1863522 rfl rfl (fun hPc hDc hF => z_runV (As := []) (rest := []) ⟨hx, hb, hml, hown, hg⟩ (cX12_thrown_2 l K H.size qm (va_up (zc71 u v) 81 (.int 1)) zu_eq) kV_RL_104 hd_X12_thrown rfl rfl ⟨(Nat.le_of_ble_eq_true rfl), (Nat.le_of_ble_eq_true rfl)⟩ hK hS hZ hPc hDc hF 0 rfl rfl rfl hl.1 rfl (Nat.le_of_ble_eq_true rfl) dL_law_792 ⟨(Nat.le_of_ble_eq_true rfl), (Nat.le_of_ble_eq_true rfl)⟩) (fun r9 u7 H locs w8 hP hD hS => ?_)
  subst w8
  have hP : va_P K.1 classes [(qo, zJ K 1 (fun _ => 0)), (qm, zO 10 83 (va_up (zc71 u v) 81 (.int 1)))] H := hP
  have hD : va_D A [(qo, zJ K 1 (fun _ => 0)), (qm, zO 10 83 (va_up (zc71 u v) 81 (.int 1)))] := hD
  refine lv_iload hx hb dL_law_795 (lv_at hl 1 rfl) ?_
  refine lv_icmp_eq (tgt := 802) hx hb dL_law_797 (by decide) (fun _ => ?_) (fun c => absurd (by decide) c)
  refine lv_iload hx hb dL_law_802 (lv_at hl 1 rfl) ?_
  refine lv_if_ne (tgt := 819) hx hb dL_law_804 (by decide) (fun _ => ?_) (fun c => absurd c (by decide))
  refine lv_goto (tgt := 2026) hx hb dL_law_819 (by decide) ?_
  exact law_back ⟨hx, hb, hr, hml, hown, hg, hX, hbl, hlocks, hK, hZ, hl9, hAA, hA, hbA⟩ (Nat.le_of_ble_eq_true rfl) (Nat.le_of_ble_eq_true rfl) hS (lv_sub hl [2, 6] rfl)
theorem lawC_8 {p : Program} {l : Launch} {e : Env} {s : State} {m : MethodId} {below : List Frame} {meth : Method} {c : Code} {b : Nat} {xs : Nat → Int32} {K : zK} {A : Nat → Prop} {H : Heap} {locs : List Loc} {ls : Array Slot} (C : zC p l s m meth c b xs K A) (qx qm qo : Nat) (u v : Nat → Nat) (hP : va_P K.1 classes (lwW K qx qm qo u v) H) (hD : va_D A (lwW K qx qm qo u v)) (hS : va_S A s.heap H locs) (hl : lv_has ls 7 [(4, .int 0), (3, .ref qo), (2, .ref qm), (1, .ref qx), (0, .ref b)]) : W p l e room_1 s m #[Value.ref b] below meth c H locs 124 1863516 (lw_Z below #[Value.ref b] s) (F0 m 742 ls []) := by
  rcases z_split (xs 1) (0) with h0 | h0
  · exact lawS_8_0 C qx qm qo u v h0 hP hD hS hl
  · exact lawS_8_1 C qx qm qo u v h0 hP hD hS hl
set_option maxHeartbeats 4000000 in
set_option maxRecDepth 100000 in
theorem lawS_9_0 {p : Program} {l : Launch} {e : Env} {s : State} {m : MethodId} {below : List Frame} {meth : Method} {c : Code} {b : Nat} {xs : Nat → Int32} {K : zK} {A : Nat → Prop} {H : Heap} {locs : List Loc} {ls : Array Slot} (C : zC p l s m meth c b xs K A) (qx qm qo : Nat) (u v : Nat → Nat) (h0 : (xs 2).toInt < 0) (h1 : (xs 1).toInt < 0) (hP : va_P K.1 classes (lwW K qx qm qo u v) H) (hD : va_D A (lwW K qx qm qo u v)) (hS : va_S A s.heap H locs) (hl : lv_has ls 7 [(4, .int 0), (3, .ref qo), (2, .ref qm), (1, .ref qx), (0, .ref b)]) : W p l e room_1 s m #[Value.ref b] below meth c H locs 124 1863516 (lw_Z below #[Value.ref b] s) (F0 m 822 ls []) := by
  obtain ⟨hx, hb, hr, hml, hown, hg, hX, hbl, hlocks, hK, hZ, hl9, hAA, hA, hbA⟩ := C
  have hP : va_P K.1 classes [(qx, zO 9 9 (zc0 u v)), ((u 0), zO 7 6 (zc1 u v)), (qm, zO 10 83 (zc71 u v)), (qo, zJ K 1 (fun _ => 0))] H := hP.sub [0, 1, 71, 123] rfl
  have hD : va_D A [(qx, zO 9 9 (zc0 u v)), ((u 0), zO 7 6 (zc1 u v)), (qm, zO 10 83 (zc71 u v)), (qo, zJ K 1 (fun _ => 0))] := hD.sub [0, 1, 71, 123] (by decide +kernel) rfl
  refine lv_aload_n hx hb dL_law_822 rfl (lv_at hl 3 rfl) ?_
  refine lv_aload_n hx hb dL_law_823 rfl (lv_at hl 4 rfl) ?_
  refine lv_iload hx hb dL_law_824 (lv_at hl 0 rfl) ?_
  refine lv_iconst (v := 1) hx hb dL_law_826 (by decide) ?_
  refine lv_iadd hx hb dL_law_827 ?_
  refine z_cst (v := 1) (by decide +kernel) ?_
  refine z_sld (v := (xs 1)) (j := 1) hx hb hX hbl hbA hS rfl (Nat.le_of_ble_eq_true rfl) rfl dL_law_828 ?_
  refine lv_aload_n hx hb dL_law_829 rfl (lv_at hl 4 rfl) ?_
  refine lv_iload hx hb dL_law_830 (lv_at hl 0 rfl) ?_
  refine lv_iconst (v := 2) hx hb dL_law_832 (by decide) ?_
  refine lv_iadd hx hb dL_law_833 ?_
  refine z_cst (v := 2) (by decide +kernel) ?_
  refine z_sld (v := (xs 2)) (j := 2) hx hb hX hbl hbA hS rfl (Nat.le_of_ble_eq_true rfl) rfl dL_law_834 ?_
  refine lv_aload_n hx hb dL_law_835 rfl (lv_at hl 4 rfl) ?_
  refine lv_iload hx hb dL_law_836 (lv_at hl 0 rfl) ?_
  refine lv_iconst (v := 3) hx hb dL_law_838 (by decide) ?_
  refine lv_iadd hx hb dL_law_839 ?_
  refine z_cst (v := 3) (by decide +kernel) ?_
  refine z_sld (v := (xs 3)) (j := 3) hx hb hX hbl hbA hS rfl (Nat.le_of_ble_eq_true rfl) rfl dL_law_840 ?_
  refine lv_aload_n hx hb dL_law_841 rfl (lv_at hl 1 rfl) ?_
  refine z_hcalli [(qx, zO 9 9 (zc0 u v)), ((u 0), zO 7 6 (zc1 u v))] [(qm, zO 10 83 (zc71 u v)), (qo, zJ K 1 (fun _ => 0))] [0, 1] [2, 3] hP hD hS hA rfl rfl (by decide +kernel) (by decide +kernel) (by decide +kernel) 125 1863522 rfl rfl (fun hPc hDc hF => z_xrunH (As := [.ref qx, .int (xs 1), .int (xs 2), .int (xs 3), .ref qo]) (rest := []) ⟨hx, hb, hml, hown, hg⟩ (cL_prim_1 l hl9 K H.size qx qo (u 0) (zc0 u v) (zc1 u v) (xs 1) (xs 2) (xs 3) (zc0_0 u v) (by rw [Int32.lt_iff_toInt_lt, show (0 : Int32).toInt = 0 from by decide]; omega)) kS_RL_135 hd_L_prim rfl rfl ⟨(Nat.le_of_ble_eq_true rfl), (Nat.le_of_ble_eq_true rfl)⟩ hK hS hZ hPc hDc hF rfl hl.1 rfl (Nat.le_of_ble_eq_true rfl) dL_law_842 ⟨(Nat.le_of_ble_eq_true rfl), (Nat.le_of_ble_eq_true rfl)⟩) (fun r3 u1 H locs w2 hP hD hS => ?_)
  subst w2
  have hP : va_P K.1 classes [(qm, zO 10 83 (zc71 u v)), (qo, zJ K 1 (fun _ => 0))] H := hP
  have hD : va_D A [(qm, zO 10 83 (zc71 u v)), (qo, zJ K 1 (fun _ => 0))] := hD
  refine lv_istore (lv' := [(5, .int 1), (4, .int 0), (3, .ref qo), (2, .ref qm), (1, .ref qx), (0, .ref b)]) hx hb dL_law_845 hl (by decide) rfl (fun ls hl => ?_)
  refine lv_aload_n hx hb dL_law_847 rfl (lv_at hl 3 rfl) ?_
  refine lv_aload_n hx hb dL_law_848 rfl (lv_at hl 5 rfl) ?_
  refine lv_iload hx hb dL_law_849 (lv_at hl 1 rfl) ?_
  refine lv_iconst (v := 1) hx hb dL_law_851 (by decide) ?_
  refine lv_iadd hx hb dL_law_852 ?_
  refine z_cst (v := 1) (by decide +kernel) ?_
  refine z_sld (v := (xs 1)) (j := 1) hx hb hX hbl hbA hS rfl (Nat.le_of_ble_eq_true rfl) rfl dL_law_853 ?_
  refine lv_aload_n hx hb dL_law_854 rfl (lv_at hl 5 rfl) ?_
  refine lv_iload hx hb dL_law_855 (lv_at hl 1 rfl) ?_
  refine lv_iconst (v := 2) hx hb dL_law_857 (by decide) ?_
  refine lv_iadd hx hb dL_law_858 ?_
  refine z_cst (v := 2) (by decide +kernel) ?_
  refine z_sld (v := (xs 2)) (j := 2) hx hb hX hbl hbA hS rfl (Nat.le_of_ble_eq_true rfl) rfl dL_law_859 ?_
  refine lv_aload_n hx hb dL_law_860 rfl (lv_at hl 5 rfl) ?_
  refine lv_iload hx hb dL_law_861 (lv_at hl 1 rfl) ?_
  refine lv_iconst (v := 3) hx hb dL_law_863 (by decide) ?_
  refine lv_iadd hx hb dL_law_864 ?_
  refine z_cst (v := 3) (by decide +kernel) ?_
  refine z_sld (v := (xs 3)) (j := 3) hx hb hX hbl hbA hS rfl (Nat.le_of_ble_eq_true rfl) rfl dL_law_865 ?_
  refine z_calli [(qm, zO 10 83 (zc71 u v))] [(qo, zJ K 1 (fun _ => 0))] [0] [1] hP hD hS hA rfl rfl (by decide +kernel) (by decide +kernel) (by decide +kernel) 125 1863522 rfl rfl (fun hPc hDc hF => z_runV (As := [.int (xs 1), .int (xs 2), .int (xs 3)]) (rest := []) ⟨hx, hb, hml, hown, hg⟩ (cX12_prim_1 l K H.size qm (zc71 u v) (xs 1) (xs 2) (xs 3) (zc71_0 u v) (by rw [Int32.lt_iff_toInt_lt, show (0 : Int32).toInt = 0 from by decide]; omega) (by rw [Int32.lt_iff_toInt_lt, show (0 : Int32).toInt = 0 from by decide]; omega)) kV_RL_137 hd_X12_prim rfl rfl ⟨(Nat.le_of_ble_eq_true rfl), (Nat.le_of_ble_eq_true rfl)⟩ hK hS hZ hPc hDc hF 0 rfl rfl rfl hl.1 rfl (Nat.le_of_ble_eq_true rfl) dL_law_866 ⟨(Nat.le_of_ble_eq_true rfl), (Nat.le_of_ble_eq_true rfl)⟩) (fun r6 u4 H locs w5 hP hD hS => ?_)
  subst w5
  have hP : va_P K.1 classes [(qo, zJ K 1 (fun _ => 0)), (qm, zO 10 83 (va_up (zc71 u v) 81 (.int 1)))] H := hP
  have hD : va_D A [(qo, zJ K 1 (fun _ => 0)), (qm, zO 10 83 (va_up (zc71 u v) 81 (.int 1)))] := hD
  refine lv_istore (lv' := [(6, .int 0), (5, .int 1), (4, .int 0), (3, .ref qo), (2, .ref qm), (1, .ref qx), (0, .ref b)]) hx hb dL_law_869 hl (by decide) rfl (fun ls hl => ?_)
  refine lv_aload_n hx hb dL_law_871 rfl (lv_at hl 4 rfl) ?_
  refine z_calli [(qm, zO 10 83 (va_up (zc71 u v) 81 (.int 1)))] [(qo, zJ K 1 (fun _ => 0))] [1] [0] hP hD hS hA rfl rfl (by decide +kernel) (by decide +kernel) (by decide +kernel) 125 1863522 rfl rfl (fun hPc hDc hF => z_runV (As := []) (rest := []) ⟨hx, hb, hml, hown, hg⟩ (cX12_thrown_2 l K H.size qm (va_up (zc71 u v) 81 (.int 1)) zu_eq) kV_RL_104 hd_X12_thrown rfl rfl ⟨(Nat.le_of_ble_eq_true rfl), (Nat.le_of_ble_eq_true rfl)⟩ hK hS hZ hPc hDc hF 0 rfl rfl rfl hl.1 rfl (Nat.le_of_ble_eq_true rfl) dL_law_872 ⟨(Nat.le_of_ble_eq_true rfl), (Nat.le_of_ble_eq_true rfl)⟩) (fun r9 u7 H locs w8 hP hD hS => ?_)
  subst w8
  have hP : va_P K.1 classes [(qo, zJ K 1 (fun _ => 0)), (qm, zO 10 83 (va_up (zc71 u v) 81 (.int 1)))] H := hP
  have hD : va_D A [(qo, zJ K 1 (fun _ => 0)), (qm, zO 10 83 (va_up (zc71 u v) 81 (.int 1)))] := hD
  refine lv_iload hx hb dL_law_875 (lv_at hl 1 rfl) ?_
  refine lv_icmp_eq (tgt := 882) hx hb dL_law_877 (by decide) (fun _ => ?_) (fun c => absurd (by decide) c)
  refine lv_iload hx hb dL_law_882 (lv_at hl 1 rfl) ?_
  refine lv_if_ne (tgt := 899) hx hb dL_law_884 (by decide) (fun _ => ?_) (fun c => absurd c (by decide))
  refine lv_goto (tgt := 2026) hx hb dL_law_899 (by decide) ?_
  exact law_back ⟨hx, hb, hr, hml, hown, hg, hX, hbl, hlocks, hK, hZ, hl9, hAA, hA, hbA⟩ (Nat.le_of_ble_eq_true rfl) (Nat.le_of_ble_eq_true rfl) hS (lv_sub hl [2, 6] rfl)
set_option maxHeartbeats 4000000 in
set_option maxRecDepth 100000 in
theorem lawS_9_1 {p : Program} {l : Launch} {e : Env} {s : State} {m : MethodId} {below : List Frame} {meth : Method} {c : Code} {b : Nat} {xs : Nat → Int32} {K : zK} {A : Nat → Prop} {H : Heap} {locs : List Loc} {ls : Array Slot} (C : zC p l s m meth c b xs K A) (qx qm qo : Nat) (u v : Nat → Nat) (h0 : (xs 2).toInt < 0) (h1 : 0 ≤ (xs 1).toInt) (h2 : (xs 1).toInt < 5) (hP : va_P K.1 classes (lwW K qx qm qo u v) H) (hD : va_D A (lwW K qx qm qo u v)) (hS : va_S A s.heap H locs) (hl : lv_has ls 7 [(4, .int 0), (3, .ref qo), (2, .ref qm), (1, .ref qx), (0, .ref b)]) : W p l e room_1 s m #[Value.ref b] below meth c H locs 124 1863516 (lw_Z below #[Value.ref b] s) (F0 m 822 ls []) := by
  obtain ⟨hx, hb, hr, hml, hown, hg, hX, hbl, hlocks, hK, hZ, hl9, hAA, hA, hbA⟩ := C
  have hP : va_P K.1 classes [(qx, zO 9 9 (zc0 u v)), ((u 0), zO 7 6 (zc1 u v)), (qm, zO 10 83 (zc71 u v)), (qo, zJ K 1 (fun _ => 0))] H := hP.sub [0, 1, 71, 123] rfl
  have hD : va_D A [(qx, zO 9 9 (zc0 u v)), ((u 0), zO 7 6 (zc1 u v)), (qm, zO 10 83 (zc71 u v)), (qo, zJ K 1 (fun _ => 0))] := hD.sub [0, 1, 71, 123] (by decide +kernel) rfl
  obtain ⟨t1, ht1, v1⟩ : ∃ j : Nat, j < 5 ∧ xs 1 = nI j := z_nat (n := 5) (by omega) (by omega) (by decide)
  refine lv_aload_n hx hb dL_law_822 rfl (lv_at hl 3 rfl) ?_
  refine lv_aload_n hx hb dL_law_823 rfl (lv_at hl 4 rfl) ?_
  refine lv_iload hx hb dL_law_824 (lv_at hl 0 rfl) ?_
  refine lv_iconst (v := 1) hx hb dL_law_826 (by decide) ?_
  refine lv_iadd hx hb dL_law_827 ?_
  refine z_cst (v := 1) (by decide +kernel) ?_
  refine z_sld (v := (nI t1)) (j := 1) hx hb hX hbl hbA hS rfl (Nat.le_of_ble_eq_true rfl) v1 dL_law_828 ?_
  refine lv_aload_n hx hb dL_law_829 rfl (lv_at hl 4 rfl) ?_
  refine lv_iload hx hb dL_law_830 (lv_at hl 0 rfl) ?_
  refine lv_iconst (v := 2) hx hb dL_law_832 (by decide) ?_
  refine lv_iadd hx hb dL_law_833 ?_
  refine z_cst (v := 2) (by decide +kernel) ?_
  refine z_sld (v := (xs 2)) (j := 2) hx hb hX hbl hbA hS rfl (Nat.le_of_ble_eq_true rfl) rfl dL_law_834 ?_
  refine lv_aload_n hx hb dL_law_835 rfl (lv_at hl 4 rfl) ?_
  refine lv_iload hx hb dL_law_836 (lv_at hl 0 rfl) ?_
  refine lv_iconst (v := 3) hx hb dL_law_838 (by decide) ?_
  refine lv_iadd hx hb dL_law_839 ?_
  refine z_cst (v := 3) (by decide +kernel) ?_
  refine z_sld (v := (xs 3)) (j := 3) hx hb hX hbl hbA hS rfl (Nat.le_of_ble_eq_true rfl) rfl dL_law_840 ?_
  refine lv_aload_n hx hb dL_law_841 rfl (lv_at hl 1 rfl) ?_
  refine z_hcalli [(qx, zO 9 9 (zc0 u v)), ((u 0), zO 7 6 (zc1 u v))] [(qm, zO 10 83 (zc71 u v)), (qo, zJ K 1 (fun _ => 0))] [0, 1] [2, 3] hP hD hS hA rfl rfl (by decide +kernel) (by decide +kernel) (by decide +kernel) 125 1863522 rfl rfl (fun hPc hDc hF => z_xrunH (As := [.ref qx, .int (nI t1), .int (xs 2), .int (xs 3), .ref qo]) (rest := []) ⟨hx, hb, hml, hown, hg⟩ (cL_prim_2 l hl9 K H.size qx qo (u 0) (zc0 u v) (zc1 u v) t1 ht1 (xs 2) (xs 3) (zc0_0 u v) (by rw [Int32.lt_iff_toInt_lt, show (0 : Int32).toInt = 0 from by decide]; omega)) kS_RL_135 hd_L_prim rfl rfl ⟨(Nat.le_of_ble_eq_true rfl), (Nat.le_of_ble_eq_true rfl)⟩ hK hS hZ hPc hDc hF rfl hl.1 rfl (Nat.le_of_ble_eq_true rfl) dL_law_842 ⟨(Nat.le_of_ble_eq_true rfl), (Nat.le_of_ble_eq_true rfl)⟩) (fun r3 u1 H locs w2 hP hD hS => ?_)
  subst w2
  have hP : va_P K.1 classes [(qm, zO 10 83 (zc71 u v)), (qo, zJ K 1 (fun _ => 0))] H := hP
  have hD : va_D A [(qm, zO 10 83 (zc71 u v)), (qo, zJ K 1 (fun _ => 0))] := hD
  refine lv_istore (lv' := [(5, .int 1), (4, .int 0), (3, .ref qo), (2, .ref qm), (1, .ref qx), (0, .ref b)]) hx hb dL_law_845 hl (by decide) rfl (fun ls hl => ?_)
  refine lv_aload_n hx hb dL_law_847 rfl (lv_at hl 3 rfl) ?_
  refine lv_aload_n hx hb dL_law_848 rfl (lv_at hl 5 rfl) ?_
  refine lv_iload hx hb dL_law_849 (lv_at hl 1 rfl) ?_
  refine lv_iconst (v := 1) hx hb dL_law_851 (by decide) ?_
  refine lv_iadd hx hb dL_law_852 ?_
  refine z_cst (v := 1) (by decide +kernel) ?_
  refine z_sld (v := (nI t1)) (j := 1) hx hb hX hbl hbA hS rfl (Nat.le_of_ble_eq_true rfl) v1 dL_law_853 ?_
  refine lv_aload_n hx hb dL_law_854 rfl (lv_at hl 5 rfl) ?_
  refine lv_iload hx hb dL_law_855 (lv_at hl 1 rfl) ?_
  refine lv_iconst (v := 2) hx hb dL_law_857 (by decide) ?_
  refine lv_iadd hx hb dL_law_858 ?_
  refine z_cst (v := 2) (by decide +kernel) ?_
  refine z_sld (v := (xs 2)) (j := 2) hx hb hX hbl hbA hS rfl (Nat.le_of_ble_eq_true rfl) rfl dL_law_859 ?_
  refine lv_aload_n hx hb dL_law_860 rfl (lv_at hl 5 rfl) ?_
  refine lv_iload hx hb dL_law_861 (lv_at hl 1 rfl) ?_
  refine lv_iconst (v := 3) hx hb dL_law_863 (by decide) ?_
  refine lv_iadd hx hb dL_law_864 ?_
  refine z_cst (v := 3) (by decide +kernel) ?_
  refine z_sld (v := (xs 3)) (j := 3) hx hb hX hbl hbA hS rfl (Nat.le_of_ble_eq_true rfl) rfl dL_law_865 ?_
  refine z_calli [(qm, zO 10 83 (zc71 u v))] [(qo, zJ K 1 (fun _ => 0))] [0] [1] hP hD hS hA rfl rfl (by decide +kernel) (by decide +kernel) (by decide +kernel) 125 1863522 rfl rfl (fun hPc hDc hF => z_runV (As := [.int (nI t1), .int (xs 2), .int (xs 3)]) (rest := []) ⟨hx, hb, hml, hown, hg⟩ (cX12_prim_2 l K H.size qm (zc71 u v) t1 ht1 (xs 2) (xs 3) (zc71_0 u v) (by rw [Int32.lt_iff_toInt_lt, show (0 : Int32).toInt = 0 from by decide]; omega)) kV_RL_137 hd_X12_prim rfl rfl ⟨(Nat.le_of_ble_eq_true rfl), (Nat.le_of_ble_eq_true rfl)⟩ hK hS hZ hPc hDc hF 0 rfl rfl rfl hl.1 rfl (Nat.le_of_ble_eq_true rfl) dL_law_866 ⟨(Nat.le_of_ble_eq_true rfl), (Nat.le_of_ble_eq_true rfl)⟩) (fun r6 u4 H locs w5 hP hD hS => ?_)
  subst w5
  have hP : va_P K.1 classes [(qo, zJ K 1 (fun _ => 0)), (qm, zO 10 83 (va_up (zc71 u v) 81 (.int 1)))] H := hP
  have hD : va_D A [(qo, zJ K 1 (fun _ => 0)), (qm, zO 10 83 (va_up (zc71 u v) 81 (.int 1)))] := hD
  refine lv_istore (lv' := [(6, .int 0), (5, .int 1), (4, .int 0), (3, .ref qo), (2, .ref qm), (1, .ref qx), (0, .ref b)]) hx hb dL_law_869 hl (by decide) rfl (fun ls hl => ?_)
  refine lv_aload_n hx hb dL_law_871 rfl (lv_at hl 4 rfl) ?_
  refine z_calli [(qm, zO 10 83 (va_up (zc71 u v) 81 (.int 1)))] [(qo, zJ K 1 (fun _ => 0))] [1] [0] hP hD hS hA rfl rfl (by decide +kernel) (by decide +kernel) (by decide +kernel) 125 1863522 rfl rfl (fun hPc hDc hF => z_runV (As := []) (rest := []) ⟨hx, hb, hml, hown, hg⟩ (cX12_thrown_2 l K H.size qm (va_up (zc71 u v) 81 (.int 1)) zu_eq) kV_RL_104 hd_X12_thrown rfl rfl ⟨(Nat.le_of_ble_eq_true rfl), (Nat.le_of_ble_eq_true rfl)⟩ hK hS hZ hPc hDc hF 0 rfl rfl rfl hl.1 rfl (Nat.le_of_ble_eq_true rfl) dL_law_872 ⟨(Nat.le_of_ble_eq_true rfl), (Nat.le_of_ble_eq_true rfl)⟩) (fun r9 u7 H locs w8 hP hD hS => ?_)
  subst w8
  have hP : va_P K.1 classes [(qo, zJ K 1 (fun _ => 0)), (qm, zO 10 83 (va_up (zc71 u v) 81 (.int 1)))] H := hP
  have hD : va_D A [(qo, zJ K 1 (fun _ => 0)), (qm, zO 10 83 (va_up (zc71 u v) 81 (.int 1)))] := hD
  refine lv_iload hx hb dL_law_875 (lv_at hl 1 rfl) ?_
  refine lv_icmp_eq (tgt := 882) hx hb dL_law_877 (by decide) (fun _ => ?_) (fun c => absurd (by decide) c)
  refine lv_iload hx hb dL_law_882 (lv_at hl 1 rfl) ?_
  refine lv_if_ne (tgt := 899) hx hb dL_law_884 (by decide) (fun _ => ?_) (fun c => absurd c (by decide))
  refine lv_goto (tgt := 2026) hx hb dL_law_899 (by decide) ?_
  exact law_back ⟨hx, hb, hr, hml, hown, hg, hX, hbl, hlocks, hK, hZ, hl9, hAA, hA, hbA⟩ (Nat.le_of_ble_eq_true rfl) (Nat.le_of_ble_eq_true rfl) hS (lv_sub hl [2, 6] rfl)
set_option maxHeartbeats 4000000 in
set_option maxRecDepth 100000 in
theorem lawS_9_2 {p : Program} {l : Launch} {e : Env} {s : State} {m : MethodId} {below : List Frame} {meth : Method} {c : Code} {b : Nat} {xs : Nat → Int32} {K : zK} {A : Nat → Prop} {H : Heap} {locs : List Loc} {ls : Array Slot} (C : zC p l s m meth c b xs K A) (qx qm qo : Nat) (u v : Nat → Nat) (h0 : (xs 2).toInt < 0) (h1 : 0 ≤ (xs 1).toInt) (h2 : 5 ≤ (xs 1).toInt) (hP : va_P K.1 classes (lwW K qx qm qo u v) H) (hD : va_D A (lwW K qx qm qo u v)) (hS : va_S A s.heap H locs) (hl : lv_has ls 7 [(4, .int 0), (3, .ref qo), (2, .ref qm), (1, .ref qx), (0, .ref b)]) : W p l e room_1 s m #[Value.ref b] below meth c H locs 124 1863516 (lw_Z below #[Value.ref b] s) (F0 m 822 ls []) := by
  obtain ⟨hx, hb, hr, hml, hown, hg, hX, hbl, hlocks, hK, hZ, hl9, hAA, hA, hbA⟩ := C
  have hP : va_P K.1 classes [(qx, zO 9 9 (zc0 u v)), ((u 0), zO 7 6 (zc1 u v)), (qm, zO 10 83 (zc71 u v)), (qo, zJ K 1 (fun _ => 0))] H := hP.sub [0, 1, 71, 123] rfl
  have hD : va_D A [(qx, zO 9 9 (zc0 u v)), ((u 0), zO 7 6 (zc1 u v)), (qm, zO 10 83 (zc71 u v)), (qo, zJ K 1 (fun _ => 0))] := hD.sub [0, 1, 71, 123] (by decide +kernel) rfl
  refine lv_aload_n hx hb dL_law_822 rfl (lv_at hl 3 rfl) ?_
  refine lv_aload_n hx hb dL_law_823 rfl (lv_at hl 4 rfl) ?_
  refine lv_iload hx hb dL_law_824 (lv_at hl 0 rfl) ?_
  refine lv_iconst (v := 1) hx hb dL_law_826 (by decide) ?_
  refine lv_iadd hx hb dL_law_827 ?_
  refine z_cst (v := 1) (by decide +kernel) ?_
  refine z_sld (v := (xs 1)) (j := 1) hx hb hX hbl hbA hS rfl (Nat.le_of_ble_eq_true rfl) rfl dL_law_828 ?_
  refine lv_aload_n hx hb dL_law_829 rfl (lv_at hl 4 rfl) ?_
  refine lv_iload hx hb dL_law_830 (lv_at hl 0 rfl) ?_
  refine lv_iconst (v := 2) hx hb dL_law_832 (by decide) ?_
  refine lv_iadd hx hb dL_law_833 ?_
  refine z_cst (v := 2) (by decide +kernel) ?_
  refine z_sld (v := (xs 2)) (j := 2) hx hb hX hbl hbA hS rfl (Nat.le_of_ble_eq_true rfl) rfl dL_law_834 ?_
  refine lv_aload_n hx hb dL_law_835 rfl (lv_at hl 4 rfl) ?_
  refine lv_iload hx hb dL_law_836 (lv_at hl 0 rfl) ?_
  refine lv_iconst (v := 3) hx hb dL_law_838 (by decide) ?_
  refine lv_iadd hx hb dL_law_839 ?_
  refine z_cst (v := 3) (by decide +kernel) ?_
  refine z_sld (v := (xs 3)) (j := 3) hx hb hX hbl hbA hS rfl (Nat.le_of_ble_eq_true rfl) rfl dL_law_840 ?_
  refine lv_aload_n hx hb dL_law_841 rfl (lv_at hl 1 rfl) ?_
  refine z_hcalli [(qx, zO 9 9 (zc0 u v)), ((u 0), zO 7 6 (zc1 u v))] [(qm, zO 10 83 (zc71 u v)), (qo, zJ K 1 (fun _ => 0))] [0, 1] [2, 3] hP hD hS hA rfl rfl (by decide +kernel) (by decide +kernel) (by decide +kernel) 125 1863522 rfl rfl (fun hPc hDc hF => z_xrunH (As := [.ref qx, .int (xs 1), .int (xs 2), .int (xs 3), .ref qo]) (rest := []) ⟨hx, hb, hml, hown, hg⟩ (cL_prim_1 l hl9 K H.size qx qo (u 0) (zc0 u v) (zc1 u v) (xs 1) (xs 2) (xs 3) (zc0_0 u v) (by rw [Int32.lt_iff_toInt_lt, show (0 : Int32).toInt = 0 from by decide]; omega)) kS_RL_135 hd_L_prim rfl rfl ⟨(Nat.le_of_ble_eq_true rfl), (Nat.le_of_ble_eq_true rfl)⟩ hK hS hZ hPc hDc hF rfl hl.1 rfl (Nat.le_of_ble_eq_true rfl) dL_law_842 ⟨(Nat.le_of_ble_eq_true rfl), (Nat.le_of_ble_eq_true rfl)⟩) (fun r3 u1 H locs w2 hP hD hS => ?_)
  subst w2
  have hP : va_P K.1 classes [(qm, zO 10 83 (zc71 u v)), (qo, zJ K 1 (fun _ => 0))] H := hP
  have hD : va_D A [(qm, zO 10 83 (zc71 u v)), (qo, zJ K 1 (fun _ => 0))] := hD
  refine lv_istore (lv' := [(5, .int 1), (4, .int 0), (3, .ref qo), (2, .ref qm), (1, .ref qx), (0, .ref b)]) hx hb dL_law_845 hl (by decide) rfl (fun ls hl => ?_)
  refine lv_aload_n hx hb dL_law_847 rfl (lv_at hl 3 rfl) ?_
  refine lv_aload_n hx hb dL_law_848 rfl (lv_at hl 5 rfl) ?_
  refine lv_iload hx hb dL_law_849 (lv_at hl 1 rfl) ?_
  refine lv_iconst (v := 1) hx hb dL_law_851 (by decide) ?_
  refine lv_iadd hx hb dL_law_852 ?_
  refine z_cst (v := 1) (by decide +kernel) ?_
  refine z_sld (v := (xs 1)) (j := 1) hx hb hX hbl hbA hS rfl (Nat.le_of_ble_eq_true rfl) rfl dL_law_853 ?_
  refine lv_aload_n hx hb dL_law_854 rfl (lv_at hl 5 rfl) ?_
  refine lv_iload hx hb dL_law_855 (lv_at hl 1 rfl) ?_
  refine lv_iconst (v := 2) hx hb dL_law_857 (by decide) ?_
  refine lv_iadd hx hb dL_law_858 ?_
  refine z_cst (v := 2) (by decide +kernel) ?_
  refine z_sld (v := (xs 2)) (j := 2) hx hb hX hbl hbA hS rfl (Nat.le_of_ble_eq_true rfl) rfl dL_law_859 ?_
  refine lv_aload_n hx hb dL_law_860 rfl (lv_at hl 5 rfl) ?_
  refine lv_iload hx hb dL_law_861 (lv_at hl 1 rfl) ?_
  refine lv_iconst (v := 3) hx hb dL_law_863 (by decide) ?_
  refine lv_iadd hx hb dL_law_864 ?_
  refine z_cst (v := 3) (by decide +kernel) ?_
  refine z_sld (v := (xs 3)) (j := 3) hx hb hX hbl hbA hS rfl (Nat.le_of_ble_eq_true rfl) rfl dL_law_865 ?_
  refine z_calli [(qm, zO 10 83 (zc71 u v))] [(qo, zJ K 1 (fun _ => 0))] [0] [1] hP hD hS hA rfl rfl (by decide +kernel) (by decide +kernel) (by decide +kernel) 125 1863522 rfl rfl (fun hPc hDc hF => z_runV (As := [.int (xs 1), .int (xs 2), .int (xs 3)]) (rest := []) ⟨hx, hb, hml, hown, hg⟩ (cX12_prim_3 l K H.size qm (zc71 u v) (xs 1) (xs 2) (xs 3) (zc71_0 u v) (by rw [Int32.lt_iff_toInt_lt, show (0 : Int32).toInt = 0 from by decide]; omega) (by rw [Int32.lt_iff_toInt_lt, show (0 : Int32).toInt = 0 from by decide]; omega) (by rw [Int32.lt_iff_toInt_lt, show (4 : Int32).toInt = 4 from by decide]; omega)) kV_RL_137 hd_X12_prim rfl rfl ⟨(Nat.le_of_ble_eq_true rfl), (Nat.le_of_ble_eq_true rfl)⟩ hK hS hZ hPc hDc hF 0 rfl rfl rfl hl.1 rfl (Nat.le_of_ble_eq_true rfl) dL_law_866 ⟨(Nat.le_of_ble_eq_true rfl), (Nat.le_of_ble_eq_true rfl)⟩) (fun r6 u4 H locs w5 hP hD hS => ?_)
  subst w5
  have hP : va_P K.1 classes [(qo, zJ K 1 (fun _ => 0)), (qm, zO 10 83 (va_up (zc71 u v) 81 (.int 1)))] H := hP
  have hD : va_D A [(qo, zJ K 1 (fun _ => 0)), (qm, zO 10 83 (va_up (zc71 u v) 81 (.int 1)))] := hD
  refine lv_istore (lv' := [(6, .int 0), (5, .int 1), (4, .int 0), (3, .ref qo), (2, .ref qm), (1, .ref qx), (0, .ref b)]) hx hb dL_law_869 hl (by decide) rfl (fun ls hl => ?_)
  refine lv_aload_n hx hb dL_law_871 rfl (lv_at hl 4 rfl) ?_
  refine z_calli [(qm, zO 10 83 (va_up (zc71 u v) 81 (.int 1)))] [(qo, zJ K 1 (fun _ => 0))] [1] [0] hP hD hS hA rfl rfl (by decide +kernel) (by decide +kernel) (by decide +kernel) 125 1863522 rfl rfl (fun hPc hDc hF => z_runV (As := []) (rest := []) ⟨hx, hb, hml, hown, hg⟩ (cX12_thrown_2 l K H.size qm (va_up (zc71 u v) 81 (.int 1)) zu_eq) kV_RL_104 hd_X12_thrown rfl rfl ⟨(Nat.le_of_ble_eq_true rfl), (Nat.le_of_ble_eq_true rfl)⟩ hK hS hZ hPc hDc hF 0 rfl rfl rfl hl.1 rfl (Nat.le_of_ble_eq_true rfl) dL_law_872 ⟨(Nat.le_of_ble_eq_true rfl), (Nat.le_of_ble_eq_true rfl)⟩) (fun r9 u7 H locs w8 hP hD hS => ?_)
  subst w8
  have hP : va_P K.1 classes [(qo, zJ K 1 (fun _ => 0)), (qm, zO 10 83 (va_up (zc71 u v) 81 (.int 1)))] H := hP
  have hD : va_D A [(qo, zJ K 1 (fun _ => 0)), (qm, zO 10 83 (va_up (zc71 u v) 81 (.int 1)))] := hD
  refine lv_iload hx hb dL_law_875 (lv_at hl 1 rfl) ?_
  refine lv_icmp_eq (tgt := 882) hx hb dL_law_877 (by decide) (fun _ => ?_) (fun c => absurd (by decide) c)
  refine lv_iload hx hb dL_law_882 (lv_at hl 1 rfl) ?_
  refine lv_if_ne (tgt := 899) hx hb dL_law_884 (by decide) (fun _ => ?_) (fun c => absurd c (by decide))
  refine lv_goto (tgt := 2026) hx hb dL_law_899 (by decide) ?_
  exact law_back ⟨hx, hb, hr, hml, hown, hg, hX, hbl, hlocks, hK, hZ, hl9, hAA, hA, hbA⟩ (Nat.le_of_ble_eq_true rfl) (Nat.le_of_ble_eq_true rfl) hS (lv_sub hl [2, 6] rfl)
set_option maxHeartbeats 4000000 in
set_option maxRecDepth 100000 in
theorem lawS_9_3 {p : Program} {l : Launch} {e : Env} {s : State} {m : MethodId} {below : List Frame} {meth : Method} {c : Code} {b : Nat} {xs : Nat → Int32} {K : zK} {A : Nat → Prop} {H : Heap} {locs : List Loc} {ls : Array Slot} (C : zC p l s m meth c b xs K A) (qx qm qo : Nat) (u v : Nat → Nat) (h0 : 0 ≤ (xs 2).toInt) (h1 : (xs 1).toInt < 0) (hP : va_P K.1 classes (lwW K qx qm qo u v) H) (hD : va_D A (lwW K qx qm qo u v)) (hS : va_S A s.heap H locs) (hl : lv_has ls 7 [(4, .int 0), (3, .ref qo), (2, .ref qm), (1, .ref qx), (0, .ref b)]) : W p l e room_1 s m #[Value.ref b] below meth c H locs 124 1863516 (lw_Z below #[Value.ref b] s) (F0 m 822 ls []) := by
  obtain ⟨hx, hb, hr, hml, hown, hg, hX, hbl, hlocks, hK, hZ, hl9, hAA, hA, hbA⟩ := C
  have hP : va_P K.1 classes [(qx, zO 9 9 (zc0 u v)), ((u 0), zO 7 6 (zc1 u v)), (qm, zO 10 83 (zc71 u v)), (qo, zJ K 1 (fun _ => 0))] H := hP.sub [0, 1, 71, 123] rfl
  have hD : va_D A [(qx, zO 9 9 (zc0 u v)), ((u 0), zO 7 6 (zc1 u v)), (qm, zO 10 83 (zc71 u v)), (qo, zJ K 1 (fun _ => 0))] := hD.sub [0, 1, 71, 123] (by decide +kernel) rfl
  refine lv_aload_n hx hb dL_law_822 rfl (lv_at hl 3 rfl) ?_
  refine lv_aload_n hx hb dL_law_823 rfl (lv_at hl 4 rfl) ?_
  refine lv_iload hx hb dL_law_824 (lv_at hl 0 rfl) ?_
  refine lv_iconst (v := 1) hx hb dL_law_826 (by decide) ?_
  refine lv_iadd hx hb dL_law_827 ?_
  refine z_cst (v := 1) (by decide +kernel) ?_
  refine z_sld (v := (xs 1)) (j := 1) hx hb hX hbl hbA hS rfl (Nat.le_of_ble_eq_true rfl) rfl dL_law_828 ?_
  refine lv_aload_n hx hb dL_law_829 rfl (lv_at hl 4 rfl) ?_
  refine lv_iload hx hb dL_law_830 (lv_at hl 0 rfl) ?_
  refine lv_iconst (v := 2) hx hb dL_law_832 (by decide) ?_
  refine lv_iadd hx hb dL_law_833 ?_
  refine z_cst (v := 2) (by decide +kernel) ?_
  refine z_sld (v := (xs 2)) (j := 2) hx hb hX hbl hbA hS rfl (Nat.le_of_ble_eq_true rfl) rfl dL_law_834 ?_
  refine lv_aload_n hx hb dL_law_835 rfl (lv_at hl 4 rfl) ?_
  refine lv_iload hx hb dL_law_836 (lv_at hl 0 rfl) ?_
  refine lv_iconst (v := 3) hx hb dL_law_838 (by decide) ?_
  refine lv_iadd hx hb dL_law_839 ?_
  refine z_cst (v := 3) (by decide +kernel) ?_
  refine z_sld (v := (xs 3)) (j := 3) hx hb hX hbl hbA hS rfl (Nat.le_of_ble_eq_true rfl) rfl dL_law_840 ?_
  refine lv_aload_n hx hb dL_law_841 rfl (lv_at hl 1 rfl) ?_
  refine z_hcalli [(qx, zO 9 9 (zc0 u v)), ((u 0), zO 7 6 (zc1 u v))] [(qm, zO 10 83 (zc71 u v)), (qo, zJ K 1 (fun _ => 0))] [0, 1] [2, 3] hP hD hS hA rfl rfl (by decide +kernel) (by decide +kernel) (by decide +kernel) 125 1863522 rfl rfl (fun hPc hDc hF => z_xrunH (As := [.ref qx, .int (xs 1), .int (xs 2), .int (xs 3), .ref qo]) (rest := []) ⟨hx, hb, hml, hown, hg⟩ (cL_prim_3 l hl9 K H.size qx qo (u 0) (zc0 u v) (zc1 u v) (xs 1) (xs 2) (xs 3) (zc0_0 u v) (by rw [Int32.lt_iff_toInt_lt, show (0 : Int32).toInt = 0 from by decide]; omega) (zc1_5 u v) (by rw [Int32.le_iff_toInt_le, show (0 : Int32).toInt = 0 from by decide]; omega)) kS_RL_135 hd_L_prim rfl rfl ⟨(Nat.le_of_ble_eq_true rfl), (Nat.le_of_ble_eq_true rfl)⟩ hK hS hZ hPc hDc hF rfl hl.1 rfl (Nat.le_of_ble_eq_true rfl) dL_law_842 ⟨(Nat.le_of_ble_eq_true rfl), (Nat.le_of_ble_eq_true rfl)⟩) (fun r3 u1 H locs w2 hP hD hS => ?_)
  subst w2
  have hP : va_P K.1 classes [(qm, zO 10 83 (zc71 u v)), (qo, zJ K 1 (fun _ => 0))] H := hP
  have hD : va_D A [(qm, zO 10 83 (zc71 u v)), (qo, zJ K 1 (fun _ => 0))] := hD
  refine lv_istore (lv' := [(5, .int 1), (4, .int 0), (3, .ref qo), (2, .ref qm), (1, .ref qx), (0, .ref b)]) hx hb dL_law_845 hl (by decide) rfl (fun ls hl => ?_)
  refine lv_aload_n hx hb dL_law_847 rfl (lv_at hl 3 rfl) ?_
  refine lv_aload_n hx hb dL_law_848 rfl (lv_at hl 5 rfl) ?_
  refine lv_iload hx hb dL_law_849 (lv_at hl 1 rfl) ?_
  refine lv_iconst (v := 1) hx hb dL_law_851 (by decide) ?_
  refine lv_iadd hx hb dL_law_852 ?_
  refine z_cst (v := 1) (by decide +kernel) ?_
  refine z_sld (v := (xs 1)) (j := 1) hx hb hX hbl hbA hS rfl (Nat.le_of_ble_eq_true rfl) rfl dL_law_853 ?_
  refine lv_aload_n hx hb dL_law_854 rfl (lv_at hl 5 rfl) ?_
  refine lv_iload hx hb dL_law_855 (lv_at hl 1 rfl) ?_
  refine lv_iconst (v := 2) hx hb dL_law_857 (by decide) ?_
  refine lv_iadd hx hb dL_law_858 ?_
  refine z_cst (v := 2) (by decide +kernel) ?_
  refine z_sld (v := (xs 2)) (j := 2) hx hb hX hbl hbA hS rfl (Nat.le_of_ble_eq_true rfl) rfl dL_law_859 ?_
  refine lv_aload_n hx hb dL_law_860 rfl (lv_at hl 5 rfl) ?_
  refine lv_iload hx hb dL_law_861 (lv_at hl 1 rfl) ?_
  refine lv_iconst (v := 3) hx hb dL_law_863 (by decide) ?_
  refine lv_iadd hx hb dL_law_864 ?_
  refine z_cst (v := 3) (by decide +kernel) ?_
  refine z_sld (v := (xs 3)) (j := 3) hx hb hX hbl hbA hS rfl (Nat.le_of_ble_eq_true rfl) rfl dL_law_865 ?_
  refine z_calli [(qm, zO 10 83 (zc71 u v))] [(qo, zJ K 1 (fun _ => 0))] [0] [1] hP hD hS hA rfl rfl (by decide +kernel) (by decide +kernel) (by decide +kernel) 125 1863522 rfl rfl (fun hPc hDc hF => z_runV (As := [.int (xs 1), .int (xs 2), .int (xs 3)]) (rest := []) ⟨hx, hb, hml, hown, hg⟩ (cX12_prim_4 l K H.size qm (zc71 u v) (xs 1) (xs 2) (xs 3) (zc71_0 u v) (by rw [Int32.lt_iff_toInt_lt, show (0 : Int32).toInt = 0 from by decide]; omega) (by rw [Int32.lt_iff_toInt_lt, show (-1 : Int32).toInt = -1 from by decide]; omega) (by rw [Int32.lt_iff_toInt_lt, show (0 : Int32).toInt = 0 from by decide]; omega)) kV_RL_137 hd_X12_prim rfl rfl ⟨(Nat.le_of_ble_eq_true rfl), (Nat.le_of_ble_eq_true rfl)⟩ hK hS hZ hPc hDc hF 0 rfl rfl rfl hl.1 rfl (Nat.le_of_ble_eq_true rfl) dL_law_866 ⟨(Nat.le_of_ble_eq_true rfl), (Nat.le_of_ble_eq_true rfl)⟩) (fun r6 u4 H locs w5 hP hD hS => ?_)
  subst w5
  have hP : va_P K.1 classes [(qo, zJ K 1 (fun _ => 0)), (qm, zO 10 83 (va_up (zc71 u v) 81 (.int 1)))] H := hP
  have hD : va_D A [(qo, zJ K 1 (fun _ => 0)), (qm, zO 10 83 (va_up (zc71 u v) 81 (.int 1)))] := hD
  refine lv_istore (lv' := [(6, .int 0), (5, .int 1), (4, .int 0), (3, .ref qo), (2, .ref qm), (1, .ref qx), (0, .ref b)]) hx hb dL_law_869 hl (by decide) rfl (fun ls hl => ?_)
  refine lv_aload_n hx hb dL_law_871 rfl (lv_at hl 4 rfl) ?_
  refine z_calli [(qm, zO 10 83 (va_up (zc71 u v) 81 (.int 1)))] [(qo, zJ K 1 (fun _ => 0))] [1] [0] hP hD hS hA rfl rfl (by decide +kernel) (by decide +kernel) (by decide +kernel) 125 1863522 rfl rfl (fun hPc hDc hF => z_runV (As := []) (rest := []) ⟨hx, hb, hml, hown, hg⟩ (cX12_thrown_2 l K H.size qm (va_up (zc71 u v) 81 (.int 1)) zu_eq) kV_RL_104 hd_X12_thrown rfl rfl ⟨(Nat.le_of_ble_eq_true rfl), (Nat.le_of_ble_eq_true rfl)⟩ hK hS hZ hPc hDc hF 0 rfl rfl rfl hl.1 rfl (Nat.le_of_ble_eq_true rfl) dL_law_872 ⟨(Nat.le_of_ble_eq_true rfl), (Nat.le_of_ble_eq_true rfl)⟩) (fun r9 u7 H locs w8 hP hD hS => ?_)
  subst w8
  have hP : va_P K.1 classes [(qo, zJ K 1 (fun _ => 0)), (qm, zO 10 83 (va_up (zc71 u v) 81 (.int 1)))] H := hP
  have hD : va_D A [(qo, zJ K 1 (fun _ => 0)), (qm, zO 10 83 (va_up (zc71 u v) 81 (.int 1)))] := hD
  refine lv_iload hx hb dL_law_875 (lv_at hl 1 rfl) ?_
  refine lv_icmp_eq (tgt := 882) hx hb dL_law_877 (by decide) (fun _ => ?_) (fun c => absurd (by decide) c)
  refine lv_iload hx hb dL_law_882 (lv_at hl 1 rfl) ?_
  refine lv_if_ne (tgt := 899) hx hb dL_law_884 (by decide) (fun _ => ?_) (fun c => absurd c (by decide))
  refine lv_goto (tgt := 2026) hx hb dL_law_899 (by decide) ?_
  exact law_back ⟨hx, hb, hr, hml, hown, hg, hX, hbl, hlocks, hK, hZ, hl9, hAA, hA, hbA⟩ (Nat.le_of_ble_eq_true rfl) (Nat.le_of_ble_eq_true rfl) hS (lv_sub hl [2, 6] rfl)
set_option maxHeartbeats 4000000 in
set_option maxRecDepth 100000 in
theorem lawS_9_4 {p : Program} {l : Launch} {e : Env} {s : State} {m : MethodId} {below : List Frame} {meth : Method} {c : Code} {b : Nat} {xs : Nat → Int32} {K : zK} {A : Nat → Prop} {H : Heap} {locs : List Loc} {ls : Array Slot} (C : zC p l s m meth c b xs K A) (qx qm qo : Nat) (u v : Nat → Nat) (h0 : 0 ≤ (xs 2).toInt) (h1 : 0 ≤ (xs 1).toInt) (h2 : (xs 1).toInt < 5) (hP : va_P K.1 classes (lwW K qx qm qo u v) H) (hD : va_D A (lwW K qx qm qo u v)) (hS : va_S A s.heap H locs) (hl : lv_has ls 7 [(4, .int 0), (3, .ref qo), (2, .ref qm), (1, .ref qx), (0, .ref b)]) : W p l e room_1 s m #[Value.ref b] below meth c H locs 124 1863516 (lw_Z below #[Value.ref b] s) (F0 m 822 ls []) := by
  obtain ⟨hx, hb, hr, hml, hown, hg, hX, hbl, hlocks, hK, hZ, hl9, hAA, hA, hbA⟩ := C
  have hP : va_P K.1 classes [(qx, zO 9 9 (zc0 u v)), ((u 0), zO 7 6 (zc1 u v)), (qm, zO 10 83 (zc71 u v)), (qo, zJ K 1 (fun _ => 0))] H := hP.sub [0, 1, 71, 123] rfl
  have hD : va_D A [(qx, zO 9 9 (zc0 u v)), ((u 0), zO 7 6 (zc1 u v)), (qm, zO 10 83 (zc71 u v)), (qo, zJ K 1 (fun _ => 0))] := hD.sub [0, 1, 71, 123] (by decide +kernel) rfl
  obtain ⟨t1, ht1, v1⟩ : ∃ j : Nat, j < 5 ∧ xs 1 = nI j := z_nat (n := 5) (by omega) (by omega) (by decide)
  refine lv_aload_n hx hb dL_law_822 rfl (lv_at hl 3 rfl) ?_
  refine lv_aload_n hx hb dL_law_823 rfl (lv_at hl 4 rfl) ?_
  refine lv_iload hx hb dL_law_824 (lv_at hl 0 rfl) ?_
  refine lv_iconst (v := 1) hx hb dL_law_826 (by decide) ?_
  refine lv_iadd hx hb dL_law_827 ?_
  refine z_cst (v := 1) (by decide +kernel) ?_
  refine z_sld (v := (nI t1)) (j := 1) hx hb hX hbl hbA hS rfl (Nat.le_of_ble_eq_true rfl) v1 dL_law_828 ?_
  refine lv_aload_n hx hb dL_law_829 rfl (lv_at hl 4 rfl) ?_
  refine lv_iload hx hb dL_law_830 (lv_at hl 0 rfl) ?_
  refine lv_iconst (v := 2) hx hb dL_law_832 (by decide) ?_
  refine lv_iadd hx hb dL_law_833 ?_
  refine z_cst (v := 2) (by decide +kernel) ?_
  refine z_sld (v := (xs 2)) (j := 2) hx hb hX hbl hbA hS rfl (Nat.le_of_ble_eq_true rfl) rfl dL_law_834 ?_
  refine lv_aload_n hx hb dL_law_835 rfl (lv_at hl 4 rfl) ?_
  refine lv_iload hx hb dL_law_836 (lv_at hl 0 rfl) ?_
  refine lv_iconst (v := 3) hx hb dL_law_838 (by decide) ?_
  refine lv_iadd hx hb dL_law_839 ?_
  refine z_cst (v := 3) (by decide +kernel) ?_
  refine z_sld (v := (xs 3)) (j := 3) hx hb hX hbl hbA hS rfl (Nat.le_of_ble_eq_true rfl) rfl dL_law_840 ?_
  refine lv_aload_n hx hb dL_law_841 rfl (lv_at hl 1 rfl) ?_
  refine z_hcalli [(qx, zO 9 9 (zc0 u v)), ((u 0), zO 7 6 (zc1 u v))] [(qm, zO 10 83 (zc71 u v)), (qo, zJ K 1 (fun _ => 0))] [0, 1] [2, 3] hP hD hS hA rfl rfl (by decide +kernel) (by decide +kernel) (by decide +kernel) 125 1863522 rfl rfl (fun hPc hDc hF => z_xrunH (As := [.ref qx, .int (nI t1), .int (xs 2), .int (xs 3), .ref qo]) (rest := []) ⟨hx, hb, hml, hown, hg⟩ (cL_prim_4 l hl9 K H.size qx qo (u 0) (zc0 u v) (zc1 u v) t1 ht1 (xs 2) (xs 3) (zc0_0 u v) (by rw [Int32.lt_iff_toInt_lt, show (0 : Int32).toInt = 0 from by decide]; omega) (zc1_5 u v) (by rw [Int32.le_iff_toInt_le, show (0 : Int32).toInt = 0 from by decide]; omega)) kS_RL_135 hd_L_prim rfl rfl ⟨(Nat.le_of_ble_eq_true rfl), (Nat.le_of_ble_eq_true rfl)⟩ hK hS hZ hPc hDc hF rfl hl.1 rfl (Nat.le_of_ble_eq_true rfl) dL_law_842 ⟨(Nat.le_of_ble_eq_true rfl), (Nat.le_of_ble_eq_true rfl)⟩) (fun r3 u1 H locs w2 hP hD hS => ?_)
  subst w2
  have hP : va_P K.1 classes [(qm, zO 10 83 (zc71 u v)), (qo, zJ K 1 (fun _ => 0))] H := hP
  have hD : va_D A [(qm, zO 10 83 (zc71 u v)), (qo, zJ K 1 (fun _ => 0))] := hD
  refine lv_istore (lv' := [(5, .int 1), (4, .int 0), (3, .ref qo), (2, .ref qm), (1, .ref qx), (0, .ref b)]) hx hb dL_law_845 hl (by decide) rfl (fun ls hl => ?_)
  refine lv_aload_n hx hb dL_law_847 rfl (lv_at hl 3 rfl) ?_
  refine lv_aload_n hx hb dL_law_848 rfl (lv_at hl 5 rfl) ?_
  refine lv_iload hx hb dL_law_849 (lv_at hl 1 rfl) ?_
  refine lv_iconst (v := 1) hx hb dL_law_851 (by decide) ?_
  refine lv_iadd hx hb dL_law_852 ?_
  refine z_cst (v := 1) (by decide +kernel) ?_
  refine z_sld (v := (nI t1)) (j := 1) hx hb hX hbl hbA hS rfl (Nat.le_of_ble_eq_true rfl) v1 dL_law_853 ?_
  refine lv_aload_n hx hb dL_law_854 rfl (lv_at hl 5 rfl) ?_
  refine lv_iload hx hb dL_law_855 (lv_at hl 1 rfl) ?_
  refine lv_iconst (v := 2) hx hb dL_law_857 (by decide) ?_
  refine lv_iadd hx hb dL_law_858 ?_
  refine z_cst (v := 2) (by decide +kernel) ?_
  refine z_sld (v := (xs 2)) (j := 2) hx hb hX hbl hbA hS rfl (Nat.le_of_ble_eq_true rfl) rfl dL_law_859 ?_
  refine lv_aload_n hx hb dL_law_860 rfl (lv_at hl 5 rfl) ?_
  refine lv_iload hx hb dL_law_861 (lv_at hl 1 rfl) ?_
  refine lv_iconst (v := 3) hx hb dL_law_863 (by decide) ?_
  refine lv_iadd hx hb dL_law_864 ?_
  refine z_cst (v := 3) (by decide +kernel) ?_
  refine z_sld (v := (xs 3)) (j := 3) hx hb hX hbl hbA hS rfl (Nat.le_of_ble_eq_true rfl) rfl dL_law_865 ?_
  refine z_calli [(qm, zO 10 83 (zc71 u v))] [(qo, zJ K 1 (fun _ => 0))] [0] [1] hP hD hS hA rfl rfl (by decide +kernel) (by decide +kernel) (by decide +kernel) 125 1863522 rfl rfl (fun hPc hDc hF => z_runV (As := [.int (nI t1), .int (xs 2), .int (xs 3)]) (rest := []) ⟨hx, hb, hml, hown, hg⟩ (cX12_prim_5 l K H.size qm (zc71 u v) t1 ht1 (xs 2) (xs 3) (zc71_0 u v) (by rw [Int32.lt_iff_toInt_lt, show (0 : Int32).toInt = 0 from by decide]; omega) (by rw [Int32.lt_iff_toInt_lt, show (-1 : Int32).toInt = -1 from by decide]; omega)) kV_RL_137 hd_X12_prim rfl rfl ⟨(Nat.le_of_ble_eq_true rfl), (Nat.le_of_ble_eq_true rfl)⟩ hK hS hZ hPc hDc hF 0 rfl rfl rfl hl.1 rfl (Nat.le_of_ble_eq_true rfl) dL_law_866 ⟨(Nat.le_of_ble_eq_true rfl), (Nat.le_of_ble_eq_true rfl)⟩) (fun r6 u4 H locs w5 hP hD hS => ?_)
  subst w5
  have hP : va_P K.1 classes [(qo, zJ K 1 (fun _ => 0)), (qm, zO 10 83 (va_up (zc71 u v) 81 (.int 1)))] H := hP
  have hD : va_D A [(qo, zJ K 1 (fun _ => 0)), (qm, zO 10 83 (va_up (zc71 u v) 81 (.int 1)))] := hD
  refine lv_istore (lv' := [(6, .int 0), (5, .int 1), (4, .int 0), (3, .ref qo), (2, .ref qm), (1, .ref qx), (0, .ref b)]) hx hb dL_law_869 hl (by decide) rfl (fun ls hl => ?_)
  refine lv_aload_n hx hb dL_law_871 rfl (lv_at hl 4 rfl) ?_
  refine z_calli [(qm, zO 10 83 (va_up (zc71 u v) 81 (.int 1)))] [(qo, zJ K 1 (fun _ => 0))] [1] [0] hP hD hS hA rfl rfl (by decide +kernel) (by decide +kernel) (by decide +kernel) 125 1863522 rfl rfl (fun hPc hDc hF => z_runV (As := []) (rest := []) ⟨hx, hb, hml, hown, hg⟩ (cX12_thrown_2 l K H.size qm (va_up (zc71 u v) 81 (.int 1)) zu_eq) kV_RL_104 hd_X12_thrown rfl rfl ⟨(Nat.le_of_ble_eq_true rfl), (Nat.le_of_ble_eq_true rfl)⟩ hK hS hZ hPc hDc hF 0 rfl rfl rfl hl.1 rfl (Nat.le_of_ble_eq_true rfl) dL_law_872 ⟨(Nat.le_of_ble_eq_true rfl), (Nat.le_of_ble_eq_true rfl)⟩) (fun r9 u7 H locs w8 hP hD hS => ?_)
  subst w8
  have hP : va_P K.1 classes [(qo, zJ K 1 (fun _ => 0)), (qm, zO 10 83 (va_up (zc71 u v) 81 (.int 1)))] H := hP
  have hD : va_D A [(qo, zJ K 1 (fun _ => 0)), (qm, zO 10 83 (va_up (zc71 u v) 81 (.int 1)))] := hD
  refine lv_iload hx hb dL_law_875 (lv_at hl 1 rfl) ?_
  refine lv_icmp_eq (tgt := 882) hx hb dL_law_877 (by decide) (fun _ => ?_) (fun c => absurd (by decide) c)
  refine lv_iload hx hb dL_law_882 (lv_at hl 1 rfl) ?_
  refine lv_if_ne (tgt := 899) hx hb dL_law_884 (by decide) (fun _ => ?_) (fun c => absurd c (by decide))
  refine lv_goto (tgt := 2026) hx hb dL_law_899 (by decide) ?_
  exact law_back ⟨hx, hb, hr, hml, hown, hg, hX, hbl, hlocks, hK, hZ, hl9, hAA, hA, hbA⟩ (Nat.le_of_ble_eq_true rfl) (Nat.le_of_ble_eq_true rfl) hS (lv_sub hl [2, 6] rfl)
set_option maxHeartbeats 4000000 in
set_option maxRecDepth 100000 in
theorem lawS_9_5 {p : Program} {l : Launch} {e : Env} {s : State} {m : MethodId} {below : List Frame} {meth : Method} {c : Code} {b : Nat} {xs : Nat → Int32} {K : zK} {A : Nat → Prop} {H : Heap} {locs : List Loc} {ls : Array Slot} (C : zC p l s m meth c b xs K A) (qx qm qo : Nat) (u v : Nat → Nat) (h0 : 0 ≤ (xs 2).toInt) (h1 : 0 ≤ (xs 1).toInt) (h2 : 5 ≤ (xs 1).toInt) (hP : va_P K.1 classes (lwW K qx qm qo u v) H) (hD : va_D A (lwW K qx qm qo u v)) (hS : va_S A s.heap H locs) (hl : lv_has ls 7 [(4, .int 0), (3, .ref qo), (2, .ref qm), (1, .ref qx), (0, .ref b)]) : W p l e room_1 s m #[Value.ref b] below meth c H locs 124 1863516 (lw_Z below #[Value.ref b] s) (F0 m 822 ls []) := by
  obtain ⟨hx, hb, hr, hml, hown, hg, hX, hbl, hlocks, hK, hZ, hl9, hAA, hA, hbA⟩ := C
  have hP : va_P K.1 classes [(qx, zO 9 9 (zc0 u v)), ((u 0), zO 7 6 (zc1 u v)), (qm, zO 10 83 (zc71 u v)), (qo, zJ K 1 (fun _ => 0))] H := hP.sub [0, 1, 71, 123] rfl
  have hD : va_D A [(qx, zO 9 9 (zc0 u v)), ((u 0), zO 7 6 (zc1 u v)), (qm, zO 10 83 (zc71 u v)), (qo, zJ K 1 (fun _ => 0))] := hD.sub [0, 1, 71, 123] (by decide +kernel) rfl
  refine lv_aload_n hx hb dL_law_822 rfl (lv_at hl 3 rfl) ?_
  refine lv_aload_n hx hb dL_law_823 rfl (lv_at hl 4 rfl) ?_
  refine lv_iload hx hb dL_law_824 (lv_at hl 0 rfl) ?_
  refine lv_iconst (v := 1) hx hb dL_law_826 (by decide) ?_
  refine lv_iadd hx hb dL_law_827 ?_
  refine z_cst (v := 1) (by decide +kernel) ?_
  refine z_sld (v := (xs 1)) (j := 1) hx hb hX hbl hbA hS rfl (Nat.le_of_ble_eq_true rfl) rfl dL_law_828 ?_
  refine lv_aload_n hx hb dL_law_829 rfl (lv_at hl 4 rfl) ?_
  refine lv_iload hx hb dL_law_830 (lv_at hl 0 rfl) ?_
  refine lv_iconst (v := 2) hx hb dL_law_832 (by decide) ?_
  refine lv_iadd hx hb dL_law_833 ?_
  refine z_cst (v := 2) (by decide +kernel) ?_
  refine z_sld (v := (xs 2)) (j := 2) hx hb hX hbl hbA hS rfl (Nat.le_of_ble_eq_true rfl) rfl dL_law_834 ?_
  refine lv_aload_n hx hb dL_law_835 rfl (lv_at hl 4 rfl) ?_
  refine lv_iload hx hb dL_law_836 (lv_at hl 0 rfl) ?_
  refine lv_iconst (v := 3) hx hb dL_law_838 (by decide) ?_
  refine lv_iadd hx hb dL_law_839 ?_
  refine z_cst (v := 3) (by decide +kernel) ?_
  refine z_sld (v := (xs 3)) (j := 3) hx hb hX hbl hbA hS rfl (Nat.le_of_ble_eq_true rfl) rfl dL_law_840 ?_
  refine lv_aload_n hx hb dL_law_841 rfl (lv_at hl 1 rfl) ?_
  refine z_hcalli [(qx, zO 9 9 (zc0 u v)), ((u 0), zO 7 6 (zc1 u v))] [(qm, zO 10 83 (zc71 u v)), (qo, zJ K 1 (fun _ => 0))] [0, 1] [2, 3] hP hD hS hA rfl rfl (by decide +kernel) (by decide +kernel) (by decide +kernel) 125 1863522 rfl rfl (fun hPc hDc hF => z_xrunH (As := [.ref qx, .int (xs 1), .int (xs 2), .int (xs 3), .ref qo]) (rest := []) ⟨hx, hb, hml, hown, hg⟩ (cL_prim_3 l hl9 K H.size qx qo (u 0) (zc0 u v) (zc1 u v) (xs 1) (xs 2) (xs 3) (zc0_0 u v) (by rw [Int32.lt_iff_toInt_lt, show (0 : Int32).toInt = 0 from by decide]; omega) (zc1_5 u v) (by rw [Int32.le_iff_toInt_le, show (0 : Int32).toInt = 0 from by decide]; omega)) kS_RL_135 hd_L_prim rfl rfl ⟨(Nat.le_of_ble_eq_true rfl), (Nat.le_of_ble_eq_true rfl)⟩ hK hS hZ hPc hDc hF rfl hl.1 rfl (Nat.le_of_ble_eq_true rfl) dL_law_842 ⟨(Nat.le_of_ble_eq_true rfl), (Nat.le_of_ble_eq_true rfl)⟩) (fun r3 u1 H locs w2 hP hD hS => ?_)
  subst w2
  have hP : va_P K.1 classes [(qm, zO 10 83 (zc71 u v)), (qo, zJ K 1 (fun _ => 0))] H := hP
  have hD : va_D A [(qm, zO 10 83 (zc71 u v)), (qo, zJ K 1 (fun _ => 0))] := hD
  refine lv_istore (lv' := [(5, .int 1), (4, .int 0), (3, .ref qo), (2, .ref qm), (1, .ref qx), (0, .ref b)]) hx hb dL_law_845 hl (by decide) rfl (fun ls hl => ?_)
  refine lv_aload_n hx hb dL_law_847 rfl (lv_at hl 3 rfl) ?_
  refine lv_aload_n hx hb dL_law_848 rfl (lv_at hl 5 rfl) ?_
  refine lv_iload hx hb dL_law_849 (lv_at hl 1 rfl) ?_
  refine lv_iconst (v := 1) hx hb dL_law_851 (by decide) ?_
  refine lv_iadd hx hb dL_law_852 ?_
  refine z_cst (v := 1) (by decide +kernel) ?_
  refine z_sld (v := (xs 1)) (j := 1) hx hb hX hbl hbA hS rfl (Nat.le_of_ble_eq_true rfl) rfl dL_law_853 ?_
  refine lv_aload_n hx hb dL_law_854 rfl (lv_at hl 5 rfl) ?_
  refine lv_iload hx hb dL_law_855 (lv_at hl 1 rfl) ?_
  refine lv_iconst (v := 2) hx hb dL_law_857 (by decide) ?_
  refine lv_iadd hx hb dL_law_858 ?_
  refine z_cst (v := 2) (by decide +kernel) ?_
  refine z_sld (v := (xs 2)) (j := 2) hx hb hX hbl hbA hS rfl (Nat.le_of_ble_eq_true rfl) rfl dL_law_859 ?_
  refine lv_aload_n hx hb dL_law_860 rfl (lv_at hl 5 rfl) ?_
  refine lv_iload hx hb dL_law_861 (lv_at hl 1 rfl) ?_
  refine lv_iconst (v := 3) hx hb dL_law_863 (by decide) ?_
  refine lv_iadd hx hb dL_law_864 ?_
  refine z_cst (v := 3) (by decide +kernel) ?_
  refine z_sld (v := (xs 3)) (j := 3) hx hb hX hbl hbA hS rfl (Nat.le_of_ble_eq_true rfl) rfl dL_law_865 ?_
  refine z_calli [(qm, zO 10 83 (zc71 u v))] [(qo, zJ K 1 (fun _ => 0))] [0] [1] hP hD hS hA rfl rfl (by decide +kernel) (by decide +kernel) (by decide +kernel) 125 1863522 rfl rfl (fun hPc hDc hF => z_runV (As := [.int (xs 1), .int (xs 2), .int (xs 3)]) (rest := []) ⟨hx, hb, hml, hown, hg⟩ (cX12_prim_6 l K H.size qm (zc71 u v) (xs 1) (xs 2) (xs 3) (zc71_0 u v) (by rw [Int32.lt_iff_toInt_lt, show (0 : Int32).toInt = 0 from by decide]; omega) (by rw [Int32.lt_iff_toInt_lt, show (-1 : Int32).toInt = -1 from by decide]; omega) (by rw [Int32.lt_iff_toInt_lt, show (0 : Int32).toInt = 0 from by decide]; omega) (by rw [Int32.lt_iff_toInt_lt, show (4 : Int32).toInt = 4 from by decide]; omega)) kV_RL_137 hd_X12_prim rfl rfl ⟨(Nat.le_of_ble_eq_true rfl), (Nat.le_of_ble_eq_true rfl)⟩ hK hS hZ hPc hDc hF 0 rfl rfl rfl hl.1 rfl (Nat.le_of_ble_eq_true rfl) dL_law_866 ⟨(Nat.le_of_ble_eq_true rfl), (Nat.le_of_ble_eq_true rfl)⟩) (fun r6 u4 H locs w5 hP hD hS => ?_)
  subst w5
  have hP : va_P K.1 classes [(qo, zJ K 1 (fun _ => 0)), (qm, zO 10 83 (va_up (zc71 u v) 81 (.int 1)))] H := hP
  have hD : va_D A [(qo, zJ K 1 (fun _ => 0)), (qm, zO 10 83 (va_up (zc71 u v) 81 (.int 1)))] := hD
  refine lv_istore (lv' := [(6, .int 0), (5, .int 1), (4, .int 0), (3, .ref qo), (2, .ref qm), (1, .ref qx), (0, .ref b)]) hx hb dL_law_869 hl (by decide) rfl (fun ls hl => ?_)
  refine lv_aload_n hx hb dL_law_871 rfl (lv_at hl 4 rfl) ?_
  refine z_calli [(qm, zO 10 83 (va_up (zc71 u v) 81 (.int 1)))] [(qo, zJ K 1 (fun _ => 0))] [1] [0] hP hD hS hA rfl rfl (by decide +kernel) (by decide +kernel) (by decide +kernel) 125 1863522 rfl rfl (fun hPc hDc hF => z_runV (As := []) (rest := []) ⟨hx, hb, hml, hown, hg⟩ (cX12_thrown_2 l K H.size qm (va_up (zc71 u v) 81 (.int 1)) zu_eq) kV_RL_104 hd_X12_thrown rfl rfl ⟨(Nat.le_of_ble_eq_true rfl), (Nat.le_of_ble_eq_true rfl)⟩ hK hS hZ hPc hDc hF 0 rfl rfl rfl hl.1 rfl (Nat.le_of_ble_eq_true rfl) dL_law_872 ⟨(Nat.le_of_ble_eq_true rfl), (Nat.le_of_ble_eq_true rfl)⟩) (fun r9 u7 H locs w8 hP hD hS => ?_)
  subst w8
  have hP : va_P K.1 classes [(qo, zJ K 1 (fun _ => 0)), (qm, zO 10 83 (va_up (zc71 u v) 81 (.int 1)))] H := hP
  have hD : va_D A [(qo, zJ K 1 (fun _ => 0)), (qm, zO 10 83 (va_up (zc71 u v) 81 (.int 1)))] := hD
  refine lv_iload hx hb dL_law_875 (lv_at hl 1 rfl) ?_
  refine lv_icmp_eq (tgt := 882) hx hb dL_law_877 (by decide) (fun _ => ?_) (fun c => absurd (by decide) c)
  refine lv_iload hx hb dL_law_882 (lv_at hl 1 rfl) ?_
  refine lv_if_ne (tgt := 899) hx hb dL_law_884 (by decide) (fun _ => ?_) (fun c => absurd c (by decide))
  refine lv_goto (tgt := 2026) hx hb dL_law_899 (by decide) ?_
  exact law_back ⟨hx, hb, hr, hml, hown, hg, hX, hbl, hlocks, hK, hZ, hl9, hAA, hA, hbA⟩ (Nat.le_of_ble_eq_true rfl) (Nat.le_of_ble_eq_true rfl) hS (lv_sub hl [2, 6] rfl)
theorem lawC_9 {p : Program} {l : Launch} {e : Env} {s : State} {m : MethodId} {below : List Frame} {meth : Method} {c : Code} {b : Nat} {xs : Nat → Int32} {K : zK} {A : Nat → Prop} {H : Heap} {locs : List Loc} {ls : Array Slot} (C : zC p l s m meth c b xs K A) (qx qm qo : Nat) (u v : Nat → Nat) (hP : va_P K.1 classes (lwW K qx qm qo u v) H) (hD : va_D A (lwW K qx qm qo u v)) (hS : va_S A s.heap H locs) (hl : lv_has ls 7 [(4, .int 0), (3, .ref qo), (2, .ref qm), (1, .ref qx), (0, .ref b)]) : W p l e room_1 s m #[Value.ref b] below meth c H locs 124 1863516 (lw_Z below #[Value.ref b] s) (F0 m 822 ls []) := by
  rcases z_split (xs 2) (0) with h0 | h0
  · rcases z_split (xs 1) (0) with h1 | h1
    · exact lawS_9_0 C qx qm qo u v h0 h1 hP hD hS hl
    · rcases z_split (xs 1) (5) with h2 | h2
      · exact lawS_9_1 C qx qm qo u v h0 h1 h2 hP hD hS hl
      · exact lawS_9_2 C qx qm qo u v h0 h1 h2 hP hD hS hl
  · rcases z_split (xs 1) (0) with h1 | h1
    · exact lawS_9_3 C qx qm qo u v h0 h1 hP hD hS hl
    · rcases z_split (xs 1) (5) with h2 | h2
      · exact lawS_9_4 C qx qm qo u v h0 h1 h2 hP hD hS hl
      · exact lawS_9_5 C qx qm qo u v h0 h1 h2 hP hD hS hl
set_option maxHeartbeats 4000000 in
set_option maxRecDepth 100000 in
theorem lawS_10_0 {p : Program} {l : Launch} {e : Env} {s : State} {m : MethodId} {below : List Frame} {meth : Method} {c : Code} {b : Nat} {xs : Nat → Int32} {K : zK} {A : Nat → Prop} {H : Heap} {locs : List Loc} {ls : Array Slot} (C : zC p l s m meth c b xs K A) (qx qm qo : Nat) (u v : Nat → Nat) (h0 : (xs 1).toInt < 0) (hP : va_P K.1 classes (lwW K qx qm qo u v) H) (hD : va_D A (lwW K qx qm qo u v)) (hS : va_S A s.heap H locs) (hl : lv_has ls 7 [(4, .int 0), (3, .ref qo), (2, .ref qm), (1, .ref qx), (0, .ref b)]) : W p l e room_1 s m #[Value.ref b] below meth c H locs 124 1863516 (lw_Z below #[Value.ref b] s) (F0 m 902 ls []) := by
  obtain ⟨hx, hb, hr, hml, hown, hg, hX, hbl, hlocks, hK, hZ, hl9, hAA, hA, hbA⟩ := C
  have hP : va_P K.1 classes [(qx, zO 9 9 (zc0 u v)), ((u 0), zO 7 6 (zc1 u v)), (qm, zO 10 83 (zc71 u v)), (qo, zJ K 1 (fun _ => 0))] H := hP.sub [0, 1, 71, 123] rfl
  have hD : va_D A [(qx, zO 9 9 (zc0 u v)), ((u 0), zO 7 6 (zc1 u v)), (qm, zO 10 83 (zc71 u v)), (qo, zJ K 1 (fun _ => 0))] := hD.sub [0, 1, 71, 123] (by decide +kernel) rfl
  refine lv_aload_n hx hb dL_law_902 rfl (lv_at hl 3 rfl) ?_
  refine lv_aload_n hx hb dL_law_903 rfl (lv_at hl 4 rfl) ?_
  refine lv_iload hx hb dL_law_904 (lv_at hl 0 rfl) ?_
  refine lv_iconst (v := 1) hx hb dL_law_906 (by decide) ?_
  refine lv_iadd hx hb dL_law_907 ?_
  refine z_cst (v := 1) (by decide +kernel) ?_
  refine z_sld (v := (xs 1)) (j := 1) hx hb hX hbl hbA hS rfl (Nat.le_of_ble_eq_true rfl) rfl dL_law_908 ?_
  refine lv_aload_n hx hb dL_law_909 rfl (lv_at hl 4 rfl) ?_
  refine lv_iload hx hb dL_law_910 (lv_at hl 0 rfl) ?_
  refine lv_iconst (v := 2) hx hb dL_law_912 (by decide) ?_
  refine lv_iadd hx hb dL_law_913 ?_
  refine z_cst (v := 2) (by decide +kernel) ?_
  refine z_sld (v := (xs 2)) (j := 2) hx hb hX hbl hbA hS rfl (Nat.le_of_ble_eq_true rfl) rfl dL_law_914 ?_
  refine lv_aload_n hx hb dL_law_915 rfl (lv_at hl 1 rfl) ?_
  refine z_hcalli [(qx, zO 9 9 (zc0 u v)), ((u 0), zO 7 6 (zc1 u v))] [(qm, zO 10 83 (zc71 u v)), (qo, zJ K 1 (fun _ => 0))] [0, 1] [2, 3] hP hD hS hA rfl rfl (by decide +kernel) (by decide +kernel) (by decide +kernel) 125 1863522 rfl rfl (fun hPc hDc hF => z_xrunH (As := [.ref qx, .int (xs 1), .int (xs 2), .ref qo]) (rest := []) ⟨hx, hb, hml, hown, hg⟩ (cL_seq_1 l hl9 K H.size qx qo (u 0) (zc0 u v) (zc1 u v) (xs 1) (xs 2) (zc0_0 u v) (by rw [Int32.lt_iff_toInt_lt, show (0 : Int32).toInt = 0 from by decide]; omega)) kS_RL_138 hd_L_seq rfl rfl ⟨(Nat.le_of_ble_eq_true rfl), (Nat.le_of_ble_eq_true rfl)⟩ hK hS hZ hPc hDc hF rfl hl.1 rfl (Nat.le_of_ble_eq_true rfl) dL_law_916 ⟨(Nat.le_of_ble_eq_true rfl), (Nat.le_of_ble_eq_true rfl)⟩) (fun r3 u1 H locs w2 hP hD hS => ?_)
  subst w2
  have hP : va_P K.1 classes [(qm, zO 10 83 (zc71 u v)), (qo, zJ K 1 (fun _ => 0))] H := hP
  have hD : va_D A [(qm, zO 10 83 (zc71 u v)), (qo, zJ K 1 (fun _ => 0))] := hD
  refine lv_istore (lv' := [(5, .int 1), (4, .int 0), (3, .ref qo), (2, .ref qm), (1, .ref qx), (0, .ref b)]) hx hb dL_law_919 hl (by decide) rfl (fun ls hl => ?_)
  refine lv_aload_n hx hb dL_law_921 rfl (lv_at hl 3 rfl) ?_
  refine lv_aload_n hx hb dL_law_922 rfl (lv_at hl 5 rfl) ?_
  refine lv_iload hx hb dL_law_923 (lv_at hl 1 rfl) ?_
  refine lv_iconst (v := 1) hx hb dL_law_925 (by decide) ?_
  refine lv_iadd hx hb dL_law_926 ?_
  refine z_cst (v := 1) (by decide +kernel) ?_
  refine z_sld (v := (xs 1)) (j := 1) hx hb hX hbl hbA hS rfl (Nat.le_of_ble_eq_true rfl) rfl dL_law_927 ?_
  refine lv_aload_n hx hb dL_law_928 rfl (lv_at hl 5 rfl) ?_
  refine lv_iload hx hb dL_law_929 (lv_at hl 1 rfl) ?_
  refine lv_iconst (v := 2) hx hb dL_law_931 (by decide) ?_
  refine lv_iadd hx hb dL_law_932 ?_
  refine z_cst (v := 2) (by decide +kernel) ?_
  refine z_sld (v := (xs 2)) (j := 2) hx hb hX hbl hbA hS rfl (Nat.le_of_ble_eq_true rfl) rfl dL_law_933 ?_
  refine z_calli [(qm, zO 10 83 (zc71 u v))] [(qo, zJ K 1 (fun _ => 0))] [0] [1] hP hD hS hA rfl rfl (by decide +kernel) (by decide +kernel) (by decide +kernel) 125 1863522 rfl rfl (fun hPc hDc hF => z_runV (As := [.int (xs 1), .int (xs 2)]) (rest := []) ⟨hx, hb, hml, hown, hg⟩ (cX12_seq_1 l K H.size qm (zc71 u v) (xs 1) (xs 2) (zc71_0 u v) (by rw [Int32.lt_iff_toInt_lt, show (0 : Int32).toInt = 0 from by decide]; omega)) kV_RL_140 hd_X12_seq rfl rfl ⟨(Nat.le_of_ble_eq_true rfl), (Nat.le_of_ble_eq_true rfl)⟩ hK hS hZ hPc hDc hF 0 rfl rfl rfl hl.1 rfl (Nat.le_of_ble_eq_true rfl) dL_law_934 ⟨(Nat.le_of_ble_eq_true rfl), (Nat.le_of_ble_eq_true rfl)⟩) (fun r6 u4 H locs w5 hP hD hS => ?_)
  subst w5
  have hP : va_P K.1 classes [(qo, zJ K 1 (fun _ => 0)), (qm, zO 10 83 (va_up (zc71 u v) 81 (.int 1)))] H := hP
  have hD : va_D A [(qo, zJ K 1 (fun _ => 0)), (qm, zO 10 83 (va_up (zc71 u v) 81 (.int 1)))] := hD
  refine lv_istore (lv' := [(6, .int 0), (5, .int 1), (4, .int 0), (3, .ref qo), (2, .ref qm), (1, .ref qx), (0, .ref b)]) hx hb dL_law_937 hl (by decide) rfl (fun ls hl => ?_)
  refine lv_aload_n hx hb dL_law_939 rfl (lv_at hl 4 rfl) ?_
  refine z_calli [(qm, zO 10 83 (va_up (zc71 u v) 81 (.int 1)))] [(qo, zJ K 1 (fun _ => 0))] [1] [0] hP hD hS hA rfl rfl (by decide +kernel) (by decide +kernel) (by decide +kernel) 125 1863522 rfl rfl (fun hPc hDc hF => z_runV (As := []) (rest := []) ⟨hx, hb, hml, hown, hg⟩ (cX12_thrown_2 l K H.size qm (va_up (zc71 u v) 81 (.int 1)) zu_eq) kV_RL_104 hd_X12_thrown rfl rfl ⟨(Nat.le_of_ble_eq_true rfl), (Nat.le_of_ble_eq_true rfl)⟩ hK hS hZ hPc hDc hF 0 rfl rfl rfl hl.1 rfl (Nat.le_of_ble_eq_true rfl) dL_law_940 ⟨(Nat.le_of_ble_eq_true rfl), (Nat.le_of_ble_eq_true rfl)⟩) (fun r9 u7 H locs w8 hP hD hS => ?_)
  subst w8
  have hP : va_P K.1 classes [(qo, zJ K 1 (fun _ => 0)), (qm, zO 10 83 (va_up (zc71 u v) 81 (.int 1)))] H := hP
  have hD : va_D A [(qo, zJ K 1 (fun _ => 0)), (qm, zO 10 83 (va_up (zc71 u v) 81 (.int 1)))] := hD
  refine lv_iload hx hb dL_law_943 (lv_at hl 1 rfl) ?_
  refine lv_icmp_eq (tgt := 950) hx hb dL_law_945 (by decide) (fun _ => ?_) (fun c => absurd (by decide) c)
  refine lv_iload hx hb dL_law_950 (lv_at hl 1 rfl) ?_
  refine lv_if_ne (tgt := 967) hx hb dL_law_952 (by decide) (fun _ => ?_) (fun c => absurd c (by decide))
  refine lv_goto (tgt := 2026) hx hb dL_law_967 (by decide) ?_
  exact law_back ⟨hx, hb, hr, hml, hown, hg, hX, hbl, hlocks, hK, hZ, hl9, hAA, hA, hbA⟩ (Nat.le_of_ble_eq_true rfl) (Nat.le_of_ble_eq_true rfl) hS (lv_sub hl [2, 6] rfl)
set_option maxHeartbeats 4000000 in
set_option maxRecDepth 100000 in
theorem lawS_10_1 {p : Program} {l : Launch} {e : Env} {s : State} {m : MethodId} {below : List Frame} {meth : Method} {c : Code} {b : Nat} {xs : Nat → Int32} {K : zK} {A : Nat → Prop} {H : Heap} {locs : List Loc} {ls : Array Slot} (C : zC p l s m meth c b xs K A) (qx qm qo : Nat) (u v : Nat → Nat) (h0 : 0 ≤ (xs 1).toInt) (hP : va_P K.1 classes (lwW K qx qm qo u v) H) (hD : va_D A (lwW K qx qm qo u v)) (hS : va_S A s.heap H locs) (hl : lv_has ls 7 [(4, .int 0), (3, .ref qo), (2, .ref qm), (1, .ref qx), (0, .ref b)]) : W p l e room_1 s m #[Value.ref b] below meth c H locs 124 1863516 (lw_Z below #[Value.ref b] s) (F0 m 902 ls []) := by
  obtain ⟨hx, hb, hr, hml, hown, hg, hX, hbl, hlocks, hK, hZ, hl9, hAA, hA, hbA⟩ := C
  have hP : va_P K.1 classes [(qx, zO 9 9 (zc0 u v)), ((u 0), zO 7 6 (zc1 u v)), (qm, zO 10 83 (zc71 u v)), (qo, zJ K 1 (fun _ => 0))] H := hP.sub [0, 1, 71, 123] rfl
  have hD : va_D A [(qx, zO 9 9 (zc0 u v)), ((u 0), zO 7 6 (zc1 u v)), (qm, zO 10 83 (zc71 u v)), (qo, zJ K 1 (fun _ => 0))] := hD.sub [0, 1, 71, 123] (by decide +kernel) rfl
  refine lv_aload_n hx hb dL_law_902 rfl (lv_at hl 3 rfl) ?_
  refine lv_aload_n hx hb dL_law_903 rfl (lv_at hl 4 rfl) ?_
  refine lv_iload hx hb dL_law_904 (lv_at hl 0 rfl) ?_
  refine lv_iconst (v := 1) hx hb dL_law_906 (by decide) ?_
  refine lv_iadd hx hb dL_law_907 ?_
  refine z_cst (v := 1) (by decide +kernel) ?_
  refine z_sld (v := (xs 1)) (j := 1) hx hb hX hbl hbA hS rfl (Nat.le_of_ble_eq_true rfl) rfl dL_law_908 ?_
  refine lv_aload_n hx hb dL_law_909 rfl (lv_at hl 4 rfl) ?_
  refine lv_iload hx hb dL_law_910 (lv_at hl 0 rfl) ?_
  refine lv_iconst (v := 2) hx hb dL_law_912 (by decide) ?_
  refine lv_iadd hx hb dL_law_913 ?_
  refine z_cst (v := 2) (by decide +kernel) ?_
  refine z_sld (v := (xs 2)) (j := 2) hx hb hX hbl hbA hS rfl (Nat.le_of_ble_eq_true rfl) rfl dL_law_914 ?_
  refine lv_aload_n hx hb dL_law_915 rfl (lv_at hl 1 rfl) ?_
  refine z_hcalli [(qx, zO 9 9 (zc0 u v)), ((u 0), zO 7 6 (zc1 u v))] [(qm, zO 10 83 (zc71 u v)), (qo, zJ K 1 (fun _ => 0))] [0, 1] [2, 3] hP hD hS hA rfl rfl (by decide +kernel) (by decide +kernel) (by decide +kernel) 125 1863522 rfl rfl (fun hPc hDc hF => z_xrunH (As := [.ref qx, .int (xs 1), .int (xs 2), .ref qo]) (rest := []) ⟨hx, hb, hml, hown, hg⟩ (cL_seq_2 l hl9 K H.size qx qo (u 0) (zc0 u v) (zc1 u v) (xs 1) (xs 2) (zc0_0 u v) (by rw [Int32.lt_iff_toInt_lt, show (0 : Int32).toInt = 0 from by decide]; omega) (zc1_5 u v) (by rw [Int32.le_iff_toInt_le, show (0 : Int32).toInt = 0 from by decide]; omega)) kS_RL_138 hd_L_seq rfl rfl ⟨(Nat.le_of_ble_eq_true rfl), (Nat.le_of_ble_eq_true rfl)⟩ hK hS hZ hPc hDc hF rfl hl.1 rfl (Nat.le_of_ble_eq_true rfl) dL_law_916 ⟨(Nat.le_of_ble_eq_true rfl), (Nat.le_of_ble_eq_true rfl)⟩) (fun r3 u1 H locs w2 hP hD hS => ?_)
  subst w2
  have hP : va_P K.1 classes [(qm, zO 10 83 (zc71 u v)), (qo, zJ K 1 (fun _ => 0))] H := hP
  have hD : va_D A [(qm, zO 10 83 (zc71 u v)), (qo, zJ K 1 (fun _ => 0))] := hD
  refine lv_istore (lv' := [(5, .int 1), (4, .int 0), (3, .ref qo), (2, .ref qm), (1, .ref qx), (0, .ref b)]) hx hb dL_law_919 hl (by decide) rfl (fun ls hl => ?_)
  refine lv_aload_n hx hb dL_law_921 rfl (lv_at hl 3 rfl) ?_
  refine lv_aload_n hx hb dL_law_922 rfl (lv_at hl 5 rfl) ?_
  refine lv_iload hx hb dL_law_923 (lv_at hl 1 rfl) ?_
  refine lv_iconst (v := 1) hx hb dL_law_925 (by decide) ?_
  refine lv_iadd hx hb dL_law_926 ?_
  refine z_cst (v := 1) (by decide +kernel) ?_
  refine z_sld (v := (xs 1)) (j := 1) hx hb hX hbl hbA hS rfl (Nat.le_of_ble_eq_true rfl) rfl dL_law_927 ?_
  refine lv_aload_n hx hb dL_law_928 rfl (lv_at hl 5 rfl) ?_
  refine lv_iload hx hb dL_law_929 (lv_at hl 1 rfl) ?_
  refine lv_iconst (v := 2) hx hb dL_law_931 (by decide) ?_
  refine lv_iadd hx hb dL_law_932 ?_
  refine z_cst (v := 2) (by decide +kernel) ?_
  refine z_sld (v := (xs 2)) (j := 2) hx hb hX hbl hbA hS rfl (Nat.le_of_ble_eq_true rfl) rfl dL_law_933 ?_
  refine z_calli [(qm, zO 10 83 (zc71 u v))] [(qo, zJ K 1 (fun _ => 0))] [0] [1] hP hD hS hA rfl rfl (by decide +kernel) (by decide +kernel) (by decide +kernel) 125 1863522 rfl rfl (fun hPc hDc hF => z_runV (As := [.int (xs 1), .int (xs 2)]) (rest := []) ⟨hx, hb, hml, hown, hg⟩ (cX12_seq_2 l K H.size qm (zc71 u v) (xs 1) (xs 2) (zc71_0 u v) (by rw [Int32.lt_iff_toInt_lt, show (0 : Int32).toInt = 0 from by decide]; omega) (by rw [Int32.lt_iff_toInt_lt, show (-1 : Int32).toInt = -1 from by decide]; omega)) kV_RL_140 hd_X12_seq rfl rfl ⟨(Nat.le_of_ble_eq_true rfl), (Nat.le_of_ble_eq_true rfl)⟩ hK hS hZ hPc hDc hF 0 rfl rfl rfl hl.1 rfl (Nat.le_of_ble_eq_true rfl) dL_law_934 ⟨(Nat.le_of_ble_eq_true rfl), (Nat.le_of_ble_eq_true rfl)⟩) (fun r6 u4 H locs w5 hP hD hS => ?_)
  subst w5
  have hP : va_P K.1 classes [(qo, zJ K 1 (fun _ => 0)), (qm, zO 10 83 (va_up (zc71 u v) 81 (.int 1)))] H := hP
  have hD : va_D A [(qo, zJ K 1 (fun _ => 0)), (qm, zO 10 83 (va_up (zc71 u v) 81 (.int 1)))] := hD
  refine lv_istore (lv' := [(6, .int 0), (5, .int 1), (4, .int 0), (3, .ref qo), (2, .ref qm), (1, .ref qx), (0, .ref b)]) hx hb dL_law_937 hl (by decide) rfl (fun ls hl => ?_)
  refine lv_aload_n hx hb dL_law_939 rfl (lv_at hl 4 rfl) ?_
  refine z_calli [(qm, zO 10 83 (va_up (zc71 u v) 81 (.int 1)))] [(qo, zJ K 1 (fun _ => 0))] [1] [0] hP hD hS hA rfl rfl (by decide +kernel) (by decide +kernel) (by decide +kernel) 125 1863522 rfl rfl (fun hPc hDc hF => z_runV (As := []) (rest := []) ⟨hx, hb, hml, hown, hg⟩ (cX12_thrown_2 l K H.size qm (va_up (zc71 u v) 81 (.int 1)) zu_eq) kV_RL_104 hd_X12_thrown rfl rfl ⟨(Nat.le_of_ble_eq_true rfl), (Nat.le_of_ble_eq_true rfl)⟩ hK hS hZ hPc hDc hF 0 rfl rfl rfl hl.1 rfl (Nat.le_of_ble_eq_true rfl) dL_law_940 ⟨(Nat.le_of_ble_eq_true rfl), (Nat.le_of_ble_eq_true rfl)⟩) (fun r9 u7 H locs w8 hP hD hS => ?_)
  subst w8
  have hP : va_P K.1 classes [(qo, zJ K 1 (fun _ => 0)), (qm, zO 10 83 (va_up (zc71 u v) 81 (.int 1)))] H := hP
  have hD : va_D A [(qo, zJ K 1 (fun _ => 0)), (qm, zO 10 83 (va_up (zc71 u v) 81 (.int 1)))] := hD
  refine lv_iload hx hb dL_law_943 (lv_at hl 1 rfl) ?_
  refine lv_icmp_eq (tgt := 950) hx hb dL_law_945 (by decide) (fun _ => ?_) (fun c => absurd (by decide) c)
  refine lv_iload hx hb dL_law_950 (lv_at hl 1 rfl) ?_
  refine lv_if_ne (tgt := 967) hx hb dL_law_952 (by decide) (fun _ => ?_) (fun c => absurd c (by decide))
  refine lv_goto (tgt := 2026) hx hb dL_law_967 (by decide) ?_
  exact law_back ⟨hx, hb, hr, hml, hown, hg, hX, hbl, hlocks, hK, hZ, hl9, hAA, hA, hbA⟩ (Nat.le_of_ble_eq_true rfl) (Nat.le_of_ble_eq_true rfl) hS (lv_sub hl [2, 6] rfl)
theorem lawC_10 {p : Program} {l : Launch} {e : Env} {s : State} {m : MethodId} {below : List Frame} {meth : Method} {c : Code} {b : Nat} {xs : Nat → Int32} {K : zK} {A : Nat → Prop} {H : Heap} {locs : List Loc} {ls : Array Slot} (C : zC p l s m meth c b xs K A) (qx qm qo : Nat) (u v : Nat → Nat) (hP : va_P K.1 classes (lwW K qx qm qo u v) H) (hD : va_D A (lwW K qx qm qo u v)) (hS : va_S A s.heap H locs) (hl : lv_has ls 7 [(4, .int 0), (3, .ref qo), (2, .ref qm), (1, .ref qx), (0, .ref b)]) : W p l e room_1 s m #[Value.ref b] below meth c H locs 124 1863516 (lw_Z below #[Value.ref b] s) (F0 m 902 ls []) := by
  rcases z_split (xs 1) (0) with h0 | h0
  · exact lawS_10_0 C qx qm qo u v h0 hP hD hS hl
  · exact lawS_10_1 C qx qm qo u v h0 hP hD hS hl
set_option maxHeartbeats 4000000 in
set_option maxRecDepth 100000 in
theorem lawS_11_0 {p : Program} {l : Launch} {e : Env} {s : State} {m : MethodId} {below : List Frame} {meth : Method} {c : Code} {b : Nat} {xs : Nat → Int32} {K : zK} {A : Nat → Prop} {H : Heap} {locs : List Loc} {ls : Array Slot} (C : zC p l s m meth c b xs K A) (qx qm qo : Nat) (u v : Nat → Nat) (h0 : (xs 1).toInt < 0) (hP : va_P K.1 classes (lwW K qx qm qo u v) H) (hD : va_D A (lwW K qx qm qo u v)) (hS : va_S A s.heap H locs) (hl : lv_has ls 7 [(4, .int 0), (3, .ref qo), (2, .ref qm), (1, .ref qx), (0, .ref b)]) : W p l e room_1 s m #[Value.ref b] below meth c H locs 124 1863516 (lw_Z below #[Value.ref b] s) (F0 m 970 ls []) := by
  obtain ⟨hx, hb, hr, hml, hown, hg, hX, hbl, hlocks, hK, hZ, hl9, hAA, hA, hbA⟩ := C
  have hP : va_P K.1 classes [(qx, zO 9 9 (zc0 u v)), ((u 0), zO 7 6 (zc1 u v)), (qm, zO 10 83 (zc71 u v)), (qo, zJ K 1 (fun _ => 0))] H := hP.sub [0, 1, 71, 123] rfl
  have hD : va_D A [(qx, zO 9 9 (zc0 u v)), ((u 0), zO 7 6 (zc1 u v)), (qm, zO 10 83 (zc71 u v)), (qo, zJ K 1 (fun _ => 0))] := hD.sub [0, 1, 71, 123] (by decide +kernel) rfl
  refine lv_aload_n hx hb dL_law_970 rfl (lv_at hl 3 rfl) ?_
  refine lv_aload_n hx hb dL_law_971 rfl (lv_at hl 4 rfl) ?_
  refine lv_iload hx hb dL_law_972 (lv_at hl 0 rfl) ?_
  refine lv_iconst (v := 1) hx hb dL_law_974 (by decide) ?_
  refine lv_iadd hx hb dL_law_975 ?_
  refine z_cst (v := 1) (by decide +kernel) ?_
  refine z_sld (v := (xs 1)) (j := 1) hx hb hX hbl hbA hS rfl (Nat.le_of_ble_eq_true rfl) rfl dL_law_976 ?_
  refine lv_aload_n hx hb dL_law_977 rfl (lv_at hl 1 rfl) ?_
  refine z_hcalli [(qx, zO 9 9 (zc0 u v)), ((u 0), zO 7 6 (zc1 u v))] [(qm, zO 10 83 (zc71 u v)), (qo, zJ K 1 (fun _ => 0))] [0, 1] [2, 3] hP hD hS hA rfl rfl (by decide +kernel) (by decide +kernel) (by decide +kernel) 125 1863522 rfl rfl (fun hPc hDc hF => z_xrunH (As := [.ref qx, .int (xs 1), .ref qo]) (rest := []) ⟨hx, hb, hml, hown, hg⟩ (cL_raise_1 l hl9 K H.size qx qo (u 0) (zc0 u v) (zc1 u v) (xs 1) (zc0_0 u v) (by rw [Int32.lt_iff_toInt_lt, show (0 : Int32).toInt = 0 from by decide]; omega)) kS_RL_141 hd_L_raise rfl rfl ⟨(Nat.le_of_ble_eq_true rfl), (Nat.le_of_ble_eq_true rfl)⟩ hK hS hZ hPc hDc hF rfl hl.1 rfl (Nat.le_of_ble_eq_true rfl) dL_law_978 ⟨(Nat.le_of_ble_eq_true rfl), (Nat.le_of_ble_eq_true rfl)⟩) (fun r3 u1 H locs w2 hP hD hS => ?_)
  subst w2
  have hP : va_P K.1 classes [(qm, zO 10 83 (zc71 u v)), (qo, zJ K 1 (fun _ => 0))] H := hP
  have hD : va_D A [(qm, zO 10 83 (zc71 u v)), (qo, zJ K 1 (fun _ => 0))] := hD
  refine lv_istore (lv' := [(5, .int 1), (4, .int 0), (3, .ref qo), (2, .ref qm), (1, .ref qx), (0, .ref b)]) hx hb dL_law_981 hl (by decide) rfl (fun ls hl => ?_)
  refine lv_aload_n hx hb dL_law_983 rfl (lv_at hl 3 rfl) ?_
  refine lv_aload_n hx hb dL_law_984 rfl (lv_at hl 5 rfl) ?_
  refine lv_iload hx hb dL_law_985 (lv_at hl 1 rfl) ?_
  refine lv_iconst (v := 1) hx hb dL_law_987 (by decide) ?_
  refine lv_iadd hx hb dL_law_988 ?_
  refine z_cst (v := 1) (by decide +kernel) ?_
  refine z_sld (v := (xs 1)) (j := 1) hx hb hX hbl hbA hS rfl (Nat.le_of_ble_eq_true rfl) rfl dL_law_989 ?_
  refine z_calli [(qm, zO 10 83 (zc71 u v))] [(qo, zJ K 1 (fun _ => 0))] [0] [1] hP hD hS hA rfl rfl (by decide +kernel) (by decide +kernel) (by decide +kernel) 125 1863522 rfl rfl (fun hPc hDc hF => z_runV (As := [.int (xs 1)]) (rest := []) ⟨hx, hb, hml, hown, hg⟩ (cX12_raise_1 l K H.size qm (zc71 u v) (xs 1) (zc71_0 u v) (by rw [Int32.lt_iff_toInt_lt, show (0 : Int32).toInt = 0 from by decide]; omega)) kV_RL_143 hd_X12_raise rfl rfl ⟨(Nat.le_of_ble_eq_true rfl), (Nat.le_of_ble_eq_true rfl)⟩ hK hS hZ hPc hDc hF 0 rfl rfl rfl hl.1 rfl (Nat.le_of_ble_eq_true rfl) dL_law_990 ⟨(Nat.le_of_ble_eq_true rfl), (Nat.le_of_ble_eq_true rfl)⟩) (fun r6 u4 H locs w5 hP hD hS => ?_)
  subst w5
  have hP : va_P K.1 classes [(qo, zJ K 1 (fun _ => 0)), (qm, zO 10 83 (va_up (zc71 u v) 81 (.int 1)))] H := hP
  have hD : va_D A [(qo, zJ K 1 (fun _ => 0)), (qm, zO 10 83 (va_up (zc71 u v) 81 (.int 1)))] := hD
  refine lv_istore (lv' := [(6, .int 0), (5, .int 1), (4, .int 0), (3, .ref qo), (2, .ref qm), (1, .ref qx), (0, .ref b)]) hx hb dL_law_993 hl (by decide) rfl (fun ls hl => ?_)
  refine lv_aload_n hx hb dL_law_995 rfl (lv_at hl 4 rfl) ?_
  refine z_calli [(qm, zO 10 83 (va_up (zc71 u v) 81 (.int 1)))] [(qo, zJ K 1 (fun _ => 0))] [1] [0] hP hD hS hA rfl rfl (by decide +kernel) (by decide +kernel) (by decide +kernel) 125 1863522 rfl rfl (fun hPc hDc hF => z_runV (As := []) (rest := []) ⟨hx, hb, hml, hown, hg⟩ (cX12_thrown_2 l K H.size qm (va_up (zc71 u v) 81 (.int 1)) zu_eq) kV_RL_104 hd_X12_thrown rfl rfl ⟨(Nat.le_of_ble_eq_true rfl), (Nat.le_of_ble_eq_true rfl)⟩ hK hS hZ hPc hDc hF 0 rfl rfl rfl hl.1 rfl (Nat.le_of_ble_eq_true rfl) dL_law_996 ⟨(Nat.le_of_ble_eq_true rfl), (Nat.le_of_ble_eq_true rfl)⟩) (fun r9 u7 H locs w8 hP hD hS => ?_)
  subst w8
  have hP : va_P K.1 classes [(qo, zJ K 1 (fun _ => 0)), (qm, zO 10 83 (va_up (zc71 u v) 81 (.int 1)))] H := hP
  have hD : va_D A [(qo, zJ K 1 (fun _ => 0)), (qm, zO 10 83 (va_up (zc71 u v) 81 (.int 1)))] := hD
  refine lv_iload hx hb dL_law_999 (lv_at hl 1 rfl) ?_
  refine lv_icmp_eq (tgt := 1006) hx hb dL_law_1001 (by decide) (fun _ => ?_) (fun c => absurd (by decide) c)
  refine lv_iload hx hb dL_law_1006 (lv_at hl 1 rfl) ?_
  refine lv_if_ne (tgt := 1023) hx hb dL_law_1008 (by decide) (fun _ => ?_) (fun c => absurd c (by decide))
  refine lv_goto (tgt := 2026) hx hb dL_law_1023 (by decide) ?_
  exact law_back ⟨hx, hb, hr, hml, hown, hg, hX, hbl, hlocks, hK, hZ, hl9, hAA, hA, hbA⟩ (Nat.le_of_ble_eq_true rfl) (Nat.le_of_ble_eq_true rfl) hS (lv_sub hl [2, 6] rfl)
set_option maxHeartbeats 4000000 in
set_option maxRecDepth 100000 in
theorem lawS_11_1 {p : Program} {l : Launch} {e : Env} {s : State} {m : MethodId} {below : List Frame} {meth : Method} {c : Code} {b : Nat} {xs : Nat → Int32} {K : zK} {A : Nat → Prop} {H : Heap} {locs : List Loc} {ls : Array Slot} (C : zC p l s m meth c b xs K A) (qx qm qo : Nat) (u v : Nat → Nat) (h0 : 0 ≤ (xs 1).toInt) (hP : va_P K.1 classes (lwW K qx qm qo u v) H) (hD : va_D A (lwW K qx qm qo u v)) (hS : va_S A s.heap H locs) (hl : lv_has ls 7 [(4, .int 0), (3, .ref qo), (2, .ref qm), (1, .ref qx), (0, .ref b)]) : W p l e room_1 s m #[Value.ref b] below meth c H locs 124 1863516 (lw_Z below #[Value.ref b] s) (F0 m 970 ls []) := by
  obtain ⟨hx, hb, hr, hml, hown, hg, hX, hbl, hlocks, hK, hZ, hl9, hAA, hA, hbA⟩ := C
  have hP : va_P K.1 classes [(qx, zO 9 9 (zc0 u v)), ((u 0), zO 7 6 (zc1 u v)), (qm, zO 10 83 (zc71 u v)), (qo, zJ K 1 (fun _ => 0))] H := hP.sub [0, 1, 71, 123] rfl
  have hD : va_D A [(qx, zO 9 9 (zc0 u v)), ((u 0), zO 7 6 (zc1 u v)), (qm, zO 10 83 (zc71 u v)), (qo, zJ K 1 (fun _ => 0))] := hD.sub [0, 1, 71, 123] (by decide +kernel) rfl
  refine lv_aload_n hx hb dL_law_970 rfl (lv_at hl 3 rfl) ?_
  refine lv_aload_n hx hb dL_law_971 rfl (lv_at hl 4 rfl) ?_
  refine lv_iload hx hb dL_law_972 (lv_at hl 0 rfl) ?_
  refine lv_iconst (v := 1) hx hb dL_law_974 (by decide) ?_
  refine lv_iadd hx hb dL_law_975 ?_
  refine z_cst (v := 1) (by decide +kernel) ?_
  refine z_sld (v := (xs 1)) (j := 1) hx hb hX hbl hbA hS rfl (Nat.le_of_ble_eq_true rfl) rfl dL_law_976 ?_
  refine lv_aload_n hx hb dL_law_977 rfl (lv_at hl 1 rfl) ?_
  refine z_hcalli [(qx, zO 9 9 (zc0 u v)), ((u 0), zO 7 6 (zc1 u v))] [(qm, zO 10 83 (zc71 u v)), (qo, zJ K 1 (fun _ => 0))] [0, 1] [2, 3] hP hD hS hA rfl rfl (by decide +kernel) (by decide +kernel) (by decide +kernel) 125 1863522 rfl rfl (fun hPc hDc hF => z_xrunH (As := [.ref qx, .int (xs 1), .ref qo]) (rest := []) ⟨hx, hb, hml, hown, hg⟩ (cL_raise_2 l hl9 K H.size qx qo (u 0) (zc0 u v) (zc1 u v) (xs 1) (zc0_0 u v) (by rw [Int32.lt_iff_toInt_lt, show (0 : Int32).toInt = 0 from by decide]; omega) (zc1_5 u v) (by rw [Int32.le_iff_toInt_le, show (0 : Int32).toInt = 0 from by decide]; omega)) kS_RL_141 hd_L_raise rfl rfl ⟨(Nat.le_of_ble_eq_true rfl), (Nat.le_of_ble_eq_true rfl)⟩ hK hS hZ hPc hDc hF rfl hl.1 rfl (Nat.le_of_ble_eq_true rfl) dL_law_978 ⟨(Nat.le_of_ble_eq_true rfl), (Nat.le_of_ble_eq_true rfl)⟩) (fun r3 u1 H locs w2 hP hD hS => ?_)
  subst w2
  have hP : va_P K.1 classes [(qm, zO 10 83 (zc71 u v)), (qo, zJ K 1 (fun _ => 0))] H := hP
  have hD : va_D A [(qm, zO 10 83 (zc71 u v)), (qo, zJ K 1 (fun _ => 0))] := hD
  refine lv_istore (lv' := [(5, .int 1), (4, .int 0), (3, .ref qo), (2, .ref qm), (1, .ref qx), (0, .ref b)]) hx hb dL_law_981 hl (by decide) rfl (fun ls hl => ?_)
  refine lv_aload_n hx hb dL_law_983 rfl (lv_at hl 3 rfl) ?_
  refine lv_aload_n hx hb dL_law_984 rfl (lv_at hl 5 rfl) ?_
  refine lv_iload hx hb dL_law_985 (lv_at hl 1 rfl) ?_
  refine lv_iconst (v := 1) hx hb dL_law_987 (by decide) ?_
  refine lv_iadd hx hb dL_law_988 ?_
  refine z_cst (v := 1) (by decide +kernel) ?_
  refine z_sld (v := (xs 1)) (j := 1) hx hb hX hbl hbA hS rfl (Nat.le_of_ble_eq_true rfl) rfl dL_law_989 ?_
  refine z_calli [(qm, zO 10 83 (zc71 u v))] [(qo, zJ K 1 (fun _ => 0))] [0] [1] hP hD hS hA rfl rfl (by decide +kernel) (by decide +kernel) (by decide +kernel) 125 1863522 rfl rfl (fun hPc hDc hF => z_runV (As := [.int (xs 1)]) (rest := []) ⟨hx, hb, hml, hown, hg⟩ (cX12_raise_2 l K H.size qm (zc71 u v) (xs 1) (zc71_0 u v) (by rw [Int32.lt_iff_toInt_lt, show (0 : Int32).toInt = 0 from by decide]; omega) (by rw [Int32.lt_iff_toInt_lt, show (-1 : Int32).toInt = -1 from by decide]; omega)) kV_RL_143 hd_X12_raise rfl rfl ⟨(Nat.le_of_ble_eq_true rfl), (Nat.le_of_ble_eq_true rfl)⟩ hK hS hZ hPc hDc hF 0 rfl rfl rfl hl.1 rfl (Nat.le_of_ble_eq_true rfl) dL_law_990 ⟨(Nat.le_of_ble_eq_true rfl), (Nat.le_of_ble_eq_true rfl)⟩) (fun r6 u4 H locs w5 hP hD hS => ?_)
  subst w5
  have hP : va_P K.1 classes [(qo, zJ K 1 (fun _ => 0)), (qm, zO 10 83 (va_up (zc71 u v) 81 (.int 1)))] H := hP
  have hD : va_D A [(qo, zJ K 1 (fun _ => 0)), (qm, zO 10 83 (va_up (zc71 u v) 81 (.int 1)))] := hD
  refine lv_istore (lv' := [(6, .int 0), (5, .int 1), (4, .int 0), (3, .ref qo), (2, .ref qm), (1, .ref qx), (0, .ref b)]) hx hb dL_law_993 hl (by decide) rfl (fun ls hl => ?_)
  refine lv_aload_n hx hb dL_law_995 rfl (lv_at hl 4 rfl) ?_
  refine z_calli [(qm, zO 10 83 (va_up (zc71 u v) 81 (.int 1)))] [(qo, zJ K 1 (fun _ => 0))] [1] [0] hP hD hS hA rfl rfl (by decide +kernel) (by decide +kernel) (by decide +kernel) 125 1863522 rfl rfl (fun hPc hDc hF => z_runV (As := []) (rest := []) ⟨hx, hb, hml, hown, hg⟩ (cX12_thrown_2 l K H.size qm (va_up (zc71 u v) 81 (.int 1)) zu_eq) kV_RL_104 hd_X12_thrown rfl rfl ⟨(Nat.le_of_ble_eq_true rfl), (Nat.le_of_ble_eq_true rfl)⟩ hK hS hZ hPc hDc hF 0 rfl rfl rfl hl.1 rfl (Nat.le_of_ble_eq_true rfl) dL_law_996 ⟨(Nat.le_of_ble_eq_true rfl), (Nat.le_of_ble_eq_true rfl)⟩) (fun r9 u7 H locs w8 hP hD hS => ?_)
  subst w8
  have hP : va_P K.1 classes [(qo, zJ K 1 (fun _ => 0)), (qm, zO 10 83 (va_up (zc71 u v) 81 (.int 1)))] H := hP
  have hD : va_D A [(qo, zJ K 1 (fun _ => 0)), (qm, zO 10 83 (va_up (zc71 u v) 81 (.int 1)))] := hD
  refine lv_iload hx hb dL_law_999 (lv_at hl 1 rfl) ?_
  refine lv_icmp_eq (tgt := 1006) hx hb dL_law_1001 (by decide) (fun _ => ?_) (fun c => absurd (by decide) c)
  refine lv_iload hx hb dL_law_1006 (lv_at hl 1 rfl) ?_
  refine lv_if_ne (tgt := 1023) hx hb dL_law_1008 (by decide) (fun _ => ?_) (fun c => absurd c (by decide))
  refine lv_goto (tgt := 2026) hx hb dL_law_1023 (by decide) ?_
  exact law_back ⟨hx, hb, hr, hml, hown, hg, hX, hbl, hlocks, hK, hZ, hl9, hAA, hA, hbA⟩ (Nat.le_of_ble_eq_true rfl) (Nat.le_of_ble_eq_true rfl) hS (lv_sub hl [2, 6] rfl)
theorem lawC_11 {p : Program} {l : Launch} {e : Env} {s : State} {m : MethodId} {below : List Frame} {meth : Method} {c : Code} {b : Nat} {xs : Nat → Int32} {K : zK} {A : Nat → Prop} {H : Heap} {locs : List Loc} {ls : Array Slot} (C : zC p l s m meth c b xs K A) (qx qm qo : Nat) (u v : Nat → Nat) (hP : va_P K.1 classes (lwW K qx qm qo u v) H) (hD : va_D A (lwW K qx qm qo u v)) (hS : va_S A s.heap H locs) (hl : lv_has ls 7 [(4, .int 0), (3, .ref qo), (2, .ref qm), (1, .ref qx), (0, .ref b)]) : W p l e room_1 s m #[Value.ref b] below meth c H locs 124 1863516 (lw_Z below #[Value.ref b] s) (F0 m 970 ls []) := by
  rcases z_split (xs 1) (0) with h0 | h0
  · exact lawS_11_0 C qx qm qo u v h0 hP hD hS hl
  · exact lawS_11_1 C qx qm qo u v h0 hP hD hS hl
set_option maxHeartbeats 4000000 in
set_option maxRecDepth 100000 in
theorem lawS_12_0 {p : Program} {l : Launch} {e : Env} {s : State} {m : MethodId} {below : List Frame} {meth : Method} {c : Code} {b : Nat} {xs : Nat → Int32} {K : zK} {A : Nat → Prop} {H : Heap} {locs : List Loc} {ls : Array Slot} (C : zC p l s m meth c b xs K A) (qx qm qo : Nat) (u v : Nat → Nat) (h0 : (xs 1).toInt < 0) (h1 : (xs 2).toInt < 0) (hP : va_P K.1 classes (lwW K qx qm qo u v) H) (hD : va_D A (lwW K qx qm qo u v)) (hS : va_S A s.heap H locs) (hl : lv_has ls 7 [(4, .int 0), (3, .ref qo), (2, .ref qm), (1, .ref qx), (0, .ref b)]) : W p l e room_1 s m #[Value.ref b] below meth c H locs 124 1863516 (lw_Z below #[Value.ref b] s) (F0 m 1026 ls []) := by
  obtain ⟨hx, hb, hr, hml, hown, hg, hX, hbl, hlocks, hK, hZ, hl9, hAA, hA, hbA⟩ := C
  have hP : va_P K.1 classes [(qx, zO 9 9 (zc0 u v)), ((u 0), zO 7 6 (zc1 u v)), (qm, zO 10 83 (zc71 u v)), (qo, zJ K 1 (fun _ => 0))] H := hP.sub [0, 1, 71, 123] rfl
  have hD : va_D A [(qx, zO 9 9 (zc0 u v)), ((u 0), zO 7 6 (zc1 u v)), (qm, zO 10 83 (zc71 u v)), (qo, zJ K 1 (fun _ => 0))] := hD.sub [0, 1, 71, 123] (by decide +kernel) rfl
  refine lv_aload_n hx hb dL_law_1026 rfl (lv_at hl 3 rfl) ?_
  refine lv_aload_n hx hb dL_law_1027 rfl (lv_at hl 4 rfl) ?_
  refine lv_iload hx hb dL_law_1028 (lv_at hl 0 rfl) ?_
  refine lv_iconst (v := 1) hx hb dL_law_1030 (by decide) ?_
  refine lv_iadd hx hb dL_law_1031 ?_
  refine z_cst (v := 1) (by decide +kernel) ?_
  refine z_sld (v := (xs 1)) (j := 1) hx hb hX hbl hbA hS rfl (Nat.le_of_ble_eq_true rfl) rfl dL_law_1032 ?_
  refine lv_aload_n hx hb dL_law_1033 rfl (lv_at hl 4 rfl) ?_
  refine lv_iload hx hb dL_law_1034 (lv_at hl 0 rfl) ?_
  refine lv_iconst (v := 2) hx hb dL_law_1036 (by decide) ?_
  refine lv_iadd hx hb dL_law_1037 ?_
  refine z_cst (v := 2) (by decide +kernel) ?_
  refine z_sld (v := (xs 2)) (j := 2) hx hb hX hbl hbA hS rfl (Nat.le_of_ble_eq_true rfl) rfl dL_law_1038 ?_
  refine lv_aload_n hx hb dL_law_1039 rfl (lv_at hl 4 rfl) ?_
  refine lv_iload hx hb dL_law_1040 (lv_at hl 0 rfl) ?_
  refine lv_iconst (v := 3) hx hb dL_law_1042 (by decide) ?_
  refine lv_iadd hx hb dL_law_1043 ?_
  refine z_cst (v := 3) (by decide +kernel) ?_
  refine z_sld (v := (xs 3)) (j := 3) hx hb hX hbl hbA hS rfl (Nat.le_of_ble_eq_true rfl) rfl dL_law_1044 ?_
  refine lv_aload_n hx hb dL_law_1045 rfl (lv_at hl 1 rfl) ?_
  refine z_hcalli [(qx, zO 9 9 (zc0 u v)), ((u 0), zO 7 6 (zc1 u v))] [(qm, zO 10 83 (zc71 u v)), (qo, zJ K 1 (fun _ => 0))] [0, 1] [2, 3] hP hD hS hA rfl rfl (by decide +kernel) (by decide +kernel) (by decide +kernel) 125 1863522 rfl rfl (fun hPc hDc hF => z_xrunH (As := [.ref qx, .int (xs 1), .int (xs 2), .int (xs 3), .ref qo]) (rest := []) ⟨hx, hb, hml, hown, hg⟩ (cL_hold_1 l hl9 K H.size qx qo (u 0) (zc0 u v) (zc1 u v) (xs 1) (xs 2) (xs 3) (zc0_0 u v) (by rw [Int32.lt_iff_toInt_lt, show (0 : Int32).toInt = 0 from by decide]; omega)) kS_RL_144 hd_L_hold rfl rfl ⟨(Nat.le_of_ble_eq_true rfl), (Nat.le_of_ble_eq_true rfl)⟩ hK hS hZ hPc hDc hF rfl hl.1 rfl (Nat.le_of_ble_eq_true rfl) dL_law_1046 ⟨(Nat.le_of_ble_eq_true rfl), (Nat.le_of_ble_eq_true rfl)⟩) (fun r3 u1 H locs w2 hP hD hS => ?_)
  subst w2
  have hP : va_P K.1 classes [(qm, zO 10 83 (zc71 u v)), (qo, zJ K 1 (fun _ => 0))] H := hP
  have hD : va_D A [(qm, zO 10 83 (zc71 u v)), (qo, zJ K 1 (fun _ => 0))] := hD
  refine lv_istore (lv' := [(5, .int 1), (4, .int 0), (3, .ref qo), (2, .ref qm), (1, .ref qx), (0, .ref b)]) hx hb dL_law_1049 hl (by decide) rfl (fun ls hl => ?_)
  refine lv_aload_n hx hb dL_law_1051 rfl (lv_at hl 3 rfl) ?_
  refine lv_aload_n hx hb dL_law_1052 rfl (lv_at hl 5 rfl) ?_
  refine lv_iload hx hb dL_law_1053 (lv_at hl 1 rfl) ?_
  refine lv_iconst (v := 1) hx hb dL_law_1055 (by decide) ?_
  refine lv_iadd hx hb dL_law_1056 ?_
  refine z_cst (v := 1) (by decide +kernel) ?_
  refine z_sld (v := (xs 1)) (j := 1) hx hb hX hbl hbA hS rfl (Nat.le_of_ble_eq_true rfl) rfl dL_law_1057 ?_
  refine lv_aload_n hx hb dL_law_1058 rfl (lv_at hl 5 rfl) ?_
  refine lv_iload hx hb dL_law_1059 (lv_at hl 1 rfl) ?_
  refine lv_iconst (v := 2) hx hb dL_law_1061 (by decide) ?_
  refine lv_iadd hx hb dL_law_1062 ?_
  refine z_cst (v := 2) (by decide +kernel) ?_
  refine z_sld (v := (xs 2)) (j := 2) hx hb hX hbl hbA hS rfl (Nat.le_of_ble_eq_true rfl) rfl dL_law_1063 ?_
  refine lv_aload_n hx hb dL_law_1064 rfl (lv_at hl 5 rfl) ?_
  refine lv_iload hx hb dL_law_1065 (lv_at hl 1 rfl) ?_
  refine lv_iconst (v := 3) hx hb dL_law_1067 (by decide) ?_
  refine lv_iadd hx hb dL_law_1068 ?_
  refine z_cst (v := 3) (by decide +kernel) ?_
  refine z_sld (v := (xs 3)) (j := 3) hx hb hX hbl hbA hS rfl (Nat.le_of_ble_eq_true rfl) rfl dL_law_1069 ?_
  refine z_calli [(qm, zO 10 83 (zc71 u v))] [(qo, zJ K 1 (fun _ => 0))] [0] [1] hP hD hS hA rfl rfl (by decide +kernel) (by decide +kernel) (by decide +kernel) 125 1863522 rfl rfl (fun hPc hDc hF => z_runV (As := [.int (xs 1), .int (xs 2), .int (xs 3)]) (rest := []) ⟨hx, hb, hml, hown, hg⟩ (cX12_hold_1 l K H.size qm (zc71 u v) (xs 1) (xs 2) (xs 3) (zc71_0 u v) (by rw [Int32.lt_iff_toInt_lt, show (0 : Int32).toInt = 0 from by decide]; omega) (by rw [Int32.lt_iff_toInt_lt, show (0 : Int32).toInt = 0 from by decide]; omega)) kV_RL_146 hd_X12_hold rfl rfl ⟨(Nat.le_of_ble_eq_true rfl), (Nat.le_of_ble_eq_true rfl)⟩ hK hS hZ hPc hDc hF 0 rfl rfl rfl hl.1 rfl (Nat.le_of_ble_eq_true rfl) dL_law_1070 ⟨(Nat.le_of_ble_eq_true rfl), (Nat.le_of_ble_eq_true rfl)⟩) (fun r6 u4 H locs w5 hP hD hS => ?_)
  subst w5
  have hP : va_P K.1 classes [(qo, zJ K 1 (fun _ => 0)), (qm, zO 10 83 (va_up (zc71 u v) 81 (.int 1)))] H := hP
  have hD : va_D A [(qo, zJ K 1 (fun _ => 0)), (qm, zO 10 83 (va_up (zc71 u v) 81 (.int 1)))] := hD
  refine lv_istore (lv' := [(6, .int 0), (5, .int 1), (4, .int 0), (3, .ref qo), (2, .ref qm), (1, .ref qx), (0, .ref b)]) hx hb dL_law_1073 hl (by decide) rfl (fun ls hl => ?_)
  refine lv_aload_n hx hb dL_law_1075 rfl (lv_at hl 4 rfl) ?_
  refine z_calli [(qm, zO 10 83 (va_up (zc71 u v) 81 (.int 1)))] [(qo, zJ K 1 (fun _ => 0))] [1] [0] hP hD hS hA rfl rfl (by decide +kernel) (by decide +kernel) (by decide +kernel) 125 1863522 rfl rfl (fun hPc hDc hF => z_runV (As := []) (rest := []) ⟨hx, hb, hml, hown, hg⟩ (cX12_thrown_2 l K H.size qm (va_up (zc71 u v) 81 (.int 1)) zu_eq) kV_RL_104 hd_X12_thrown rfl rfl ⟨(Nat.le_of_ble_eq_true rfl), (Nat.le_of_ble_eq_true rfl)⟩ hK hS hZ hPc hDc hF 0 rfl rfl rfl hl.1 rfl (Nat.le_of_ble_eq_true rfl) dL_law_1076 ⟨(Nat.le_of_ble_eq_true rfl), (Nat.le_of_ble_eq_true rfl)⟩) (fun r9 u7 H locs w8 hP hD hS => ?_)
  subst w8
  have hP : va_P K.1 classes [(qo, zJ K 1 (fun _ => 0)), (qm, zO 10 83 (va_up (zc71 u v) 81 (.int 1)))] H := hP
  have hD : va_D A [(qo, zJ K 1 (fun _ => 0)), (qm, zO 10 83 (va_up (zc71 u v) 81 (.int 1)))] := hD
  refine lv_iload hx hb dL_law_1079 (lv_at hl 1 rfl) ?_
  refine lv_icmp_eq (tgt := 1086) hx hb dL_law_1081 (by decide) (fun _ => ?_) (fun c => absurd (by decide) c)
  refine lv_iload hx hb dL_law_1086 (lv_at hl 1 rfl) ?_
  refine lv_if_ne (tgt := 1103) hx hb dL_law_1088 (by decide) (fun _ => ?_) (fun c => absurd c (by decide))
  refine lv_goto (tgt := 2026) hx hb dL_law_1103 (by decide) ?_
  exact law_back ⟨hx, hb, hr, hml, hown, hg, hX, hbl, hlocks, hK, hZ, hl9, hAA, hA, hbA⟩ (Nat.le_of_ble_eq_true rfl) (Nat.le_of_ble_eq_true rfl) hS (lv_sub hl [2, 6] rfl)
set_option maxHeartbeats 4000000 in
set_option maxRecDepth 100000 in
theorem lawS_12_1 {p : Program} {l : Launch} {e : Env} {s : State} {m : MethodId} {below : List Frame} {meth : Method} {c : Code} {b : Nat} {xs : Nat → Int32} {K : zK} {A : Nat → Prop} {H : Heap} {locs : List Loc} {ls : Array Slot} (C : zC p l s m meth c b xs K A) (qx qm qo : Nat) (u v : Nat → Nat) (h0 : (xs 1).toInt < 0) (h1 : 0 ≤ (xs 2).toInt) (h2 : (xs 2).toInt < 16) (hP : va_P K.1 classes (lwW K qx qm qo u v) H) (hD : va_D A (lwW K qx qm qo u v)) (hS : va_S A s.heap H locs) (hl : lv_has ls 7 [(4, .int 0), (3, .ref qo), (2, .ref qm), (1, .ref qx), (0, .ref b)]) : W p l e room_1 s m #[Value.ref b] below meth c H locs 124 1863516 (lw_Z below #[Value.ref b] s) (F0 m 1026 ls []) := by
  obtain ⟨hx, hb, hr, hml, hown, hg, hX, hbl, hlocks, hK, hZ, hl9, hAA, hA, hbA⟩ := C
  have hP : va_P K.1 classes [(qx, zO 9 9 (zc0 u v)), ((u 0), zO 7 6 (zc1 u v)), (qm, zO 10 83 (zc71 u v)), (qo, zJ K 1 (fun _ => 0))] H := hP.sub [0, 1, 71, 123] rfl
  have hD : va_D A [(qx, zO 9 9 (zc0 u v)), ((u 0), zO 7 6 (zc1 u v)), (qm, zO 10 83 (zc71 u v)), (qo, zJ K 1 (fun _ => 0))] := hD.sub [0, 1, 71, 123] (by decide +kernel) rfl
  obtain ⟨t2, ht2, v2⟩ : ∃ j : Nat, j < 16 ∧ xs 2 = nI j := z_nat (n := 16) (by omega) (by omega) (by decide)
  refine lv_aload_n hx hb dL_law_1026 rfl (lv_at hl 3 rfl) ?_
  refine lv_aload_n hx hb dL_law_1027 rfl (lv_at hl 4 rfl) ?_
  refine lv_iload hx hb dL_law_1028 (lv_at hl 0 rfl) ?_
  refine lv_iconst (v := 1) hx hb dL_law_1030 (by decide) ?_
  refine lv_iadd hx hb dL_law_1031 ?_
  refine z_cst (v := 1) (by decide +kernel) ?_
  refine z_sld (v := (xs 1)) (j := 1) hx hb hX hbl hbA hS rfl (Nat.le_of_ble_eq_true rfl) rfl dL_law_1032 ?_
  refine lv_aload_n hx hb dL_law_1033 rfl (lv_at hl 4 rfl) ?_
  refine lv_iload hx hb dL_law_1034 (lv_at hl 0 rfl) ?_
  refine lv_iconst (v := 2) hx hb dL_law_1036 (by decide) ?_
  refine lv_iadd hx hb dL_law_1037 ?_
  refine z_cst (v := 2) (by decide +kernel) ?_
  refine z_sld (v := (nI t2)) (j := 2) hx hb hX hbl hbA hS rfl (Nat.le_of_ble_eq_true rfl) v2 dL_law_1038 ?_
  refine lv_aload_n hx hb dL_law_1039 rfl (lv_at hl 4 rfl) ?_
  refine lv_iload hx hb dL_law_1040 (lv_at hl 0 rfl) ?_
  refine lv_iconst (v := 3) hx hb dL_law_1042 (by decide) ?_
  refine lv_iadd hx hb dL_law_1043 ?_
  refine z_cst (v := 3) (by decide +kernel) ?_
  refine z_sld (v := (xs 3)) (j := 3) hx hb hX hbl hbA hS rfl (Nat.le_of_ble_eq_true rfl) rfl dL_law_1044 ?_
  refine lv_aload_n hx hb dL_law_1045 rfl (lv_at hl 1 rfl) ?_
  refine z_hcalli [(qx, zO 9 9 (zc0 u v)), ((u 0), zO 7 6 (zc1 u v))] [(qm, zO 10 83 (zc71 u v)), (qo, zJ K 1 (fun _ => 0))] [0, 1] [2, 3] hP hD hS hA rfl rfl (by decide +kernel) (by decide +kernel) (by decide +kernel) 125 1863522 rfl rfl (fun hPc hDc hF => z_xrunH (As := [.ref qx, .int (xs 1), .int (nI t2), .int (xs 3), .ref qo]) (rest := []) ⟨hx, hb, hml, hown, hg⟩ (cL_hold_2 l hl9 K H.size qx qo (u 0) (zc0 u v) (zc1 u v) (xs 1) t2 ht2 (xs 3) (zc0_0 u v) (by rw [Int32.lt_iff_toInt_lt, show (0 : Int32).toInt = 0 from by decide]; omega)) kS_RL_144 hd_L_hold rfl rfl ⟨(Nat.le_of_ble_eq_true rfl), (Nat.le_of_ble_eq_true rfl)⟩ hK hS hZ hPc hDc hF rfl hl.1 rfl (Nat.le_of_ble_eq_true rfl) dL_law_1046 ⟨(Nat.le_of_ble_eq_true rfl), (Nat.le_of_ble_eq_true rfl)⟩) (fun r3 u1 H locs w2 hP hD hS => ?_)
  subst w2
  have hP : va_P K.1 classes [(qm, zO 10 83 (zc71 u v)), (qo, zJ K 1 (fun _ => 0))] H := hP
  have hD : va_D A [(qm, zO 10 83 (zc71 u v)), (qo, zJ K 1 (fun _ => 0))] := hD
  refine lv_istore (lv' := [(5, .int 1), (4, .int 0), (3, .ref qo), (2, .ref qm), (1, .ref qx), (0, .ref b)]) hx hb dL_law_1049 hl (by decide) rfl (fun ls hl => ?_)
  refine lv_aload_n hx hb dL_law_1051 rfl (lv_at hl 3 rfl) ?_
  refine lv_aload_n hx hb dL_law_1052 rfl (lv_at hl 5 rfl) ?_
  refine lv_iload hx hb dL_law_1053 (lv_at hl 1 rfl) ?_
  refine lv_iconst (v := 1) hx hb dL_law_1055 (by decide) ?_
  refine lv_iadd hx hb dL_law_1056 ?_
  refine z_cst (v := 1) (by decide +kernel) ?_
  refine z_sld (v := (xs 1)) (j := 1) hx hb hX hbl hbA hS rfl (Nat.le_of_ble_eq_true rfl) rfl dL_law_1057 ?_
  refine lv_aload_n hx hb dL_law_1058 rfl (lv_at hl 5 rfl) ?_
  refine lv_iload hx hb dL_law_1059 (lv_at hl 1 rfl) ?_
  refine lv_iconst (v := 2) hx hb dL_law_1061 (by decide) ?_
  refine lv_iadd hx hb dL_law_1062 ?_
  refine z_cst (v := 2) (by decide +kernel) ?_
  refine z_sld (v := (nI t2)) (j := 2) hx hb hX hbl hbA hS rfl (Nat.le_of_ble_eq_true rfl) v2 dL_law_1063 ?_
  refine lv_aload_n hx hb dL_law_1064 rfl (lv_at hl 5 rfl) ?_
  refine lv_iload hx hb dL_law_1065 (lv_at hl 1 rfl) ?_
  refine lv_iconst (v := 3) hx hb dL_law_1067 (by decide) ?_
  refine lv_iadd hx hb dL_law_1068 ?_
  refine z_cst (v := 3) (by decide +kernel) ?_
  refine z_sld (v := (xs 3)) (j := 3) hx hb hX hbl hbA hS rfl (Nat.le_of_ble_eq_true rfl) rfl dL_law_1069 ?_
  refine z_calli [(qm, zO 10 83 (zc71 u v))] [(qo, zJ K 1 (fun _ => 0))] [0] [1] hP hD hS hA rfl rfl (by decide +kernel) (by decide +kernel) (by decide +kernel) 125 1863522 rfl rfl (fun hPc hDc hF => z_runV (As := [.int (xs 1), .int (nI t2), .int (xs 3)]) (rest := []) ⟨hx, hb, hml, hown, hg⟩ (cX12_hold_2 l K H.size qm (zc71 u v) (xs 1) t2 ht2 (xs 3) (zc71_0 u v) (by rw [Int32.lt_iff_toInt_lt, show (0 : Int32).toInt = 0 from by decide]; omega)) kV_RL_146 hd_X12_hold rfl rfl ⟨(Nat.le_of_ble_eq_true rfl), (Nat.le_of_ble_eq_true rfl)⟩ hK hS hZ hPc hDc hF 0 rfl rfl rfl hl.1 rfl (Nat.le_of_ble_eq_true rfl) dL_law_1070 ⟨(Nat.le_of_ble_eq_true rfl), (Nat.le_of_ble_eq_true rfl)⟩) (fun r6 u4 H locs w5 hP hD hS => ?_)
  subst w5
  have hP : va_P K.1 classes [(qo, zJ K 1 (fun _ => 0)), (qm, zO 10 83 (va_up (zc71 u v) 81 (.int 1)))] H := hP
  have hD : va_D A [(qo, zJ K 1 (fun _ => 0)), (qm, zO 10 83 (va_up (zc71 u v) 81 (.int 1)))] := hD
  refine lv_istore (lv' := [(6, .int 0), (5, .int 1), (4, .int 0), (3, .ref qo), (2, .ref qm), (1, .ref qx), (0, .ref b)]) hx hb dL_law_1073 hl (by decide) rfl (fun ls hl => ?_)
  refine lv_aload_n hx hb dL_law_1075 rfl (lv_at hl 4 rfl) ?_
  refine z_calli [(qm, zO 10 83 (va_up (zc71 u v) 81 (.int 1)))] [(qo, zJ K 1 (fun _ => 0))] [1] [0] hP hD hS hA rfl rfl (by decide +kernel) (by decide +kernel) (by decide +kernel) 125 1863522 rfl rfl (fun hPc hDc hF => z_runV (As := []) (rest := []) ⟨hx, hb, hml, hown, hg⟩ (cX12_thrown_2 l K H.size qm (va_up (zc71 u v) 81 (.int 1)) zu_eq) kV_RL_104 hd_X12_thrown rfl rfl ⟨(Nat.le_of_ble_eq_true rfl), (Nat.le_of_ble_eq_true rfl)⟩ hK hS hZ hPc hDc hF 0 rfl rfl rfl hl.1 rfl (Nat.le_of_ble_eq_true rfl) dL_law_1076 ⟨(Nat.le_of_ble_eq_true rfl), (Nat.le_of_ble_eq_true rfl)⟩) (fun r9 u7 H locs w8 hP hD hS => ?_)
  subst w8
  have hP : va_P K.1 classes [(qo, zJ K 1 (fun _ => 0)), (qm, zO 10 83 (va_up (zc71 u v) 81 (.int 1)))] H := hP
  have hD : va_D A [(qo, zJ K 1 (fun _ => 0)), (qm, zO 10 83 (va_up (zc71 u v) 81 (.int 1)))] := hD
  refine lv_iload hx hb dL_law_1079 (lv_at hl 1 rfl) ?_
  refine lv_icmp_eq (tgt := 1086) hx hb dL_law_1081 (by decide) (fun _ => ?_) (fun c => absurd (by decide) c)
  refine lv_iload hx hb dL_law_1086 (lv_at hl 1 rfl) ?_
  refine lv_if_ne (tgt := 1103) hx hb dL_law_1088 (by decide) (fun _ => ?_) (fun c => absurd c (by decide))
  refine lv_goto (tgt := 2026) hx hb dL_law_1103 (by decide) ?_
  exact law_back ⟨hx, hb, hr, hml, hown, hg, hX, hbl, hlocks, hK, hZ, hl9, hAA, hA, hbA⟩ (Nat.le_of_ble_eq_true rfl) (Nat.le_of_ble_eq_true rfl) hS (lv_sub hl [2, 6] rfl)
set_option maxHeartbeats 4000000 in
set_option maxRecDepth 100000 in
theorem lawS_12_2 {p : Program} {l : Launch} {e : Env} {s : State} {m : MethodId} {below : List Frame} {meth : Method} {c : Code} {b : Nat} {xs : Nat → Int32} {K : zK} {A : Nat → Prop} {H : Heap} {locs : List Loc} {ls : Array Slot} (C : zC p l s m meth c b xs K A) (qx qm qo : Nat) (u v : Nat → Nat) (h0 : (xs 1).toInt < 0) (h1 : 0 ≤ (xs 2).toInt) (h2 : 16 ≤ (xs 2).toInt) (hP : va_P K.1 classes (lwW K qx qm qo u v) H) (hD : va_D A (lwW K qx qm qo u v)) (hS : va_S A s.heap H locs) (hl : lv_has ls 7 [(4, .int 0), (3, .ref qo), (2, .ref qm), (1, .ref qx), (0, .ref b)]) : W p l e room_1 s m #[Value.ref b] below meth c H locs 124 1863516 (lw_Z below #[Value.ref b] s) (F0 m 1026 ls []) := by
  obtain ⟨hx, hb, hr, hml, hown, hg, hX, hbl, hlocks, hK, hZ, hl9, hAA, hA, hbA⟩ := C
  have hP : va_P K.1 classes [(qx, zO 9 9 (zc0 u v)), ((u 0), zO 7 6 (zc1 u v)), (qm, zO 10 83 (zc71 u v)), (qo, zJ K 1 (fun _ => 0))] H := hP.sub [0, 1, 71, 123] rfl
  have hD : va_D A [(qx, zO 9 9 (zc0 u v)), ((u 0), zO 7 6 (zc1 u v)), (qm, zO 10 83 (zc71 u v)), (qo, zJ K 1 (fun _ => 0))] := hD.sub [0, 1, 71, 123] (by decide +kernel) rfl
  refine lv_aload_n hx hb dL_law_1026 rfl (lv_at hl 3 rfl) ?_
  refine lv_aload_n hx hb dL_law_1027 rfl (lv_at hl 4 rfl) ?_
  refine lv_iload hx hb dL_law_1028 (lv_at hl 0 rfl) ?_
  refine lv_iconst (v := 1) hx hb dL_law_1030 (by decide) ?_
  refine lv_iadd hx hb dL_law_1031 ?_
  refine z_cst (v := 1) (by decide +kernel) ?_
  refine z_sld (v := (xs 1)) (j := 1) hx hb hX hbl hbA hS rfl (Nat.le_of_ble_eq_true rfl) rfl dL_law_1032 ?_
  refine lv_aload_n hx hb dL_law_1033 rfl (lv_at hl 4 rfl) ?_
  refine lv_iload hx hb dL_law_1034 (lv_at hl 0 rfl) ?_
  refine lv_iconst (v := 2) hx hb dL_law_1036 (by decide) ?_
  refine lv_iadd hx hb dL_law_1037 ?_
  refine z_cst (v := 2) (by decide +kernel) ?_
  refine z_sld (v := (xs 2)) (j := 2) hx hb hX hbl hbA hS rfl (Nat.le_of_ble_eq_true rfl) rfl dL_law_1038 ?_
  refine lv_aload_n hx hb dL_law_1039 rfl (lv_at hl 4 rfl) ?_
  refine lv_iload hx hb dL_law_1040 (lv_at hl 0 rfl) ?_
  refine lv_iconst (v := 3) hx hb dL_law_1042 (by decide) ?_
  refine lv_iadd hx hb dL_law_1043 ?_
  refine z_cst (v := 3) (by decide +kernel) ?_
  refine z_sld (v := (xs 3)) (j := 3) hx hb hX hbl hbA hS rfl (Nat.le_of_ble_eq_true rfl) rfl dL_law_1044 ?_
  refine lv_aload_n hx hb dL_law_1045 rfl (lv_at hl 1 rfl) ?_
  refine z_hcalli [(qx, zO 9 9 (zc0 u v)), ((u 0), zO 7 6 (zc1 u v))] [(qm, zO 10 83 (zc71 u v)), (qo, zJ K 1 (fun _ => 0))] [0, 1] [2, 3] hP hD hS hA rfl rfl (by decide +kernel) (by decide +kernel) (by decide +kernel) 125 1863522 rfl rfl (fun hPc hDc hF => z_xrunH (As := [.ref qx, .int (xs 1), .int (xs 2), .int (xs 3), .ref qo]) (rest := []) ⟨hx, hb, hml, hown, hg⟩ (cL_hold_1 l hl9 K H.size qx qo (u 0) (zc0 u v) (zc1 u v) (xs 1) (xs 2) (xs 3) (zc0_0 u v) (by rw [Int32.lt_iff_toInt_lt, show (0 : Int32).toInt = 0 from by decide]; omega)) kS_RL_144 hd_L_hold rfl rfl ⟨(Nat.le_of_ble_eq_true rfl), (Nat.le_of_ble_eq_true rfl)⟩ hK hS hZ hPc hDc hF rfl hl.1 rfl (Nat.le_of_ble_eq_true rfl) dL_law_1046 ⟨(Nat.le_of_ble_eq_true rfl), (Nat.le_of_ble_eq_true rfl)⟩) (fun r3 u1 H locs w2 hP hD hS => ?_)
  subst w2
  have hP : va_P K.1 classes [(qm, zO 10 83 (zc71 u v)), (qo, zJ K 1 (fun _ => 0))] H := hP
  have hD : va_D A [(qm, zO 10 83 (zc71 u v)), (qo, zJ K 1 (fun _ => 0))] := hD
  refine lv_istore (lv' := [(5, .int 1), (4, .int 0), (3, .ref qo), (2, .ref qm), (1, .ref qx), (0, .ref b)]) hx hb dL_law_1049 hl (by decide) rfl (fun ls hl => ?_)
  refine lv_aload_n hx hb dL_law_1051 rfl (lv_at hl 3 rfl) ?_
  refine lv_aload_n hx hb dL_law_1052 rfl (lv_at hl 5 rfl) ?_
  refine lv_iload hx hb dL_law_1053 (lv_at hl 1 rfl) ?_
  refine lv_iconst (v := 1) hx hb dL_law_1055 (by decide) ?_
  refine lv_iadd hx hb dL_law_1056 ?_
  refine z_cst (v := 1) (by decide +kernel) ?_
  refine z_sld (v := (xs 1)) (j := 1) hx hb hX hbl hbA hS rfl (Nat.le_of_ble_eq_true rfl) rfl dL_law_1057 ?_
  refine lv_aload_n hx hb dL_law_1058 rfl (lv_at hl 5 rfl) ?_
  refine lv_iload hx hb dL_law_1059 (lv_at hl 1 rfl) ?_
  refine lv_iconst (v := 2) hx hb dL_law_1061 (by decide) ?_
  refine lv_iadd hx hb dL_law_1062 ?_
  refine z_cst (v := 2) (by decide +kernel) ?_
  refine z_sld (v := (xs 2)) (j := 2) hx hb hX hbl hbA hS rfl (Nat.le_of_ble_eq_true rfl) rfl dL_law_1063 ?_
  refine lv_aload_n hx hb dL_law_1064 rfl (lv_at hl 5 rfl) ?_
  refine lv_iload hx hb dL_law_1065 (lv_at hl 1 rfl) ?_
  refine lv_iconst (v := 3) hx hb dL_law_1067 (by decide) ?_
  refine lv_iadd hx hb dL_law_1068 ?_
  refine z_cst (v := 3) (by decide +kernel) ?_
  refine z_sld (v := (xs 3)) (j := 3) hx hb hX hbl hbA hS rfl (Nat.le_of_ble_eq_true rfl) rfl dL_law_1069 ?_
  refine z_calli [(qm, zO 10 83 (zc71 u v))] [(qo, zJ K 1 (fun _ => 0))] [0] [1] hP hD hS hA rfl rfl (by decide +kernel) (by decide +kernel) (by decide +kernel) 125 1863522 rfl rfl (fun hPc hDc hF => z_runV (As := [.int (xs 1), .int (xs 2), .int (xs 3)]) (rest := []) ⟨hx, hb, hml, hown, hg⟩ (cX12_hold_3 l K H.size qm (zc71 u v) (xs 1) (xs 2) (xs 3) (zc71_0 u v) (by rw [Int32.lt_iff_toInt_lt, show (0 : Int32).toInt = 0 from by decide]; omega) (by rw [Int32.lt_iff_toInt_lt, show (0 : Int32).toInt = 0 from by decide]; omega) (by rw [Int32.lt_iff_toInt_lt, show (15 : Int32).toInt = 15 from by decide]; omega)) kV_RL_146 hd_X12_hold rfl rfl ⟨(Nat.le_of_ble_eq_true rfl), (Nat.le_of_ble_eq_true rfl)⟩ hK hS hZ hPc hDc hF 0 rfl rfl rfl hl.1 rfl (Nat.le_of_ble_eq_true rfl) dL_law_1070 ⟨(Nat.le_of_ble_eq_true rfl), (Nat.le_of_ble_eq_true rfl)⟩) (fun r6 u4 H locs w5 hP hD hS => ?_)
  subst w5
  have hP : va_P K.1 classes [(qo, zJ K 1 (fun _ => 0)), (qm, zO 10 83 (va_up (zc71 u v) 81 (.int 1)))] H := hP
  have hD : va_D A [(qo, zJ K 1 (fun _ => 0)), (qm, zO 10 83 (va_up (zc71 u v) 81 (.int 1)))] := hD
  refine lv_istore (lv' := [(6, .int 0), (5, .int 1), (4, .int 0), (3, .ref qo), (2, .ref qm), (1, .ref qx), (0, .ref b)]) hx hb dL_law_1073 hl (by decide) rfl (fun ls hl => ?_)
  refine lv_aload_n hx hb dL_law_1075 rfl (lv_at hl 4 rfl) ?_
  refine z_calli [(qm, zO 10 83 (va_up (zc71 u v) 81 (.int 1)))] [(qo, zJ K 1 (fun _ => 0))] [1] [0] hP hD hS hA rfl rfl (by decide +kernel) (by decide +kernel) (by decide +kernel) 125 1863522 rfl rfl (fun hPc hDc hF => z_runV (As := []) (rest := []) ⟨hx, hb, hml, hown, hg⟩ (cX12_thrown_2 l K H.size qm (va_up (zc71 u v) 81 (.int 1)) zu_eq) kV_RL_104 hd_X12_thrown rfl rfl ⟨(Nat.le_of_ble_eq_true rfl), (Nat.le_of_ble_eq_true rfl)⟩ hK hS hZ hPc hDc hF 0 rfl rfl rfl hl.1 rfl (Nat.le_of_ble_eq_true rfl) dL_law_1076 ⟨(Nat.le_of_ble_eq_true rfl), (Nat.le_of_ble_eq_true rfl)⟩) (fun r9 u7 H locs w8 hP hD hS => ?_)
  subst w8
  have hP : va_P K.1 classes [(qo, zJ K 1 (fun _ => 0)), (qm, zO 10 83 (va_up (zc71 u v) 81 (.int 1)))] H := hP
  have hD : va_D A [(qo, zJ K 1 (fun _ => 0)), (qm, zO 10 83 (va_up (zc71 u v) 81 (.int 1)))] := hD
  refine lv_iload hx hb dL_law_1079 (lv_at hl 1 rfl) ?_
  refine lv_icmp_eq (tgt := 1086) hx hb dL_law_1081 (by decide) (fun _ => ?_) (fun c => absurd (by decide) c)
  refine lv_iload hx hb dL_law_1086 (lv_at hl 1 rfl) ?_
  refine lv_if_ne (tgt := 1103) hx hb dL_law_1088 (by decide) (fun _ => ?_) (fun c => absurd c (by decide))
  refine lv_goto (tgt := 2026) hx hb dL_law_1103 (by decide) ?_
  exact law_back ⟨hx, hb, hr, hml, hown, hg, hX, hbl, hlocks, hK, hZ, hl9, hAA, hA, hbA⟩ (Nat.le_of_ble_eq_true rfl) (Nat.le_of_ble_eq_true rfl) hS (lv_sub hl [2, 6] rfl)
set_option maxHeartbeats 4000000 in
set_option maxRecDepth 100000 in
theorem lawS_12_3 {p : Program} {l : Launch} {e : Env} {s : State} {m : MethodId} {below : List Frame} {meth : Method} {c : Code} {b : Nat} {xs : Nat → Int32} {K : zK} {A : Nat → Prop} {H : Heap} {locs : List Loc} {ls : Array Slot} (C : zC p l s m meth c b xs K A) (qx qm qo : Nat) (u v : Nat → Nat) (h0 : 0 ≤ (xs 1).toInt) (h1 : (xs 2).toInt < 0) (hP : va_P K.1 classes (lwW K qx qm qo u v) H) (hD : va_D A (lwW K qx qm qo u v)) (hS : va_S A s.heap H locs) (hl : lv_has ls 7 [(4, .int 0), (3, .ref qo), (2, .ref qm), (1, .ref qx), (0, .ref b)]) : W p l e room_1 s m #[Value.ref b] below meth c H locs 124 1863516 (lw_Z below #[Value.ref b] s) (F0 m 1026 ls []) := by
  obtain ⟨hx, hb, hr, hml, hown, hg, hX, hbl, hlocks, hK, hZ, hl9, hAA, hA, hbA⟩ := C
  have hP : va_P K.1 classes [(qx, zO 9 9 (zc0 u v)), ((u 0), zO 7 6 (zc1 u v)), (qm, zO 10 83 (zc71 u v)), (qo, zJ K 1 (fun _ => 0))] H := hP.sub [0, 1, 71, 123] rfl
  have hD : va_D A [(qx, zO 9 9 (zc0 u v)), ((u 0), zO 7 6 (zc1 u v)), (qm, zO 10 83 (zc71 u v)), (qo, zJ K 1 (fun _ => 0))] := hD.sub [0, 1, 71, 123] (by decide +kernel) rfl
  refine lv_aload_n hx hb dL_law_1026 rfl (lv_at hl 3 rfl) ?_
  refine lv_aload_n hx hb dL_law_1027 rfl (lv_at hl 4 rfl) ?_
  refine lv_iload hx hb dL_law_1028 (lv_at hl 0 rfl) ?_
  refine lv_iconst (v := 1) hx hb dL_law_1030 (by decide) ?_
  refine lv_iadd hx hb dL_law_1031 ?_
  refine z_cst (v := 1) (by decide +kernel) ?_
  refine z_sld (v := (xs 1)) (j := 1) hx hb hX hbl hbA hS rfl (Nat.le_of_ble_eq_true rfl) rfl dL_law_1032 ?_
  refine lv_aload_n hx hb dL_law_1033 rfl (lv_at hl 4 rfl) ?_
  refine lv_iload hx hb dL_law_1034 (lv_at hl 0 rfl) ?_
  refine lv_iconst (v := 2) hx hb dL_law_1036 (by decide) ?_
  refine lv_iadd hx hb dL_law_1037 ?_
  refine z_cst (v := 2) (by decide +kernel) ?_
  refine z_sld (v := (xs 2)) (j := 2) hx hb hX hbl hbA hS rfl (Nat.le_of_ble_eq_true rfl) rfl dL_law_1038 ?_
  refine lv_aload_n hx hb dL_law_1039 rfl (lv_at hl 4 rfl) ?_
  refine lv_iload hx hb dL_law_1040 (lv_at hl 0 rfl) ?_
  refine lv_iconst (v := 3) hx hb dL_law_1042 (by decide) ?_
  refine lv_iadd hx hb dL_law_1043 ?_
  refine z_cst (v := 3) (by decide +kernel) ?_
  refine z_sld (v := (xs 3)) (j := 3) hx hb hX hbl hbA hS rfl (Nat.le_of_ble_eq_true rfl) rfl dL_law_1044 ?_
  refine lv_aload_n hx hb dL_law_1045 rfl (lv_at hl 1 rfl) ?_
  refine z_hcalli [(qx, zO 9 9 (zc0 u v)), ((u 0), zO 7 6 (zc1 u v))] [(qm, zO 10 83 (zc71 u v)), (qo, zJ K 1 (fun _ => 0))] [0, 1] [2, 3] hP hD hS hA rfl rfl (by decide +kernel) (by decide +kernel) (by decide +kernel) 125 1863522 rfl rfl (fun hPc hDc hF => z_xrunH (As := [.ref qx, .int (xs 1), .int (xs 2), .int (xs 3), .ref qo]) (rest := []) ⟨hx, hb, hml, hown, hg⟩ (cL_hold_3 l hl9 K H.size qx qo (u 0) (zc0 u v) (zc1 u v) (xs 1) (xs 2) (xs 3) (zc0_0 u v) (by rw [Int32.lt_iff_toInt_lt, show (0 : Int32).toInt = 0 from by decide]; omega) (zc1_5 u v) (by rw [Int32.le_iff_toInt_le, show (0 : Int32).toInt = 0 from by decide]; omega)) kS_RL_144 hd_L_hold rfl rfl ⟨(Nat.le_of_ble_eq_true rfl), (Nat.le_of_ble_eq_true rfl)⟩ hK hS hZ hPc hDc hF rfl hl.1 rfl (Nat.le_of_ble_eq_true rfl) dL_law_1046 ⟨(Nat.le_of_ble_eq_true rfl), (Nat.le_of_ble_eq_true rfl)⟩) (fun r3 u1 H locs w2 hP hD hS => ?_)
  subst w2
  have hP : va_P K.1 classes [(qm, zO 10 83 (zc71 u v)), (qo, zJ K 1 (fun _ => 0))] H := hP
  have hD : va_D A [(qm, zO 10 83 (zc71 u v)), (qo, zJ K 1 (fun _ => 0))] := hD
  refine lv_istore (lv' := [(5, .int 1), (4, .int 0), (3, .ref qo), (2, .ref qm), (1, .ref qx), (0, .ref b)]) hx hb dL_law_1049 hl (by decide) rfl (fun ls hl => ?_)
  refine lv_aload_n hx hb dL_law_1051 rfl (lv_at hl 3 rfl) ?_
  refine lv_aload_n hx hb dL_law_1052 rfl (lv_at hl 5 rfl) ?_
  refine lv_iload hx hb dL_law_1053 (lv_at hl 1 rfl) ?_
  refine lv_iconst (v := 1) hx hb dL_law_1055 (by decide) ?_
  refine lv_iadd hx hb dL_law_1056 ?_
  refine z_cst (v := 1) (by decide +kernel) ?_
  refine z_sld (v := (xs 1)) (j := 1) hx hb hX hbl hbA hS rfl (Nat.le_of_ble_eq_true rfl) rfl dL_law_1057 ?_
  refine lv_aload_n hx hb dL_law_1058 rfl (lv_at hl 5 rfl) ?_
  refine lv_iload hx hb dL_law_1059 (lv_at hl 1 rfl) ?_
  refine lv_iconst (v := 2) hx hb dL_law_1061 (by decide) ?_
  refine lv_iadd hx hb dL_law_1062 ?_
  refine z_cst (v := 2) (by decide +kernel) ?_
  refine z_sld (v := (xs 2)) (j := 2) hx hb hX hbl hbA hS rfl (Nat.le_of_ble_eq_true rfl) rfl dL_law_1063 ?_
  refine lv_aload_n hx hb dL_law_1064 rfl (lv_at hl 5 rfl) ?_
  refine lv_iload hx hb dL_law_1065 (lv_at hl 1 rfl) ?_
  refine lv_iconst (v := 3) hx hb dL_law_1067 (by decide) ?_
  refine lv_iadd hx hb dL_law_1068 ?_
  refine z_cst (v := 3) (by decide +kernel) ?_
  refine z_sld (v := (xs 3)) (j := 3) hx hb hX hbl hbA hS rfl (Nat.le_of_ble_eq_true rfl) rfl dL_law_1069 ?_
  refine z_calli [(qm, zO 10 83 (zc71 u v))] [(qo, zJ K 1 (fun _ => 0))] [0] [1] hP hD hS hA rfl rfl (by decide +kernel) (by decide +kernel) (by decide +kernel) 125 1863522 rfl rfl (fun hPc hDc hF => z_runV (As := [.int (xs 1), .int (xs 2), .int (xs 3)]) (rest := []) ⟨hx, hb, hml, hown, hg⟩ (cX12_hold_4 l K H.size qm (zc71 u v) (xs 1) (xs 2) (xs 3) (zc71_0 u v) (by rw [Int32.lt_iff_toInt_lt, show (0 : Int32).toInt = 0 from by decide]; omega) (by rw [Int32.lt_iff_toInt_lt, show (-1 : Int32).toInt = -1 from by decide]; omega) (by rw [Int32.lt_iff_toInt_lt, show (0 : Int32).toInt = 0 from by decide]; omega)) kV_RL_146 hd_X12_hold rfl rfl ⟨(Nat.le_of_ble_eq_true rfl), (Nat.le_of_ble_eq_true rfl)⟩ hK hS hZ hPc hDc hF 0 rfl rfl rfl hl.1 rfl (Nat.le_of_ble_eq_true rfl) dL_law_1070 ⟨(Nat.le_of_ble_eq_true rfl), (Nat.le_of_ble_eq_true rfl)⟩) (fun r6 u4 H locs w5 hP hD hS => ?_)
  subst w5
  have hP : va_P K.1 classes [(qo, zJ K 1 (fun _ => 0)), (qm, zO 10 83 (va_up (zc71 u v) 81 (.int 1)))] H := hP
  have hD : va_D A [(qo, zJ K 1 (fun _ => 0)), (qm, zO 10 83 (va_up (zc71 u v) 81 (.int 1)))] := hD
  refine lv_istore (lv' := [(6, .int 0), (5, .int 1), (4, .int 0), (3, .ref qo), (2, .ref qm), (1, .ref qx), (0, .ref b)]) hx hb dL_law_1073 hl (by decide) rfl (fun ls hl => ?_)
  refine lv_aload_n hx hb dL_law_1075 rfl (lv_at hl 4 rfl) ?_
  refine z_calli [(qm, zO 10 83 (va_up (zc71 u v) 81 (.int 1)))] [(qo, zJ K 1 (fun _ => 0))] [1] [0] hP hD hS hA rfl rfl (by decide +kernel) (by decide +kernel) (by decide +kernel) 125 1863522 rfl rfl (fun hPc hDc hF => z_runV (As := []) (rest := []) ⟨hx, hb, hml, hown, hg⟩ (cX12_thrown_2 l K H.size qm (va_up (zc71 u v) 81 (.int 1)) zu_eq) kV_RL_104 hd_X12_thrown rfl rfl ⟨(Nat.le_of_ble_eq_true rfl), (Nat.le_of_ble_eq_true rfl)⟩ hK hS hZ hPc hDc hF 0 rfl rfl rfl hl.1 rfl (Nat.le_of_ble_eq_true rfl) dL_law_1076 ⟨(Nat.le_of_ble_eq_true rfl), (Nat.le_of_ble_eq_true rfl)⟩) (fun r9 u7 H locs w8 hP hD hS => ?_)
  subst w8
  have hP : va_P K.1 classes [(qo, zJ K 1 (fun _ => 0)), (qm, zO 10 83 (va_up (zc71 u v) 81 (.int 1)))] H := hP
  have hD : va_D A [(qo, zJ K 1 (fun _ => 0)), (qm, zO 10 83 (va_up (zc71 u v) 81 (.int 1)))] := hD
  refine lv_iload hx hb dL_law_1079 (lv_at hl 1 rfl) ?_
  refine lv_icmp_eq (tgt := 1086) hx hb dL_law_1081 (by decide) (fun _ => ?_) (fun c => absurd (by decide) c)
  refine lv_iload hx hb dL_law_1086 (lv_at hl 1 rfl) ?_
  refine lv_if_ne (tgt := 1103) hx hb dL_law_1088 (by decide) (fun _ => ?_) (fun c => absurd c (by decide))
  refine lv_goto (tgt := 2026) hx hb dL_law_1103 (by decide) ?_
  exact law_back ⟨hx, hb, hr, hml, hown, hg, hX, hbl, hlocks, hK, hZ, hl9, hAA, hA, hbA⟩ (Nat.le_of_ble_eq_true rfl) (Nat.le_of_ble_eq_true rfl) hS (lv_sub hl [2, 6] rfl)
set_option maxHeartbeats 4000000 in
set_option maxRecDepth 100000 in
theorem lawS_12_4 {p : Program} {l : Launch} {e : Env} {s : State} {m : MethodId} {below : List Frame} {meth : Method} {c : Code} {b : Nat} {xs : Nat → Int32} {K : zK} {A : Nat → Prop} {H : Heap} {locs : List Loc} {ls : Array Slot} (C : zC p l s m meth c b xs K A) (qx qm qo : Nat) (u v : Nat → Nat) (h0 : 0 ≤ (xs 1).toInt) (h1 : 0 ≤ (xs 2).toInt) (h2 : (xs 2).toInt < 16) (hP : va_P K.1 classes (lwW K qx qm qo u v) H) (hD : va_D A (lwW K qx qm qo u v)) (hS : va_S A s.heap H locs) (hl : lv_has ls 7 [(4, .int 0), (3, .ref qo), (2, .ref qm), (1, .ref qx), (0, .ref b)]) : W p l e room_1 s m #[Value.ref b] below meth c H locs 124 1863516 (lw_Z below #[Value.ref b] s) (F0 m 1026 ls []) := by
  obtain ⟨hx, hb, hr, hml, hown, hg, hX, hbl, hlocks, hK, hZ, hl9, hAA, hA, hbA⟩ := C
  have hP : va_P K.1 classes [(qx, zO 9 9 (zc0 u v)), ((u 0), zO 7 6 (zc1 u v)), (qm, zO 10 83 (zc71 u v)), (qo, zJ K 1 (fun _ => 0))] H := hP.sub [0, 1, 71, 123] rfl
  have hD : va_D A [(qx, zO 9 9 (zc0 u v)), ((u 0), zO 7 6 (zc1 u v)), (qm, zO 10 83 (zc71 u v)), (qo, zJ K 1 (fun _ => 0))] := hD.sub [0, 1, 71, 123] (by decide +kernel) rfl
  obtain ⟨t2, ht2, v2⟩ : ∃ j : Nat, j < 16 ∧ xs 2 = nI j := z_nat (n := 16) (by omega) (by omega) (by decide)
  refine lv_aload_n hx hb dL_law_1026 rfl (lv_at hl 3 rfl) ?_
  refine lv_aload_n hx hb dL_law_1027 rfl (lv_at hl 4 rfl) ?_
  refine lv_iload hx hb dL_law_1028 (lv_at hl 0 rfl) ?_
  refine lv_iconst (v := 1) hx hb dL_law_1030 (by decide) ?_
  refine lv_iadd hx hb dL_law_1031 ?_
  refine z_cst (v := 1) (by decide +kernel) ?_
  refine z_sld (v := (xs 1)) (j := 1) hx hb hX hbl hbA hS rfl (Nat.le_of_ble_eq_true rfl) rfl dL_law_1032 ?_
  refine lv_aload_n hx hb dL_law_1033 rfl (lv_at hl 4 rfl) ?_
  refine lv_iload hx hb dL_law_1034 (lv_at hl 0 rfl) ?_
  refine lv_iconst (v := 2) hx hb dL_law_1036 (by decide) ?_
  refine lv_iadd hx hb dL_law_1037 ?_
  refine z_cst (v := 2) (by decide +kernel) ?_
  refine z_sld (v := (nI t2)) (j := 2) hx hb hX hbl hbA hS rfl (Nat.le_of_ble_eq_true rfl) v2 dL_law_1038 ?_
  refine lv_aload_n hx hb dL_law_1039 rfl (lv_at hl 4 rfl) ?_
  refine lv_iload hx hb dL_law_1040 (lv_at hl 0 rfl) ?_
  refine lv_iconst (v := 3) hx hb dL_law_1042 (by decide) ?_
  refine lv_iadd hx hb dL_law_1043 ?_
  refine z_cst (v := 3) (by decide +kernel) ?_
  refine z_sld (v := (xs 3)) (j := 3) hx hb hX hbl hbA hS rfl (Nat.le_of_ble_eq_true rfl) rfl dL_law_1044 ?_
  refine lv_aload_n hx hb dL_law_1045 rfl (lv_at hl 1 rfl) ?_
  refine z_hcalli [(qx, zO 9 9 (zc0 u v)), ((u 0), zO 7 6 (zc1 u v))] [(qm, zO 10 83 (zc71 u v)), (qo, zJ K 1 (fun _ => 0))] [0, 1] [2, 3] hP hD hS hA rfl rfl (by decide +kernel) (by decide +kernel) (by decide +kernel) 125 1863522 rfl rfl (fun hPc hDc hF => z_xrunH (As := [.ref qx, .int (xs 1), .int (nI t2), .int (xs 3), .ref qo]) (rest := []) ⟨hx, hb, hml, hown, hg⟩ (cL_hold_4 l hl9 K H.size qx qo (u 0) (zc0 u v) (zc1 u v) (xs 1) t2 ht2 (xs 3) (zc0_0 u v) (by rw [Int32.lt_iff_toInt_lt, show (0 : Int32).toInt = 0 from by decide]; omega) (zc1_5 u v) (by rw [Int32.le_iff_toInt_le, show (0 : Int32).toInt = 0 from by decide]; omega)) kS_RL_144 hd_L_hold rfl rfl ⟨(Nat.le_of_ble_eq_true rfl), (Nat.le_of_ble_eq_true rfl)⟩ hK hS hZ hPc hDc hF rfl hl.1 rfl (Nat.le_of_ble_eq_true rfl) dL_law_1046 ⟨(Nat.le_of_ble_eq_true rfl), (Nat.le_of_ble_eq_true rfl)⟩) (fun r3 u1 H locs w2 hP hD hS => ?_)
  subst w2
  have hP : va_P K.1 classes [(qm, zO 10 83 (zc71 u v)), (qo, zJ K 1 (fun _ => 0))] H := hP
  have hD : va_D A [(qm, zO 10 83 (zc71 u v)), (qo, zJ K 1 (fun _ => 0))] := hD
  refine lv_istore (lv' := [(5, .int 1), (4, .int 0), (3, .ref qo), (2, .ref qm), (1, .ref qx), (0, .ref b)]) hx hb dL_law_1049 hl (by decide) rfl (fun ls hl => ?_)
  refine lv_aload_n hx hb dL_law_1051 rfl (lv_at hl 3 rfl) ?_
  refine lv_aload_n hx hb dL_law_1052 rfl (lv_at hl 5 rfl) ?_
  refine lv_iload hx hb dL_law_1053 (lv_at hl 1 rfl) ?_
  refine lv_iconst (v := 1) hx hb dL_law_1055 (by decide) ?_
  refine lv_iadd hx hb dL_law_1056 ?_
  refine z_cst (v := 1) (by decide +kernel) ?_
  refine z_sld (v := (xs 1)) (j := 1) hx hb hX hbl hbA hS rfl (Nat.le_of_ble_eq_true rfl) rfl dL_law_1057 ?_
  refine lv_aload_n hx hb dL_law_1058 rfl (lv_at hl 5 rfl) ?_
  refine lv_iload hx hb dL_law_1059 (lv_at hl 1 rfl) ?_
  refine lv_iconst (v := 2) hx hb dL_law_1061 (by decide) ?_
  refine lv_iadd hx hb dL_law_1062 ?_
  refine z_cst (v := 2) (by decide +kernel) ?_
  refine z_sld (v := (nI t2)) (j := 2) hx hb hX hbl hbA hS rfl (Nat.le_of_ble_eq_true rfl) v2 dL_law_1063 ?_
  refine lv_aload_n hx hb dL_law_1064 rfl (lv_at hl 5 rfl) ?_
  refine lv_iload hx hb dL_law_1065 (lv_at hl 1 rfl) ?_
  refine lv_iconst (v := 3) hx hb dL_law_1067 (by decide) ?_
  refine lv_iadd hx hb dL_law_1068 ?_
  refine z_cst (v := 3) (by decide +kernel) ?_
  refine z_sld (v := (xs 3)) (j := 3) hx hb hX hbl hbA hS rfl (Nat.le_of_ble_eq_true rfl) rfl dL_law_1069 ?_
  refine z_calli [(qm, zO 10 83 (zc71 u v))] [(qo, zJ K 1 (fun _ => 0))] [0] [1] hP hD hS hA rfl rfl (by decide +kernel) (by decide +kernel) (by decide +kernel) 125 1863522 rfl rfl (fun hPc hDc hF => z_runV (As := [.int (xs 1), .int (nI t2), .int (xs 3)]) (rest := []) ⟨hx, hb, hml, hown, hg⟩ (cX12_hold_5 l K H.size qm (zc71 u v) (xs 1) t2 ht2 (xs 3) (zc71_0 u v) (by rw [Int32.lt_iff_toInt_lt, show (0 : Int32).toInt = 0 from by decide]; omega) (by rw [Int32.lt_iff_toInt_lt, show (-1 : Int32).toInt = -1 from by decide]; omega)) kV_RL_146 hd_X12_hold rfl rfl ⟨(Nat.le_of_ble_eq_true rfl), (Nat.le_of_ble_eq_true rfl)⟩ hK hS hZ hPc hDc hF 0 rfl rfl rfl hl.1 rfl (Nat.le_of_ble_eq_true rfl) dL_law_1070 ⟨(Nat.le_of_ble_eq_true rfl), (Nat.le_of_ble_eq_true rfl)⟩) (fun r6 u4 H locs w5 hP hD hS => ?_)
  subst w5
  have hP : va_P K.1 classes [(qo, zJ K 1 (fun _ => 0)), (qm, zO 10 83 (va_up (zc71 u v) 81 (.int 1)))] H := hP
  have hD : va_D A [(qo, zJ K 1 (fun _ => 0)), (qm, zO 10 83 (va_up (zc71 u v) 81 (.int 1)))] := hD
  refine lv_istore (lv' := [(6, .int 0), (5, .int 1), (4, .int 0), (3, .ref qo), (2, .ref qm), (1, .ref qx), (0, .ref b)]) hx hb dL_law_1073 hl (by decide) rfl (fun ls hl => ?_)
  refine lv_aload_n hx hb dL_law_1075 rfl (lv_at hl 4 rfl) ?_
  refine z_calli [(qm, zO 10 83 (va_up (zc71 u v) 81 (.int 1)))] [(qo, zJ K 1 (fun _ => 0))] [1] [0] hP hD hS hA rfl rfl (by decide +kernel) (by decide +kernel) (by decide +kernel) 125 1863522 rfl rfl (fun hPc hDc hF => z_runV (As := []) (rest := []) ⟨hx, hb, hml, hown, hg⟩ (cX12_thrown_2 l K H.size qm (va_up (zc71 u v) 81 (.int 1)) zu_eq) kV_RL_104 hd_X12_thrown rfl rfl ⟨(Nat.le_of_ble_eq_true rfl), (Nat.le_of_ble_eq_true rfl)⟩ hK hS hZ hPc hDc hF 0 rfl rfl rfl hl.1 rfl (Nat.le_of_ble_eq_true rfl) dL_law_1076 ⟨(Nat.le_of_ble_eq_true rfl), (Nat.le_of_ble_eq_true rfl)⟩) (fun r9 u7 H locs w8 hP hD hS => ?_)
  subst w8
  have hP : va_P K.1 classes [(qo, zJ K 1 (fun _ => 0)), (qm, zO 10 83 (va_up (zc71 u v) 81 (.int 1)))] H := hP
  have hD : va_D A [(qo, zJ K 1 (fun _ => 0)), (qm, zO 10 83 (va_up (zc71 u v) 81 (.int 1)))] := hD
  refine lv_iload hx hb dL_law_1079 (lv_at hl 1 rfl) ?_
  refine lv_icmp_eq (tgt := 1086) hx hb dL_law_1081 (by decide) (fun _ => ?_) (fun c => absurd (by decide) c)
  refine lv_iload hx hb dL_law_1086 (lv_at hl 1 rfl) ?_
  refine lv_if_ne (tgt := 1103) hx hb dL_law_1088 (by decide) (fun _ => ?_) (fun c => absurd c (by decide))
  refine lv_goto (tgt := 2026) hx hb dL_law_1103 (by decide) ?_
  exact law_back ⟨hx, hb, hr, hml, hown, hg, hX, hbl, hlocks, hK, hZ, hl9, hAA, hA, hbA⟩ (Nat.le_of_ble_eq_true rfl) (Nat.le_of_ble_eq_true rfl) hS (lv_sub hl [2, 6] rfl)
set_option maxHeartbeats 4000000 in
set_option maxRecDepth 100000 in
theorem lawS_12_5 {p : Program} {l : Launch} {e : Env} {s : State} {m : MethodId} {below : List Frame} {meth : Method} {c : Code} {b : Nat} {xs : Nat → Int32} {K : zK} {A : Nat → Prop} {H : Heap} {locs : List Loc} {ls : Array Slot} (C : zC p l s m meth c b xs K A) (qx qm qo : Nat) (u v : Nat → Nat) (h0 : 0 ≤ (xs 1).toInt) (h1 : 0 ≤ (xs 2).toInt) (h2 : 16 ≤ (xs 2).toInt) (hP : va_P K.1 classes (lwW K qx qm qo u v) H) (hD : va_D A (lwW K qx qm qo u v)) (hS : va_S A s.heap H locs) (hl : lv_has ls 7 [(4, .int 0), (3, .ref qo), (2, .ref qm), (1, .ref qx), (0, .ref b)]) : W p l e room_1 s m #[Value.ref b] below meth c H locs 124 1863516 (lw_Z below #[Value.ref b] s) (F0 m 1026 ls []) := by
  obtain ⟨hx, hb, hr, hml, hown, hg, hX, hbl, hlocks, hK, hZ, hl9, hAA, hA, hbA⟩ := C
  have hP : va_P K.1 classes [(qx, zO 9 9 (zc0 u v)), ((u 0), zO 7 6 (zc1 u v)), (qm, zO 10 83 (zc71 u v)), (qo, zJ K 1 (fun _ => 0))] H := hP.sub [0, 1, 71, 123] rfl
  have hD : va_D A [(qx, zO 9 9 (zc0 u v)), ((u 0), zO 7 6 (zc1 u v)), (qm, zO 10 83 (zc71 u v)), (qo, zJ K 1 (fun _ => 0))] := hD.sub [0, 1, 71, 123] (by decide +kernel) rfl
  refine lv_aload_n hx hb dL_law_1026 rfl (lv_at hl 3 rfl) ?_
  refine lv_aload_n hx hb dL_law_1027 rfl (lv_at hl 4 rfl) ?_
  refine lv_iload hx hb dL_law_1028 (lv_at hl 0 rfl) ?_
  refine lv_iconst (v := 1) hx hb dL_law_1030 (by decide) ?_
  refine lv_iadd hx hb dL_law_1031 ?_
  refine z_cst (v := 1) (by decide +kernel) ?_
  refine z_sld (v := (xs 1)) (j := 1) hx hb hX hbl hbA hS rfl (Nat.le_of_ble_eq_true rfl) rfl dL_law_1032 ?_
  refine lv_aload_n hx hb dL_law_1033 rfl (lv_at hl 4 rfl) ?_
  refine lv_iload hx hb dL_law_1034 (lv_at hl 0 rfl) ?_
  refine lv_iconst (v := 2) hx hb dL_law_1036 (by decide) ?_
  refine lv_iadd hx hb dL_law_1037 ?_
  refine z_cst (v := 2) (by decide +kernel) ?_
  refine z_sld (v := (xs 2)) (j := 2) hx hb hX hbl hbA hS rfl (Nat.le_of_ble_eq_true rfl) rfl dL_law_1038 ?_
  refine lv_aload_n hx hb dL_law_1039 rfl (lv_at hl 4 rfl) ?_
  refine lv_iload hx hb dL_law_1040 (lv_at hl 0 rfl) ?_
  refine lv_iconst (v := 3) hx hb dL_law_1042 (by decide) ?_
  refine lv_iadd hx hb dL_law_1043 ?_
  refine z_cst (v := 3) (by decide +kernel) ?_
  refine z_sld (v := (xs 3)) (j := 3) hx hb hX hbl hbA hS rfl (Nat.le_of_ble_eq_true rfl) rfl dL_law_1044 ?_
  refine lv_aload_n hx hb dL_law_1045 rfl (lv_at hl 1 rfl) ?_
  refine z_hcalli [(qx, zO 9 9 (zc0 u v)), ((u 0), zO 7 6 (zc1 u v))] [(qm, zO 10 83 (zc71 u v)), (qo, zJ K 1 (fun _ => 0))] [0, 1] [2, 3] hP hD hS hA rfl rfl (by decide +kernel) (by decide +kernel) (by decide +kernel) 125 1863522 rfl rfl (fun hPc hDc hF => z_xrunH (As := [.ref qx, .int (xs 1), .int (xs 2), .int (xs 3), .ref qo]) (rest := []) ⟨hx, hb, hml, hown, hg⟩ (cL_hold_3 l hl9 K H.size qx qo (u 0) (zc0 u v) (zc1 u v) (xs 1) (xs 2) (xs 3) (zc0_0 u v) (by rw [Int32.lt_iff_toInt_lt, show (0 : Int32).toInt = 0 from by decide]; omega) (zc1_5 u v) (by rw [Int32.le_iff_toInt_le, show (0 : Int32).toInt = 0 from by decide]; omega)) kS_RL_144 hd_L_hold rfl rfl ⟨(Nat.le_of_ble_eq_true rfl), (Nat.le_of_ble_eq_true rfl)⟩ hK hS hZ hPc hDc hF rfl hl.1 rfl (Nat.le_of_ble_eq_true rfl) dL_law_1046 ⟨(Nat.le_of_ble_eq_true rfl), (Nat.le_of_ble_eq_true rfl)⟩) (fun r3 u1 H locs w2 hP hD hS => ?_)
  subst w2
  have hP : va_P K.1 classes [(qm, zO 10 83 (zc71 u v)), (qo, zJ K 1 (fun _ => 0))] H := hP
  have hD : va_D A [(qm, zO 10 83 (zc71 u v)), (qo, zJ K 1 (fun _ => 0))] := hD
  refine lv_istore (lv' := [(5, .int 1), (4, .int 0), (3, .ref qo), (2, .ref qm), (1, .ref qx), (0, .ref b)]) hx hb dL_law_1049 hl (by decide) rfl (fun ls hl => ?_)
  refine lv_aload_n hx hb dL_law_1051 rfl (lv_at hl 3 rfl) ?_
  refine lv_aload_n hx hb dL_law_1052 rfl (lv_at hl 5 rfl) ?_
  refine lv_iload hx hb dL_law_1053 (lv_at hl 1 rfl) ?_
  refine lv_iconst (v := 1) hx hb dL_law_1055 (by decide) ?_
  refine lv_iadd hx hb dL_law_1056 ?_
  refine z_cst (v := 1) (by decide +kernel) ?_
  refine z_sld (v := (xs 1)) (j := 1) hx hb hX hbl hbA hS rfl (Nat.le_of_ble_eq_true rfl) rfl dL_law_1057 ?_
  refine lv_aload_n hx hb dL_law_1058 rfl (lv_at hl 5 rfl) ?_
  refine lv_iload hx hb dL_law_1059 (lv_at hl 1 rfl) ?_
  refine lv_iconst (v := 2) hx hb dL_law_1061 (by decide) ?_
  refine lv_iadd hx hb dL_law_1062 ?_
  refine z_cst (v := 2) (by decide +kernel) ?_
  refine z_sld (v := (xs 2)) (j := 2) hx hb hX hbl hbA hS rfl (Nat.le_of_ble_eq_true rfl) rfl dL_law_1063 ?_
  refine lv_aload_n hx hb dL_law_1064 rfl (lv_at hl 5 rfl) ?_
  refine lv_iload hx hb dL_law_1065 (lv_at hl 1 rfl) ?_
  refine lv_iconst (v := 3) hx hb dL_law_1067 (by decide) ?_
  refine lv_iadd hx hb dL_law_1068 ?_
  refine z_cst (v := 3) (by decide +kernel) ?_
  refine z_sld (v := (xs 3)) (j := 3) hx hb hX hbl hbA hS rfl (Nat.le_of_ble_eq_true rfl) rfl dL_law_1069 ?_
  refine z_calli [(qm, zO 10 83 (zc71 u v))] [(qo, zJ K 1 (fun _ => 0))] [0] [1] hP hD hS hA rfl rfl (by decide +kernel) (by decide +kernel) (by decide +kernel) 125 1863522 rfl rfl (fun hPc hDc hF => z_runV (As := [.int (xs 1), .int (xs 2), .int (xs 3)]) (rest := []) ⟨hx, hb, hml, hown, hg⟩ (cX12_hold_6 l K H.size qm (zc71 u v) (xs 1) (xs 2) (xs 3) (zc71_0 u v) (by rw [Int32.lt_iff_toInt_lt, show (0 : Int32).toInt = 0 from by decide]; omega) (by rw [Int32.lt_iff_toInt_lt, show (-1 : Int32).toInt = -1 from by decide]; omega) (by rw [Int32.lt_iff_toInt_lt, show (0 : Int32).toInt = 0 from by decide]; omega) (by rw [Int32.lt_iff_toInt_lt, show (15 : Int32).toInt = 15 from by decide]; omega)) kV_RL_146 hd_X12_hold rfl rfl ⟨(Nat.le_of_ble_eq_true rfl), (Nat.le_of_ble_eq_true rfl)⟩ hK hS hZ hPc hDc hF 0 rfl rfl rfl hl.1 rfl (Nat.le_of_ble_eq_true rfl) dL_law_1070 ⟨(Nat.le_of_ble_eq_true rfl), (Nat.le_of_ble_eq_true rfl)⟩) (fun r6 u4 H locs w5 hP hD hS => ?_)
  subst w5
  have hP : va_P K.1 classes [(qo, zJ K 1 (fun _ => 0)), (qm, zO 10 83 (va_up (zc71 u v) 81 (.int 1)))] H := hP
  have hD : va_D A [(qo, zJ K 1 (fun _ => 0)), (qm, zO 10 83 (va_up (zc71 u v) 81 (.int 1)))] := hD
  refine lv_istore (lv' := [(6, .int 0), (5, .int 1), (4, .int 0), (3, .ref qo), (2, .ref qm), (1, .ref qx), (0, .ref b)]) hx hb dL_law_1073 hl (by decide) rfl (fun ls hl => ?_)
  refine lv_aload_n hx hb dL_law_1075 rfl (lv_at hl 4 rfl) ?_
  refine z_calli [(qm, zO 10 83 (va_up (zc71 u v) 81 (.int 1)))] [(qo, zJ K 1 (fun _ => 0))] [1] [0] hP hD hS hA rfl rfl (by decide +kernel) (by decide +kernel) (by decide +kernel) 125 1863522 rfl rfl (fun hPc hDc hF => z_runV (As := []) (rest := []) ⟨hx, hb, hml, hown, hg⟩ (cX12_thrown_2 l K H.size qm (va_up (zc71 u v) 81 (.int 1)) zu_eq) kV_RL_104 hd_X12_thrown rfl rfl ⟨(Nat.le_of_ble_eq_true rfl), (Nat.le_of_ble_eq_true rfl)⟩ hK hS hZ hPc hDc hF 0 rfl rfl rfl hl.1 rfl (Nat.le_of_ble_eq_true rfl) dL_law_1076 ⟨(Nat.le_of_ble_eq_true rfl), (Nat.le_of_ble_eq_true rfl)⟩) (fun r9 u7 H locs w8 hP hD hS => ?_)
  subst w8
  have hP : va_P K.1 classes [(qo, zJ K 1 (fun _ => 0)), (qm, zO 10 83 (va_up (zc71 u v) 81 (.int 1)))] H := hP
  have hD : va_D A [(qo, zJ K 1 (fun _ => 0)), (qm, zO 10 83 (va_up (zc71 u v) 81 (.int 1)))] := hD
  refine lv_iload hx hb dL_law_1079 (lv_at hl 1 rfl) ?_
  refine lv_icmp_eq (tgt := 1086) hx hb dL_law_1081 (by decide) (fun _ => ?_) (fun c => absurd (by decide) c)
  refine lv_iload hx hb dL_law_1086 (lv_at hl 1 rfl) ?_
  refine lv_if_ne (tgt := 1103) hx hb dL_law_1088 (by decide) (fun _ => ?_) (fun c => absurd c (by decide))
  refine lv_goto (tgt := 2026) hx hb dL_law_1103 (by decide) ?_
  exact law_back ⟨hx, hb, hr, hml, hown, hg, hX, hbl, hlocks, hK, hZ, hl9, hAA, hA, hbA⟩ (Nat.le_of_ble_eq_true rfl) (Nat.le_of_ble_eq_true rfl) hS (lv_sub hl [2, 6] rfl)
theorem lawC_12 {p : Program} {l : Launch} {e : Env} {s : State} {m : MethodId} {below : List Frame} {meth : Method} {c : Code} {b : Nat} {xs : Nat → Int32} {K : zK} {A : Nat → Prop} {H : Heap} {locs : List Loc} {ls : Array Slot} (C : zC p l s m meth c b xs K A) (qx qm qo : Nat) (u v : Nat → Nat) (hP : va_P K.1 classes (lwW K qx qm qo u v) H) (hD : va_D A (lwW K qx qm qo u v)) (hS : va_S A s.heap H locs) (hl : lv_has ls 7 [(4, .int 0), (3, .ref qo), (2, .ref qm), (1, .ref qx), (0, .ref b)]) : W p l e room_1 s m #[Value.ref b] below meth c H locs 124 1863516 (lw_Z below #[Value.ref b] s) (F0 m 1026 ls []) := by
  rcases z_split (xs 1) (0) with h0 | h0
  · rcases z_split (xs 2) (0) with h1 | h1
    · exact lawS_12_0 C qx qm qo u v h0 h1 hP hD hS hl
    · rcases z_split (xs 2) (16) with h2 | h2
      · exact lawS_12_1 C qx qm qo u v h0 h1 h2 hP hD hS hl
      · exact lawS_12_2 C qx qm qo u v h0 h1 h2 hP hD hS hl
  · rcases z_split (xs 2) (0) with h1 | h1
    · exact lawS_12_3 C qx qm qo u v h0 h1 hP hD hS hl
    · rcases z_split (xs 2) (16) with h2 | h2
      · exact lawS_12_4 C qx qm qo u v h0 h1 h2 hP hD hS hl
      · exact lawS_12_5 C qx qm qo u v h0 h1 h2 hP hD hS hl
set_option maxHeartbeats 4000000 in
set_option maxRecDepth 100000 in
theorem lawS_13_0 {p : Program} {l : Launch} {e : Env} {s : State} {m : MethodId} {below : List Frame} {meth : Method} {c : Code} {b : Nat} {xs : Nat → Int32} {K : zK} {A : Nat → Prop} {H : Heap} {locs : List Loc} {ls : Array Slot} (C : zC p l s m meth c b xs K A) (qx qm qo : Nat) (u v : Nat → Nat) (h0 : (xs 2).toInt < 0) (h1 : (xs 1).toInt < 0) (hP : va_P K.1 classes (lwW K qx qm qo u v) H) (hD : va_D A (lwW K qx qm qo u v)) (hS : va_S A s.heap H locs) (hl : lv_has ls 7 [(4, .int 0), (3, .ref qo), (2, .ref qm), (1, .ref qx), (0, .ref b)]) : W p l e room_1 s m #[Value.ref b] below meth c H locs 124 1863516 (lw_Z below #[Value.ref b] s) (F0 m 1106 ls []) := by
  obtain ⟨hx, hb, hr, hml, hown, hg, hX, hbl, hlocks, hK, hZ, hl9, hAA, hA, hbA⟩ := C
  have hP : va_P K.1 classes [(qx, zO 9 9 (zc0 u v)), ((u 0), zO 7 6 (zc1 u v)), (qm, zO 10 83 (zc71 u v)), (qo, zJ K 1 (fun _ => 0))] H := hP.sub [0, 1, 71, 123] rfl
  have hD : va_D A [(qx, zO 9 9 (zc0 u v)), ((u 0), zO 7 6 (zc1 u v)), (qm, zO 10 83 (zc71 u v)), (qo, zJ K 1 (fun _ => 0))] := hD.sub [0, 1, 71, 123] (by decide +kernel) rfl
  refine lv_aload_n hx hb dL_law_1106 rfl (lv_at hl 3 rfl) ?_
  refine lv_aload_n hx hb dL_law_1107 rfl (lv_at hl 4 rfl) ?_
  refine lv_iload hx hb dL_law_1108 (lv_at hl 0 rfl) ?_
  refine lv_iconst (v := 1) hx hb dL_law_1110 (by decide) ?_
  refine lv_iadd hx hb dL_law_1111 ?_
  refine z_cst (v := 1) (by decide +kernel) ?_
  refine z_sld (v := (xs 1)) (j := 1) hx hb hX hbl hbA hS rfl (Nat.le_of_ble_eq_true rfl) rfl dL_law_1112 ?_
  refine lv_aload_n hx hb dL_law_1113 rfl (lv_at hl 4 rfl) ?_
  refine lv_iload hx hb dL_law_1114 (lv_at hl 0 rfl) ?_
  refine lv_iconst (v := 2) hx hb dL_law_1116 (by decide) ?_
  refine lv_iadd hx hb dL_law_1117 ?_
  refine z_cst (v := 2) (by decide +kernel) ?_
  refine z_sld (v := (xs 2)) (j := 2) hx hb hX hbl hbA hS rfl (Nat.le_of_ble_eq_true rfl) rfl dL_law_1118 ?_
  refine lv_aload_n hx hb dL_law_1119 rfl (lv_at hl 1 rfl) ?_
  refine z_hcalli [(qx, zO 9 9 (zc0 u v)), ((u 0), zO 7 6 (zc1 u v))] [(qm, zO 10 83 (zc71 u v)), (qo, zJ K 1 (fun _ => 0))] [0, 1] [2, 3] hP hD hS hA rfl rfl (by decide +kernel) (by decide +kernel) (by decide +kernel) 125 1863522 rfl rfl (fun hPc hDc hF => z_xrunH (As := [.ref qx, .int (xs 1), .int (xs 2), .ref qo]) (rest := []) ⟨hx, hb, hml, hown, hg⟩ (cL_par_1 l hl9 K H.size qx qo (u 0) (zc0 u v) (zc1 u v) (xs 1) (xs 2) (zc0_0 u v) (by rw [Int32.lt_iff_toInt_lt, show (0 : Int32).toInt = 0 from by decide]; omega)) kS_RL_147 hd_L_par rfl rfl ⟨(Nat.le_of_ble_eq_true rfl), (Nat.le_of_ble_eq_true rfl)⟩ hK hS hZ hPc hDc hF rfl hl.1 rfl (Nat.le_of_ble_eq_true rfl) dL_law_1120 ⟨(Nat.le_of_ble_eq_true rfl), (Nat.le_of_ble_eq_true rfl)⟩) (fun r3 u1 H locs w2 hP hD hS => ?_)
  subst w2
  have hP : va_P K.1 classes [(qm, zO 10 83 (zc71 u v)), (qo, zJ K 1 (fun _ => 0))] H := hP
  have hD : va_D A [(qm, zO 10 83 (zc71 u v)), (qo, zJ K 1 (fun _ => 0))] := hD
  refine lv_istore (lv' := [(5, .int 1), (4, .int 0), (3, .ref qo), (2, .ref qm), (1, .ref qx), (0, .ref b)]) hx hb dL_law_1123 hl (by decide) rfl (fun ls hl => ?_)
  refine lv_aload_n hx hb dL_law_1125 rfl (lv_at hl 3 rfl) ?_
  refine lv_aload_n hx hb dL_law_1126 rfl (lv_at hl 5 rfl) ?_
  refine lv_iload hx hb dL_law_1127 (lv_at hl 1 rfl) ?_
  refine lv_iconst (v := 1) hx hb dL_law_1129 (by decide) ?_
  refine lv_iadd hx hb dL_law_1130 ?_
  refine z_cst (v := 1) (by decide +kernel) ?_
  refine z_sld (v := (xs 1)) (j := 1) hx hb hX hbl hbA hS rfl (Nat.le_of_ble_eq_true rfl) rfl dL_law_1131 ?_
  refine lv_aload_n hx hb dL_law_1132 rfl (lv_at hl 5 rfl) ?_
  refine lv_iload hx hb dL_law_1133 (lv_at hl 1 rfl) ?_
  refine lv_iconst (v := 2) hx hb dL_law_1135 (by decide) ?_
  refine lv_iadd hx hb dL_law_1136 ?_
  refine z_cst (v := 2) (by decide +kernel) ?_
  refine z_sld (v := (xs 2)) (j := 2) hx hb hX hbl hbA hS rfl (Nat.le_of_ble_eq_true rfl) rfl dL_law_1137 ?_
  refine z_calli [(qm, zO 10 83 (zc71 u v))] [(qo, zJ K 1 (fun _ => 0))] [0] [1] hP hD hS hA rfl rfl (by decide +kernel) (by decide +kernel) (by decide +kernel) 125 1863522 rfl rfl (fun hPc hDc hF => z_runV (As := [.int (xs 1), .int (xs 2)]) (rest := []) ⟨hx, hb, hml, hown, hg⟩ (cX12_par_1 l K H.size qm (zc71 u v) (xs 1) (xs 2) (zc71_0 u v) (by rw [Int32.lt_iff_toInt_lt, show (0 : Int32).toInt = 0 from by decide]; omega) (by rw [Int32.lt_iff_toInt_lt, show (0 : Int32).toInt = 0 from by decide]; omega)) kV_RL_149 hd_X12_par rfl rfl ⟨(Nat.le_of_ble_eq_true rfl), (Nat.le_of_ble_eq_true rfl)⟩ hK hS hZ hPc hDc hF 0 rfl rfl rfl hl.1 rfl (Nat.le_of_ble_eq_true rfl) dL_law_1138 ⟨(Nat.le_of_ble_eq_true rfl), (Nat.le_of_ble_eq_true rfl)⟩) (fun r6 u4 H locs w5 hP hD hS => ?_)
  subst w5
  have hP : va_P K.1 classes [(qo, zJ K 1 (fun _ => 0)), (qm, zO 10 83 (va_up (zc71 u v) 81 (.int 1)))] H := hP
  have hD : va_D A [(qo, zJ K 1 (fun _ => 0)), (qm, zO 10 83 (va_up (zc71 u v) 81 (.int 1)))] := hD
  refine lv_istore (lv' := [(6, .int 0), (5, .int 1), (4, .int 0), (3, .ref qo), (2, .ref qm), (1, .ref qx), (0, .ref b)]) hx hb dL_law_1141 hl (by decide) rfl (fun ls hl => ?_)
  refine lv_aload_n hx hb dL_law_1143 rfl (lv_at hl 4 rfl) ?_
  refine z_calli [(qm, zO 10 83 (va_up (zc71 u v) 81 (.int 1)))] [(qo, zJ K 1 (fun _ => 0))] [1] [0] hP hD hS hA rfl rfl (by decide +kernel) (by decide +kernel) (by decide +kernel) 125 1863522 rfl rfl (fun hPc hDc hF => z_runV (As := []) (rest := []) ⟨hx, hb, hml, hown, hg⟩ (cX12_thrown_2 l K H.size qm (va_up (zc71 u v) 81 (.int 1)) zu_eq) kV_RL_104 hd_X12_thrown rfl rfl ⟨(Nat.le_of_ble_eq_true rfl), (Nat.le_of_ble_eq_true rfl)⟩ hK hS hZ hPc hDc hF 0 rfl rfl rfl hl.1 rfl (Nat.le_of_ble_eq_true rfl) dL_law_1144 ⟨(Nat.le_of_ble_eq_true rfl), (Nat.le_of_ble_eq_true rfl)⟩) (fun r9 u7 H locs w8 hP hD hS => ?_)
  subst w8
  have hP : va_P K.1 classes [(qo, zJ K 1 (fun _ => 0)), (qm, zO 10 83 (va_up (zc71 u v) 81 (.int 1)))] H := hP
  have hD : va_D A [(qo, zJ K 1 (fun _ => 0)), (qm, zO 10 83 (va_up (zc71 u v) 81 (.int 1)))] := hD
  refine lv_iload hx hb dL_law_1147 (lv_at hl 1 rfl) ?_
  refine lv_icmp_eq (tgt := 1154) hx hb dL_law_1149 (by decide) (fun _ => ?_) (fun c => absurd (by decide) c)
  refine lv_iload hx hb dL_law_1154 (lv_at hl 1 rfl) ?_
  refine lv_if_ne (tgt := 1171) hx hb dL_law_1156 (by decide) (fun _ => ?_) (fun c => absurd c (by decide))
  refine lv_goto (tgt := 2026) hx hb dL_law_1171 (by decide) ?_
  exact law_back ⟨hx, hb, hr, hml, hown, hg, hX, hbl, hlocks, hK, hZ, hl9, hAA, hA, hbA⟩ (Nat.le_of_ble_eq_true rfl) (Nat.le_of_ble_eq_true rfl) hS (lv_sub hl [2, 6] rfl)
set_option maxHeartbeats 4000000 in
set_option maxRecDepth 100000 in
theorem lawS_13_1 {p : Program} {l : Launch} {e : Env} {s : State} {m : MethodId} {below : List Frame} {meth : Method} {c : Code} {b : Nat} {xs : Nat → Int32} {K : zK} {A : Nat → Prop} {H : Heap} {locs : List Loc} {ls : Array Slot} (C : zC p l s m meth c b xs K A) (qx qm qo : Nat) (u v : Nat → Nat) (h0 : (xs 2).toInt < 0) (h1 : 0 ≤ (xs 1).toInt) (h2 : (xs 1).toInt < 16) (hP : va_P K.1 classes (lwW K qx qm qo u v) H) (hD : va_D A (lwW K qx qm qo u v)) (hS : va_S A s.heap H locs) (hl : lv_has ls 7 [(4, .int 0), (3, .ref qo), (2, .ref qm), (1, .ref qx), (0, .ref b)]) : W p l e room_1 s m #[Value.ref b] below meth c H locs 124 1863516 (lw_Z below #[Value.ref b] s) (F0 m 1106 ls []) := by
  obtain ⟨hx, hb, hr, hml, hown, hg, hX, hbl, hlocks, hK, hZ, hl9, hAA, hA, hbA⟩ := C
  have hP : va_P K.1 classes [(qx, zO 9 9 (zc0 u v)), ((u 0), zO 7 6 (zc1 u v)), (qm, zO 10 83 (zc71 u v)), (qo, zJ K 1 (fun _ => 0))] H := hP.sub [0, 1, 71, 123] rfl
  have hD : va_D A [(qx, zO 9 9 (zc0 u v)), ((u 0), zO 7 6 (zc1 u v)), (qm, zO 10 83 (zc71 u v)), (qo, zJ K 1 (fun _ => 0))] := hD.sub [0, 1, 71, 123] (by decide +kernel) rfl
  obtain ⟨t1, ht1, v1⟩ : ∃ j : Nat, j < 16 ∧ xs 1 = nI j := z_nat (n := 16) (by omega) (by omega) (by decide)
  refine lv_aload_n hx hb dL_law_1106 rfl (lv_at hl 3 rfl) ?_
  refine lv_aload_n hx hb dL_law_1107 rfl (lv_at hl 4 rfl) ?_
  refine lv_iload hx hb dL_law_1108 (lv_at hl 0 rfl) ?_
  refine lv_iconst (v := 1) hx hb dL_law_1110 (by decide) ?_
  refine lv_iadd hx hb dL_law_1111 ?_
  refine z_cst (v := 1) (by decide +kernel) ?_
  refine z_sld (v := (nI t1)) (j := 1) hx hb hX hbl hbA hS rfl (Nat.le_of_ble_eq_true rfl) v1 dL_law_1112 ?_
  refine lv_aload_n hx hb dL_law_1113 rfl (lv_at hl 4 rfl) ?_
  refine lv_iload hx hb dL_law_1114 (lv_at hl 0 rfl) ?_
  refine lv_iconst (v := 2) hx hb dL_law_1116 (by decide) ?_
  refine lv_iadd hx hb dL_law_1117 ?_
  refine z_cst (v := 2) (by decide +kernel) ?_
  refine z_sld (v := (xs 2)) (j := 2) hx hb hX hbl hbA hS rfl (Nat.le_of_ble_eq_true rfl) rfl dL_law_1118 ?_
  refine lv_aload_n hx hb dL_law_1119 rfl (lv_at hl 1 rfl) ?_
  refine z_hcalli [(qx, zO 9 9 (zc0 u v)), ((u 0), zO 7 6 (zc1 u v))] [(qm, zO 10 83 (zc71 u v)), (qo, zJ K 1 (fun _ => 0))] [0, 1] [2, 3] hP hD hS hA rfl rfl (by decide +kernel) (by decide +kernel) (by decide +kernel) 125 1863522 rfl rfl (fun hPc hDc hF => z_xrunH (As := [.ref qx, .int (nI t1), .int (xs 2), .ref qo]) (rest := []) ⟨hx, hb, hml, hown, hg⟩ (cL_par_2 l hl9 K H.size qx qo (u 0) (zc0 u v) (zc1 u v) t1 ht1 (xs 2) (zc0_0 u v) (by rw [Int32.lt_iff_toInt_lt, show (0 : Int32).toInt = 0 from by decide]; omega)) kS_RL_147 hd_L_par rfl rfl ⟨(Nat.le_of_ble_eq_true rfl), (Nat.le_of_ble_eq_true rfl)⟩ hK hS hZ hPc hDc hF rfl hl.1 rfl (Nat.le_of_ble_eq_true rfl) dL_law_1120 ⟨(Nat.le_of_ble_eq_true rfl), (Nat.le_of_ble_eq_true rfl)⟩) (fun r3 u1 H locs w2 hP hD hS => ?_)
  subst w2
  have hP : va_P K.1 classes [(qm, zO 10 83 (zc71 u v)), (qo, zJ K 1 (fun _ => 0))] H := hP
  have hD : va_D A [(qm, zO 10 83 (zc71 u v)), (qo, zJ K 1 (fun _ => 0))] := hD
  refine lv_istore (lv' := [(5, .int 1), (4, .int 0), (3, .ref qo), (2, .ref qm), (1, .ref qx), (0, .ref b)]) hx hb dL_law_1123 hl (by decide) rfl (fun ls hl => ?_)
  refine lv_aload_n hx hb dL_law_1125 rfl (lv_at hl 3 rfl) ?_
  refine lv_aload_n hx hb dL_law_1126 rfl (lv_at hl 5 rfl) ?_
  refine lv_iload hx hb dL_law_1127 (lv_at hl 1 rfl) ?_
  refine lv_iconst (v := 1) hx hb dL_law_1129 (by decide) ?_
  refine lv_iadd hx hb dL_law_1130 ?_
  refine z_cst (v := 1) (by decide +kernel) ?_
  refine z_sld (v := (nI t1)) (j := 1) hx hb hX hbl hbA hS rfl (Nat.le_of_ble_eq_true rfl) v1 dL_law_1131 ?_
  refine lv_aload_n hx hb dL_law_1132 rfl (lv_at hl 5 rfl) ?_
  refine lv_iload hx hb dL_law_1133 (lv_at hl 1 rfl) ?_
  refine lv_iconst (v := 2) hx hb dL_law_1135 (by decide) ?_
  refine lv_iadd hx hb dL_law_1136 ?_
  refine z_cst (v := 2) (by decide +kernel) ?_
  refine z_sld (v := (xs 2)) (j := 2) hx hb hX hbl hbA hS rfl (Nat.le_of_ble_eq_true rfl) rfl dL_law_1137 ?_
  refine z_calli [(qm, zO 10 83 (zc71 u v))] [(qo, zJ K 1 (fun _ => 0))] [0] [1] hP hD hS hA rfl rfl (by decide +kernel) (by decide +kernel) (by decide +kernel) 125 1863522 rfl rfl (fun hPc hDc hF => z_runV (As := [.int (nI t1), .int (xs 2)]) (rest := []) ⟨hx, hb, hml, hown, hg⟩ (cX12_par_2 l K H.size qm (zc71 u v) t1 ht1 (xs 2) (zc71_0 u v) (by rw [Int32.lt_iff_toInt_lt, show (0 : Int32).toInt = 0 from by decide]; omega)) kV_RL_149 hd_X12_par rfl rfl ⟨(Nat.le_of_ble_eq_true rfl), (Nat.le_of_ble_eq_true rfl)⟩ hK hS hZ hPc hDc hF 0 rfl rfl rfl hl.1 rfl (Nat.le_of_ble_eq_true rfl) dL_law_1138 ⟨(Nat.le_of_ble_eq_true rfl), (Nat.le_of_ble_eq_true rfl)⟩) (fun r6 u4 H locs w5 hP hD hS => ?_)
  subst w5
  have hP : va_P K.1 classes [(qo, zJ K 1 (fun _ => 0)), (qm, zO 10 83 (va_up (zc71 u v) 81 (.int 1)))] H := hP
  have hD : va_D A [(qo, zJ K 1 (fun _ => 0)), (qm, zO 10 83 (va_up (zc71 u v) 81 (.int 1)))] := hD
  refine lv_istore (lv' := [(6, .int 0), (5, .int 1), (4, .int 0), (3, .ref qo), (2, .ref qm), (1, .ref qx), (0, .ref b)]) hx hb dL_law_1141 hl (by decide) rfl (fun ls hl => ?_)
  refine lv_aload_n hx hb dL_law_1143 rfl (lv_at hl 4 rfl) ?_
  refine z_calli [(qm, zO 10 83 (va_up (zc71 u v) 81 (.int 1)))] [(qo, zJ K 1 (fun _ => 0))] [1] [0] hP hD hS hA rfl rfl (by decide +kernel) (by decide +kernel) (by decide +kernel) 125 1863522 rfl rfl (fun hPc hDc hF => z_runV (As := []) (rest := []) ⟨hx, hb, hml, hown, hg⟩ (cX12_thrown_2 l K H.size qm (va_up (zc71 u v) 81 (.int 1)) zu_eq) kV_RL_104 hd_X12_thrown rfl rfl ⟨(Nat.le_of_ble_eq_true rfl), (Nat.le_of_ble_eq_true rfl)⟩ hK hS hZ hPc hDc hF 0 rfl rfl rfl hl.1 rfl (Nat.le_of_ble_eq_true rfl) dL_law_1144 ⟨(Nat.le_of_ble_eq_true rfl), (Nat.le_of_ble_eq_true rfl)⟩) (fun r9 u7 H locs w8 hP hD hS => ?_)
  subst w8
  have hP : va_P K.1 classes [(qo, zJ K 1 (fun _ => 0)), (qm, zO 10 83 (va_up (zc71 u v) 81 (.int 1)))] H := hP
  have hD : va_D A [(qo, zJ K 1 (fun _ => 0)), (qm, zO 10 83 (va_up (zc71 u v) 81 (.int 1)))] := hD
  refine lv_iload hx hb dL_law_1147 (lv_at hl 1 rfl) ?_
  refine lv_icmp_eq (tgt := 1154) hx hb dL_law_1149 (by decide) (fun _ => ?_) (fun c => absurd (by decide) c)
  refine lv_iload hx hb dL_law_1154 (lv_at hl 1 rfl) ?_
  refine lv_if_ne (tgt := 1171) hx hb dL_law_1156 (by decide) (fun _ => ?_) (fun c => absurd c (by decide))
  refine lv_goto (tgt := 2026) hx hb dL_law_1171 (by decide) ?_
  exact law_back ⟨hx, hb, hr, hml, hown, hg, hX, hbl, hlocks, hK, hZ, hl9, hAA, hA, hbA⟩ (Nat.le_of_ble_eq_true rfl) (Nat.le_of_ble_eq_true rfl) hS (lv_sub hl [2, 6] rfl)
set_option maxHeartbeats 4000000 in
set_option maxRecDepth 100000 in
theorem lawS_13_2 {p : Program} {l : Launch} {e : Env} {s : State} {m : MethodId} {below : List Frame} {meth : Method} {c : Code} {b : Nat} {xs : Nat → Int32} {K : zK} {A : Nat → Prop} {H : Heap} {locs : List Loc} {ls : Array Slot} (C : zC p l s m meth c b xs K A) (qx qm qo : Nat) (u v : Nat → Nat) (h0 : (xs 2).toInt < 0) (h1 : 0 ≤ (xs 1).toInt) (h2 : 16 ≤ (xs 1).toInt) (hP : va_P K.1 classes (lwW K qx qm qo u v) H) (hD : va_D A (lwW K qx qm qo u v)) (hS : va_S A s.heap H locs) (hl : lv_has ls 7 [(4, .int 0), (3, .ref qo), (2, .ref qm), (1, .ref qx), (0, .ref b)]) : W p l e room_1 s m #[Value.ref b] below meth c H locs 124 1863516 (lw_Z below #[Value.ref b] s) (F0 m 1106 ls []) := by
  obtain ⟨hx, hb, hr, hml, hown, hg, hX, hbl, hlocks, hK, hZ, hl9, hAA, hA, hbA⟩ := C
  have hP : va_P K.1 classes [(qx, zO 9 9 (zc0 u v)), ((u 0), zO 7 6 (zc1 u v)), (qm, zO 10 83 (zc71 u v)), (qo, zJ K 1 (fun _ => 0))] H := hP.sub [0, 1, 71, 123] rfl
  have hD : va_D A [(qx, zO 9 9 (zc0 u v)), ((u 0), zO 7 6 (zc1 u v)), (qm, zO 10 83 (zc71 u v)), (qo, zJ K 1 (fun _ => 0))] := hD.sub [0, 1, 71, 123] (by decide +kernel) rfl
  refine lv_aload_n hx hb dL_law_1106 rfl (lv_at hl 3 rfl) ?_
  refine lv_aload_n hx hb dL_law_1107 rfl (lv_at hl 4 rfl) ?_
  refine lv_iload hx hb dL_law_1108 (lv_at hl 0 rfl) ?_
  refine lv_iconst (v := 1) hx hb dL_law_1110 (by decide) ?_
  refine lv_iadd hx hb dL_law_1111 ?_
  refine z_cst (v := 1) (by decide +kernel) ?_
  refine z_sld (v := (xs 1)) (j := 1) hx hb hX hbl hbA hS rfl (Nat.le_of_ble_eq_true rfl) rfl dL_law_1112 ?_
  refine lv_aload_n hx hb dL_law_1113 rfl (lv_at hl 4 rfl) ?_
  refine lv_iload hx hb dL_law_1114 (lv_at hl 0 rfl) ?_
  refine lv_iconst (v := 2) hx hb dL_law_1116 (by decide) ?_
  refine lv_iadd hx hb dL_law_1117 ?_
  refine z_cst (v := 2) (by decide +kernel) ?_
  refine z_sld (v := (xs 2)) (j := 2) hx hb hX hbl hbA hS rfl (Nat.le_of_ble_eq_true rfl) rfl dL_law_1118 ?_
  refine lv_aload_n hx hb dL_law_1119 rfl (lv_at hl 1 rfl) ?_
  refine z_hcalli [(qx, zO 9 9 (zc0 u v)), ((u 0), zO 7 6 (zc1 u v))] [(qm, zO 10 83 (zc71 u v)), (qo, zJ K 1 (fun _ => 0))] [0, 1] [2, 3] hP hD hS hA rfl rfl (by decide +kernel) (by decide +kernel) (by decide +kernel) 125 1863522 rfl rfl (fun hPc hDc hF => z_xrunH (As := [.ref qx, .int (xs 1), .int (xs 2), .ref qo]) (rest := []) ⟨hx, hb, hml, hown, hg⟩ (cL_par_1 l hl9 K H.size qx qo (u 0) (zc0 u v) (zc1 u v) (xs 1) (xs 2) (zc0_0 u v) (by rw [Int32.lt_iff_toInt_lt, show (0 : Int32).toInt = 0 from by decide]; omega)) kS_RL_147 hd_L_par rfl rfl ⟨(Nat.le_of_ble_eq_true rfl), (Nat.le_of_ble_eq_true rfl)⟩ hK hS hZ hPc hDc hF rfl hl.1 rfl (Nat.le_of_ble_eq_true rfl) dL_law_1120 ⟨(Nat.le_of_ble_eq_true rfl), (Nat.le_of_ble_eq_true rfl)⟩) (fun r3 u1 H locs w2 hP hD hS => ?_)
  subst w2
  have hP : va_P K.1 classes [(qm, zO 10 83 (zc71 u v)), (qo, zJ K 1 (fun _ => 0))] H := hP
  have hD : va_D A [(qm, zO 10 83 (zc71 u v)), (qo, zJ K 1 (fun _ => 0))] := hD
  refine lv_istore (lv' := [(5, .int 1), (4, .int 0), (3, .ref qo), (2, .ref qm), (1, .ref qx), (0, .ref b)]) hx hb dL_law_1123 hl (by decide) rfl (fun ls hl => ?_)
  refine lv_aload_n hx hb dL_law_1125 rfl (lv_at hl 3 rfl) ?_
  refine lv_aload_n hx hb dL_law_1126 rfl (lv_at hl 5 rfl) ?_
  refine lv_iload hx hb dL_law_1127 (lv_at hl 1 rfl) ?_
  refine lv_iconst (v := 1) hx hb dL_law_1129 (by decide) ?_
  refine lv_iadd hx hb dL_law_1130 ?_
  refine z_cst (v := 1) (by decide +kernel) ?_
  refine z_sld (v := (xs 1)) (j := 1) hx hb hX hbl hbA hS rfl (Nat.le_of_ble_eq_true rfl) rfl dL_law_1131 ?_
  refine lv_aload_n hx hb dL_law_1132 rfl (lv_at hl 5 rfl) ?_
  refine lv_iload hx hb dL_law_1133 (lv_at hl 1 rfl) ?_
  refine lv_iconst (v := 2) hx hb dL_law_1135 (by decide) ?_
  refine lv_iadd hx hb dL_law_1136 ?_
  refine z_cst (v := 2) (by decide +kernel) ?_
  refine z_sld (v := (xs 2)) (j := 2) hx hb hX hbl hbA hS rfl (Nat.le_of_ble_eq_true rfl) rfl dL_law_1137 ?_
  refine z_calli [(qm, zO 10 83 (zc71 u v))] [(qo, zJ K 1 (fun _ => 0))] [0] [1] hP hD hS hA rfl rfl (by decide +kernel) (by decide +kernel) (by decide +kernel) 125 1863522 rfl rfl (fun hPc hDc hF => z_runV (As := [.int (xs 1), .int (xs 2)]) (rest := []) ⟨hx, hb, hml, hown, hg⟩ (cX12_par_3 l K H.size qm (zc71 u v) (xs 1) (xs 2) (zc71_0 u v) (by rw [Int32.lt_iff_toInt_lt, show (0 : Int32).toInt = 0 from by decide]; omega) (by rw [Int32.lt_iff_toInt_lt, show (0 : Int32).toInt = 0 from by decide]; omega) (by rw [Int32.lt_iff_toInt_lt, show (15 : Int32).toInt = 15 from by decide]; omega)) kV_RL_149 hd_X12_par rfl rfl ⟨(Nat.le_of_ble_eq_true rfl), (Nat.le_of_ble_eq_true rfl)⟩ hK hS hZ hPc hDc hF 0 rfl rfl rfl hl.1 rfl (Nat.le_of_ble_eq_true rfl) dL_law_1138 ⟨(Nat.le_of_ble_eq_true rfl), (Nat.le_of_ble_eq_true rfl)⟩) (fun r6 u4 H locs w5 hP hD hS => ?_)
  subst w5
  have hP : va_P K.1 classes [(qo, zJ K 1 (fun _ => 0)), (qm, zO 10 83 (va_up (zc71 u v) 81 (.int 1)))] H := hP
  have hD : va_D A [(qo, zJ K 1 (fun _ => 0)), (qm, zO 10 83 (va_up (zc71 u v) 81 (.int 1)))] := hD
  refine lv_istore (lv' := [(6, .int 0), (5, .int 1), (4, .int 0), (3, .ref qo), (2, .ref qm), (1, .ref qx), (0, .ref b)]) hx hb dL_law_1141 hl (by decide) rfl (fun ls hl => ?_)
  refine lv_aload_n hx hb dL_law_1143 rfl (lv_at hl 4 rfl) ?_
  refine z_calli [(qm, zO 10 83 (va_up (zc71 u v) 81 (.int 1)))] [(qo, zJ K 1 (fun _ => 0))] [1] [0] hP hD hS hA rfl rfl (by decide +kernel) (by decide +kernel) (by decide +kernel) 125 1863522 rfl rfl (fun hPc hDc hF => z_runV (As := []) (rest := []) ⟨hx, hb, hml, hown, hg⟩ (cX12_thrown_2 l K H.size qm (va_up (zc71 u v) 81 (.int 1)) zu_eq) kV_RL_104 hd_X12_thrown rfl rfl ⟨(Nat.le_of_ble_eq_true rfl), (Nat.le_of_ble_eq_true rfl)⟩ hK hS hZ hPc hDc hF 0 rfl rfl rfl hl.1 rfl (Nat.le_of_ble_eq_true rfl) dL_law_1144 ⟨(Nat.le_of_ble_eq_true rfl), (Nat.le_of_ble_eq_true rfl)⟩) (fun r9 u7 H locs w8 hP hD hS => ?_)
  subst w8
  have hP : va_P K.1 classes [(qo, zJ K 1 (fun _ => 0)), (qm, zO 10 83 (va_up (zc71 u v) 81 (.int 1)))] H := hP
  have hD : va_D A [(qo, zJ K 1 (fun _ => 0)), (qm, zO 10 83 (va_up (zc71 u v) 81 (.int 1)))] := hD
  refine lv_iload hx hb dL_law_1147 (lv_at hl 1 rfl) ?_
  refine lv_icmp_eq (tgt := 1154) hx hb dL_law_1149 (by decide) (fun _ => ?_) (fun c => absurd (by decide) c)
  refine lv_iload hx hb dL_law_1154 (lv_at hl 1 rfl) ?_
  refine lv_if_ne (tgt := 1171) hx hb dL_law_1156 (by decide) (fun _ => ?_) (fun c => absurd c (by decide))
  refine lv_goto (tgt := 2026) hx hb dL_law_1171 (by decide) ?_
  exact law_back ⟨hx, hb, hr, hml, hown, hg, hX, hbl, hlocks, hK, hZ, hl9, hAA, hA, hbA⟩ (Nat.le_of_ble_eq_true rfl) (Nat.le_of_ble_eq_true rfl) hS (lv_sub hl [2, 6] rfl)
set_option maxHeartbeats 4000000 in
set_option maxRecDepth 100000 in
theorem lawS_13_3 {p : Program} {l : Launch} {e : Env} {s : State} {m : MethodId} {below : List Frame} {meth : Method} {c : Code} {b : Nat} {xs : Nat → Int32} {K : zK} {A : Nat → Prop} {H : Heap} {locs : List Loc} {ls : Array Slot} (C : zC p l s m meth c b xs K A) (qx qm qo : Nat) (u v : Nat → Nat) (h0 : 0 ≤ (xs 2).toInt) (h1 : (xs 1).toInt < 0) (hP : va_P K.1 classes (lwW K qx qm qo u v) H) (hD : va_D A (lwW K qx qm qo u v)) (hS : va_S A s.heap H locs) (hl : lv_has ls 7 [(4, .int 0), (3, .ref qo), (2, .ref qm), (1, .ref qx), (0, .ref b)]) : W p l e room_1 s m #[Value.ref b] below meth c H locs 124 1863516 (lw_Z below #[Value.ref b] s) (F0 m 1106 ls []) := by
  obtain ⟨hx, hb, hr, hml, hown, hg, hX, hbl, hlocks, hK, hZ, hl9, hAA, hA, hbA⟩ := C
  have hP : va_P K.1 classes [(qx, zO 9 9 (zc0 u v)), ((u 0), zO 7 6 (zc1 u v)), (qm, zO 10 83 (zc71 u v)), (qo, zJ K 1 (fun _ => 0))] H := hP.sub [0, 1, 71, 123] rfl
  have hD : va_D A [(qx, zO 9 9 (zc0 u v)), ((u 0), zO 7 6 (zc1 u v)), (qm, zO 10 83 (zc71 u v)), (qo, zJ K 1 (fun _ => 0))] := hD.sub [0, 1, 71, 123] (by decide +kernel) rfl
  refine lv_aload_n hx hb dL_law_1106 rfl (lv_at hl 3 rfl) ?_
  refine lv_aload_n hx hb dL_law_1107 rfl (lv_at hl 4 rfl) ?_
  refine lv_iload hx hb dL_law_1108 (lv_at hl 0 rfl) ?_
  refine lv_iconst (v := 1) hx hb dL_law_1110 (by decide) ?_
  refine lv_iadd hx hb dL_law_1111 ?_
  refine z_cst (v := 1) (by decide +kernel) ?_
  refine z_sld (v := (xs 1)) (j := 1) hx hb hX hbl hbA hS rfl (Nat.le_of_ble_eq_true rfl) rfl dL_law_1112 ?_
  refine lv_aload_n hx hb dL_law_1113 rfl (lv_at hl 4 rfl) ?_
  refine lv_iload hx hb dL_law_1114 (lv_at hl 0 rfl) ?_
  refine lv_iconst (v := 2) hx hb dL_law_1116 (by decide) ?_
  refine lv_iadd hx hb dL_law_1117 ?_
  refine z_cst (v := 2) (by decide +kernel) ?_
  refine z_sld (v := (xs 2)) (j := 2) hx hb hX hbl hbA hS rfl (Nat.le_of_ble_eq_true rfl) rfl dL_law_1118 ?_
  refine lv_aload_n hx hb dL_law_1119 rfl (lv_at hl 1 rfl) ?_
  refine z_hcalli [(qx, zO 9 9 (zc0 u v)), ((u 0), zO 7 6 (zc1 u v))] [(qm, zO 10 83 (zc71 u v)), (qo, zJ K 1 (fun _ => 0))] [0, 1] [2, 3] hP hD hS hA rfl rfl (by decide +kernel) (by decide +kernel) (by decide +kernel) 125 1863522 rfl rfl (fun hPc hDc hF => z_xrunH (As := [.ref qx, .int (xs 1), .int (xs 2), .ref qo]) (rest := []) ⟨hx, hb, hml, hown, hg⟩ (cL_par_3 l hl9 K H.size qx qo (u 0) (zc0 u v) (zc1 u v) (xs 1) (xs 2) (zc0_0 u v) (by rw [Int32.lt_iff_toInt_lt, show (0 : Int32).toInt = 0 from by decide]; omega) (zc1_5 u v) (by rw [Int32.le_iff_toInt_le, show (0 : Int32).toInt = 0 from by decide]; omega)) kS_RL_147 hd_L_par rfl rfl ⟨(Nat.le_of_ble_eq_true rfl), (Nat.le_of_ble_eq_true rfl)⟩ hK hS hZ hPc hDc hF rfl hl.1 rfl (Nat.le_of_ble_eq_true rfl) dL_law_1120 ⟨(Nat.le_of_ble_eq_true rfl), (Nat.le_of_ble_eq_true rfl)⟩) (fun r3 u1 H locs w2 hP hD hS => ?_)
  subst w2
  have hP : va_P K.1 classes [(qm, zO 10 83 (zc71 u v)), (qo, zJ K 1 (fun _ => 0))] H := hP
  have hD : va_D A [(qm, zO 10 83 (zc71 u v)), (qo, zJ K 1 (fun _ => 0))] := hD
  refine lv_istore (lv' := [(5, .int 1), (4, .int 0), (3, .ref qo), (2, .ref qm), (1, .ref qx), (0, .ref b)]) hx hb dL_law_1123 hl (by decide) rfl (fun ls hl => ?_)
  refine lv_aload_n hx hb dL_law_1125 rfl (lv_at hl 3 rfl) ?_
  refine lv_aload_n hx hb dL_law_1126 rfl (lv_at hl 5 rfl) ?_
  refine lv_iload hx hb dL_law_1127 (lv_at hl 1 rfl) ?_
  refine lv_iconst (v := 1) hx hb dL_law_1129 (by decide) ?_
  refine lv_iadd hx hb dL_law_1130 ?_
  refine z_cst (v := 1) (by decide +kernel) ?_
  refine z_sld (v := (xs 1)) (j := 1) hx hb hX hbl hbA hS rfl (Nat.le_of_ble_eq_true rfl) rfl dL_law_1131 ?_
  refine lv_aload_n hx hb dL_law_1132 rfl (lv_at hl 5 rfl) ?_
  refine lv_iload hx hb dL_law_1133 (lv_at hl 1 rfl) ?_
  refine lv_iconst (v := 2) hx hb dL_law_1135 (by decide) ?_
  refine lv_iadd hx hb dL_law_1136 ?_
  refine z_cst (v := 2) (by decide +kernel) ?_
  refine z_sld (v := (xs 2)) (j := 2) hx hb hX hbl hbA hS rfl (Nat.le_of_ble_eq_true rfl) rfl dL_law_1137 ?_
  refine z_calli [(qm, zO 10 83 (zc71 u v))] [(qo, zJ K 1 (fun _ => 0))] [0] [1] hP hD hS hA rfl rfl (by decide +kernel) (by decide +kernel) (by decide +kernel) 125 1863522 rfl rfl (fun hPc hDc hF => z_runV (As := [.int (xs 1), .int (xs 2)]) (rest := []) ⟨hx, hb, hml, hown, hg⟩ (cX12_par_4 l K H.size qm (zc71 u v) (xs 1) (xs 2) (zc71_0 u v) (by rw [Int32.lt_iff_toInt_lt, show (0 : Int32).toInt = 0 from by decide]; omega) (by rw [Int32.lt_iff_toInt_lt, show (-1 : Int32).toInt = -1 from by decide]; omega) (by rw [Int32.lt_iff_toInt_lt, show (0 : Int32).toInt = 0 from by decide]; omega)) kV_RL_149 hd_X12_par rfl rfl ⟨(Nat.le_of_ble_eq_true rfl), (Nat.le_of_ble_eq_true rfl)⟩ hK hS hZ hPc hDc hF 0 rfl rfl rfl hl.1 rfl (Nat.le_of_ble_eq_true rfl) dL_law_1138 ⟨(Nat.le_of_ble_eq_true rfl), (Nat.le_of_ble_eq_true rfl)⟩) (fun r6 u4 H locs w5 hP hD hS => ?_)
  subst w5
  have hP : va_P K.1 classes [(qo, zJ K 1 (fun _ => 0)), (qm, zO 10 83 (va_up (zc71 u v) 81 (.int 1)))] H := hP
  have hD : va_D A [(qo, zJ K 1 (fun _ => 0)), (qm, zO 10 83 (va_up (zc71 u v) 81 (.int 1)))] := hD
  refine lv_istore (lv' := [(6, .int 0), (5, .int 1), (4, .int 0), (3, .ref qo), (2, .ref qm), (1, .ref qx), (0, .ref b)]) hx hb dL_law_1141 hl (by decide) rfl (fun ls hl => ?_)
  refine lv_aload_n hx hb dL_law_1143 rfl (lv_at hl 4 rfl) ?_
  refine z_calli [(qm, zO 10 83 (va_up (zc71 u v) 81 (.int 1)))] [(qo, zJ K 1 (fun _ => 0))] [1] [0] hP hD hS hA rfl rfl (by decide +kernel) (by decide +kernel) (by decide +kernel) 125 1863522 rfl rfl (fun hPc hDc hF => z_runV (As := []) (rest := []) ⟨hx, hb, hml, hown, hg⟩ (cX12_thrown_2 l K H.size qm (va_up (zc71 u v) 81 (.int 1)) zu_eq) kV_RL_104 hd_X12_thrown rfl rfl ⟨(Nat.le_of_ble_eq_true rfl), (Nat.le_of_ble_eq_true rfl)⟩ hK hS hZ hPc hDc hF 0 rfl rfl rfl hl.1 rfl (Nat.le_of_ble_eq_true rfl) dL_law_1144 ⟨(Nat.le_of_ble_eq_true rfl), (Nat.le_of_ble_eq_true rfl)⟩) (fun r9 u7 H locs w8 hP hD hS => ?_)
  subst w8
  have hP : va_P K.1 classes [(qo, zJ K 1 (fun _ => 0)), (qm, zO 10 83 (va_up (zc71 u v) 81 (.int 1)))] H := hP
  have hD : va_D A [(qo, zJ K 1 (fun _ => 0)), (qm, zO 10 83 (va_up (zc71 u v) 81 (.int 1)))] := hD
  refine lv_iload hx hb dL_law_1147 (lv_at hl 1 rfl) ?_
  refine lv_icmp_eq (tgt := 1154) hx hb dL_law_1149 (by decide) (fun _ => ?_) (fun c => absurd (by decide) c)
  refine lv_iload hx hb dL_law_1154 (lv_at hl 1 rfl) ?_
  refine lv_if_ne (tgt := 1171) hx hb dL_law_1156 (by decide) (fun _ => ?_) (fun c => absurd c (by decide))
  refine lv_goto (tgt := 2026) hx hb dL_law_1171 (by decide) ?_
  exact law_back ⟨hx, hb, hr, hml, hown, hg, hX, hbl, hlocks, hK, hZ, hl9, hAA, hA, hbA⟩ (Nat.le_of_ble_eq_true rfl) (Nat.le_of_ble_eq_true rfl) hS (lv_sub hl [2, 6] rfl)
set_option maxHeartbeats 4000000 in
set_option maxRecDepth 100000 in
theorem lawS_13_4 {p : Program} {l : Launch} {e : Env} {s : State} {m : MethodId} {below : List Frame} {meth : Method} {c : Code} {b : Nat} {xs : Nat → Int32} {K : zK} {A : Nat → Prop} {H : Heap} {locs : List Loc} {ls : Array Slot} (C : zC p l s m meth c b xs K A) (qx qm qo : Nat) (u v : Nat → Nat) (h0 : 0 ≤ (xs 2).toInt) (h1 : 0 ≤ (xs 1).toInt) (h2 : (xs 1).toInt < 16) (hP : va_P K.1 classes (lwW K qx qm qo u v) H) (hD : va_D A (lwW K qx qm qo u v)) (hS : va_S A s.heap H locs) (hl : lv_has ls 7 [(4, .int 0), (3, .ref qo), (2, .ref qm), (1, .ref qx), (0, .ref b)]) : W p l e room_1 s m #[Value.ref b] below meth c H locs 124 1863516 (lw_Z below #[Value.ref b] s) (F0 m 1106 ls []) := by
  obtain ⟨hx, hb, hr, hml, hown, hg, hX, hbl, hlocks, hK, hZ, hl9, hAA, hA, hbA⟩ := C
  have hP : va_P K.1 classes [(qx, zO 9 9 (zc0 u v)), ((u 0), zO 7 6 (zc1 u v)), (qm, zO 10 83 (zc71 u v)), (qo, zJ K 1 (fun _ => 0))] H := hP.sub [0, 1, 71, 123] rfl
  have hD : va_D A [(qx, zO 9 9 (zc0 u v)), ((u 0), zO 7 6 (zc1 u v)), (qm, zO 10 83 (zc71 u v)), (qo, zJ K 1 (fun _ => 0))] := hD.sub [0, 1, 71, 123] (by decide +kernel) rfl
  obtain ⟨t1, ht1, v1⟩ : ∃ j : Nat, j < 16 ∧ xs 1 = nI j := z_nat (n := 16) (by omega) (by omega) (by decide)
  refine lv_aload_n hx hb dL_law_1106 rfl (lv_at hl 3 rfl) ?_
  refine lv_aload_n hx hb dL_law_1107 rfl (lv_at hl 4 rfl) ?_
  refine lv_iload hx hb dL_law_1108 (lv_at hl 0 rfl) ?_
  refine lv_iconst (v := 1) hx hb dL_law_1110 (by decide) ?_
  refine lv_iadd hx hb dL_law_1111 ?_
  refine z_cst (v := 1) (by decide +kernel) ?_
  refine z_sld (v := (nI t1)) (j := 1) hx hb hX hbl hbA hS rfl (Nat.le_of_ble_eq_true rfl) v1 dL_law_1112 ?_
  refine lv_aload_n hx hb dL_law_1113 rfl (lv_at hl 4 rfl) ?_
  refine lv_iload hx hb dL_law_1114 (lv_at hl 0 rfl) ?_
  refine lv_iconst (v := 2) hx hb dL_law_1116 (by decide) ?_
  refine lv_iadd hx hb dL_law_1117 ?_
  refine z_cst (v := 2) (by decide +kernel) ?_
  refine z_sld (v := (xs 2)) (j := 2) hx hb hX hbl hbA hS rfl (Nat.le_of_ble_eq_true rfl) rfl dL_law_1118 ?_
  refine lv_aload_n hx hb dL_law_1119 rfl (lv_at hl 1 rfl) ?_
  refine z_hcalli [(qx, zO 9 9 (zc0 u v)), ((u 0), zO 7 6 (zc1 u v))] [(qm, zO 10 83 (zc71 u v)), (qo, zJ K 1 (fun _ => 0))] [0, 1] [2, 3] hP hD hS hA rfl rfl (by decide +kernel) (by decide +kernel) (by decide +kernel) 125 1863522 rfl rfl (fun hPc hDc hF => z_xrunH (As := [.ref qx, .int (nI t1), .int (xs 2), .ref qo]) (rest := []) ⟨hx, hb, hml, hown, hg⟩ (cL_par_4 l hl9 K H.size qx qo (u 0) (zc0 u v) (zc1 u v) t1 ht1 (xs 2) (zc0_0 u v) (by rw [Int32.lt_iff_toInt_lt, show (0 : Int32).toInt = 0 from by decide]; omega) (zc1_5 u v) (by rw [Int32.le_iff_toInt_le, show (0 : Int32).toInt = 0 from by decide]; omega)) kS_RL_147 hd_L_par rfl rfl ⟨(Nat.le_of_ble_eq_true rfl), (Nat.le_of_ble_eq_true rfl)⟩ hK hS hZ hPc hDc hF rfl hl.1 rfl (Nat.le_of_ble_eq_true rfl) dL_law_1120 ⟨(Nat.le_of_ble_eq_true rfl), (Nat.le_of_ble_eq_true rfl)⟩) (fun r3 u1 H locs w2 hP hD hS => ?_)
  subst w2
  have hP : va_P K.1 classes [(qm, zO 10 83 (zc71 u v)), (qo, zJ K 1 (fun _ => 0))] H := hP
  have hD : va_D A [(qm, zO 10 83 (zc71 u v)), (qo, zJ K 1 (fun _ => 0))] := hD
  refine lv_istore (lv' := [(5, .int 1), (4, .int 0), (3, .ref qo), (2, .ref qm), (1, .ref qx), (0, .ref b)]) hx hb dL_law_1123 hl (by decide) rfl (fun ls hl => ?_)
  refine lv_aload_n hx hb dL_law_1125 rfl (lv_at hl 3 rfl) ?_
  refine lv_aload_n hx hb dL_law_1126 rfl (lv_at hl 5 rfl) ?_
  refine lv_iload hx hb dL_law_1127 (lv_at hl 1 rfl) ?_
  refine lv_iconst (v := 1) hx hb dL_law_1129 (by decide) ?_
  refine lv_iadd hx hb dL_law_1130 ?_
  refine z_cst (v := 1) (by decide +kernel) ?_
  refine z_sld (v := (nI t1)) (j := 1) hx hb hX hbl hbA hS rfl (Nat.le_of_ble_eq_true rfl) v1 dL_law_1131 ?_
  refine lv_aload_n hx hb dL_law_1132 rfl (lv_at hl 5 rfl) ?_
  refine lv_iload hx hb dL_law_1133 (lv_at hl 1 rfl) ?_
  refine lv_iconst (v := 2) hx hb dL_law_1135 (by decide) ?_
  refine lv_iadd hx hb dL_law_1136 ?_
  refine z_cst (v := 2) (by decide +kernel) ?_
  refine z_sld (v := (xs 2)) (j := 2) hx hb hX hbl hbA hS rfl (Nat.le_of_ble_eq_true rfl) rfl dL_law_1137 ?_
  refine z_calli [(qm, zO 10 83 (zc71 u v))] [(qo, zJ K 1 (fun _ => 0))] [0] [1] hP hD hS hA rfl rfl (by decide +kernel) (by decide +kernel) (by decide +kernel) 125 1863522 rfl rfl (fun hPc hDc hF => z_runV (As := [.int (nI t1), .int (xs 2)]) (rest := []) ⟨hx, hb, hml, hown, hg⟩ (cX12_par_5 l K H.size qm (zc71 u v) t1 ht1 (xs 2) (zc71_0 u v) (by rw [Int32.lt_iff_toInt_lt, show (0 : Int32).toInt = 0 from by decide]; omega) (by rw [Int32.lt_iff_toInt_lt, show (-1 : Int32).toInt = -1 from by decide]; omega)) kV_RL_149 hd_X12_par rfl rfl ⟨(Nat.le_of_ble_eq_true rfl), (Nat.le_of_ble_eq_true rfl)⟩ hK hS hZ hPc hDc hF 0 rfl rfl rfl hl.1 rfl (Nat.le_of_ble_eq_true rfl) dL_law_1138 ⟨(Nat.le_of_ble_eq_true rfl), (Nat.le_of_ble_eq_true rfl)⟩) (fun r6 u4 H locs w5 hP hD hS => ?_)
  subst w5
  have hP : va_P K.1 classes [(qo, zJ K 1 (fun _ => 0)), (qm, zO 10 83 (va_up (zc71 u v) 81 (.int 1)))] H := hP
  have hD : va_D A [(qo, zJ K 1 (fun _ => 0)), (qm, zO 10 83 (va_up (zc71 u v) 81 (.int 1)))] := hD
  refine lv_istore (lv' := [(6, .int 0), (5, .int 1), (4, .int 0), (3, .ref qo), (2, .ref qm), (1, .ref qx), (0, .ref b)]) hx hb dL_law_1141 hl (by decide) rfl (fun ls hl => ?_)
  refine lv_aload_n hx hb dL_law_1143 rfl (lv_at hl 4 rfl) ?_
  refine z_calli [(qm, zO 10 83 (va_up (zc71 u v) 81 (.int 1)))] [(qo, zJ K 1 (fun _ => 0))] [1] [0] hP hD hS hA rfl rfl (by decide +kernel) (by decide +kernel) (by decide +kernel) 125 1863522 rfl rfl (fun hPc hDc hF => z_runV (As := []) (rest := []) ⟨hx, hb, hml, hown, hg⟩ (cX12_thrown_2 l K H.size qm (va_up (zc71 u v) 81 (.int 1)) zu_eq) kV_RL_104 hd_X12_thrown rfl rfl ⟨(Nat.le_of_ble_eq_true rfl), (Nat.le_of_ble_eq_true rfl)⟩ hK hS hZ hPc hDc hF 0 rfl rfl rfl hl.1 rfl (Nat.le_of_ble_eq_true rfl) dL_law_1144 ⟨(Nat.le_of_ble_eq_true rfl), (Nat.le_of_ble_eq_true rfl)⟩) (fun r9 u7 H locs w8 hP hD hS => ?_)
  subst w8
  have hP : va_P K.1 classes [(qo, zJ K 1 (fun _ => 0)), (qm, zO 10 83 (va_up (zc71 u v) 81 (.int 1)))] H := hP
  have hD : va_D A [(qo, zJ K 1 (fun _ => 0)), (qm, zO 10 83 (va_up (zc71 u v) 81 (.int 1)))] := hD
  refine lv_iload hx hb dL_law_1147 (lv_at hl 1 rfl) ?_
  refine lv_icmp_eq (tgt := 1154) hx hb dL_law_1149 (by decide) (fun _ => ?_) (fun c => absurd (by decide) c)
  refine lv_iload hx hb dL_law_1154 (lv_at hl 1 rfl) ?_
  refine lv_if_ne (tgt := 1171) hx hb dL_law_1156 (by decide) (fun _ => ?_) (fun c => absurd c (by decide))
  refine lv_goto (tgt := 2026) hx hb dL_law_1171 (by decide) ?_
  exact law_back ⟨hx, hb, hr, hml, hown, hg, hX, hbl, hlocks, hK, hZ, hl9, hAA, hA, hbA⟩ (Nat.le_of_ble_eq_true rfl) (Nat.le_of_ble_eq_true rfl) hS (lv_sub hl [2, 6] rfl)
set_option maxHeartbeats 4000000 in
set_option maxRecDepth 100000 in
theorem lawS_13_5 {p : Program} {l : Launch} {e : Env} {s : State} {m : MethodId} {below : List Frame} {meth : Method} {c : Code} {b : Nat} {xs : Nat → Int32} {K : zK} {A : Nat → Prop} {H : Heap} {locs : List Loc} {ls : Array Slot} (C : zC p l s m meth c b xs K A) (qx qm qo : Nat) (u v : Nat → Nat) (h0 : 0 ≤ (xs 2).toInt) (h1 : 0 ≤ (xs 1).toInt) (h2 : 16 ≤ (xs 1).toInt) (hP : va_P K.1 classes (lwW K qx qm qo u v) H) (hD : va_D A (lwW K qx qm qo u v)) (hS : va_S A s.heap H locs) (hl : lv_has ls 7 [(4, .int 0), (3, .ref qo), (2, .ref qm), (1, .ref qx), (0, .ref b)]) : W p l e room_1 s m #[Value.ref b] below meth c H locs 124 1863516 (lw_Z below #[Value.ref b] s) (F0 m 1106 ls []) := by
  obtain ⟨hx, hb, hr, hml, hown, hg, hX, hbl, hlocks, hK, hZ, hl9, hAA, hA, hbA⟩ := C
  have hP : va_P K.1 classes [(qx, zO 9 9 (zc0 u v)), ((u 0), zO 7 6 (zc1 u v)), (qm, zO 10 83 (zc71 u v)), (qo, zJ K 1 (fun _ => 0))] H := hP.sub [0, 1, 71, 123] rfl
  have hD : va_D A [(qx, zO 9 9 (zc0 u v)), ((u 0), zO 7 6 (zc1 u v)), (qm, zO 10 83 (zc71 u v)), (qo, zJ K 1 (fun _ => 0))] := hD.sub [0, 1, 71, 123] (by decide +kernel) rfl
  refine lv_aload_n hx hb dL_law_1106 rfl (lv_at hl 3 rfl) ?_
  refine lv_aload_n hx hb dL_law_1107 rfl (lv_at hl 4 rfl) ?_
  refine lv_iload hx hb dL_law_1108 (lv_at hl 0 rfl) ?_
  refine lv_iconst (v := 1) hx hb dL_law_1110 (by decide) ?_
  refine lv_iadd hx hb dL_law_1111 ?_
  refine z_cst (v := 1) (by decide +kernel) ?_
  refine z_sld (v := (xs 1)) (j := 1) hx hb hX hbl hbA hS rfl (Nat.le_of_ble_eq_true rfl) rfl dL_law_1112 ?_
  refine lv_aload_n hx hb dL_law_1113 rfl (lv_at hl 4 rfl) ?_
  refine lv_iload hx hb dL_law_1114 (lv_at hl 0 rfl) ?_
  refine lv_iconst (v := 2) hx hb dL_law_1116 (by decide) ?_
  refine lv_iadd hx hb dL_law_1117 ?_
  refine z_cst (v := 2) (by decide +kernel) ?_
  refine z_sld (v := (xs 2)) (j := 2) hx hb hX hbl hbA hS rfl (Nat.le_of_ble_eq_true rfl) rfl dL_law_1118 ?_
  refine lv_aload_n hx hb dL_law_1119 rfl (lv_at hl 1 rfl) ?_
  refine z_hcalli [(qx, zO 9 9 (zc0 u v)), ((u 0), zO 7 6 (zc1 u v))] [(qm, zO 10 83 (zc71 u v)), (qo, zJ K 1 (fun _ => 0))] [0, 1] [2, 3] hP hD hS hA rfl rfl (by decide +kernel) (by decide +kernel) (by decide +kernel) 125 1863522 rfl rfl (fun hPc hDc hF => z_xrunH (As := [.ref qx, .int (xs 1), .int (xs 2), .ref qo]) (rest := []) ⟨hx, hb, hml, hown, hg⟩ (cL_par_3 l hl9 K H.size qx qo (u 0) (zc0 u v) (zc1 u v) (xs 1) (xs 2) (zc0_0 u v) (by rw [Int32.lt_iff_toInt_lt, show (0 : Int32).toInt = 0 from by decide]; omega) (zc1_5 u v) (by rw [Int32.le_iff_toInt_le, show (0 : Int32).toInt = 0 from by decide]; omega)) kS_RL_147 hd_L_par rfl rfl ⟨(Nat.le_of_ble_eq_true rfl), (Nat.le_of_ble_eq_true rfl)⟩ hK hS hZ hPc hDc hF rfl hl.1 rfl (Nat.le_of_ble_eq_true rfl) dL_law_1120 ⟨(Nat.le_of_ble_eq_true rfl), (Nat.le_of_ble_eq_true rfl)⟩) (fun r3 u1 H locs w2 hP hD hS => ?_)
  subst w2
  have hP : va_P K.1 classes [(qm, zO 10 83 (zc71 u v)), (qo, zJ K 1 (fun _ => 0))] H := hP
  have hD : va_D A [(qm, zO 10 83 (zc71 u v)), (qo, zJ K 1 (fun _ => 0))] := hD
  refine lv_istore (lv' := [(5, .int 1), (4, .int 0), (3, .ref qo), (2, .ref qm), (1, .ref qx), (0, .ref b)]) hx hb dL_law_1123 hl (by decide) rfl (fun ls hl => ?_)
  refine lv_aload_n hx hb dL_law_1125 rfl (lv_at hl 3 rfl) ?_
  refine lv_aload_n hx hb dL_law_1126 rfl (lv_at hl 5 rfl) ?_
  refine lv_iload hx hb dL_law_1127 (lv_at hl 1 rfl) ?_
  refine lv_iconst (v := 1) hx hb dL_law_1129 (by decide) ?_
  refine lv_iadd hx hb dL_law_1130 ?_
  refine z_cst (v := 1) (by decide +kernel) ?_
  refine z_sld (v := (xs 1)) (j := 1) hx hb hX hbl hbA hS rfl (Nat.le_of_ble_eq_true rfl) rfl dL_law_1131 ?_
  refine lv_aload_n hx hb dL_law_1132 rfl (lv_at hl 5 rfl) ?_
  refine lv_iload hx hb dL_law_1133 (lv_at hl 1 rfl) ?_
  refine lv_iconst (v := 2) hx hb dL_law_1135 (by decide) ?_
  refine lv_iadd hx hb dL_law_1136 ?_
  refine z_cst (v := 2) (by decide +kernel) ?_
  refine z_sld (v := (xs 2)) (j := 2) hx hb hX hbl hbA hS rfl (Nat.le_of_ble_eq_true rfl) rfl dL_law_1137 ?_
  refine z_calli [(qm, zO 10 83 (zc71 u v))] [(qo, zJ K 1 (fun _ => 0))] [0] [1] hP hD hS hA rfl rfl (by decide +kernel) (by decide +kernel) (by decide +kernel) 125 1863522 rfl rfl (fun hPc hDc hF => z_runV (As := [.int (xs 1), .int (xs 2)]) (rest := []) ⟨hx, hb, hml, hown, hg⟩ (cX12_par_6 l K H.size qm (zc71 u v) (xs 1) (xs 2) (zc71_0 u v) (by rw [Int32.lt_iff_toInt_lt, show (0 : Int32).toInt = 0 from by decide]; omega) (by rw [Int32.lt_iff_toInt_lt, show (-1 : Int32).toInt = -1 from by decide]; omega) (by rw [Int32.lt_iff_toInt_lt, show (0 : Int32).toInt = 0 from by decide]; omega) (by rw [Int32.lt_iff_toInt_lt, show (15 : Int32).toInt = 15 from by decide]; omega)) kV_RL_149 hd_X12_par rfl rfl ⟨(Nat.le_of_ble_eq_true rfl), (Nat.le_of_ble_eq_true rfl)⟩ hK hS hZ hPc hDc hF 0 rfl rfl rfl hl.1 rfl (Nat.le_of_ble_eq_true rfl) dL_law_1138 ⟨(Nat.le_of_ble_eq_true rfl), (Nat.le_of_ble_eq_true rfl)⟩) (fun r6 u4 H locs w5 hP hD hS => ?_)
  subst w5
  have hP : va_P K.1 classes [(qo, zJ K 1 (fun _ => 0)), (qm, zO 10 83 (va_up (zc71 u v) 81 (.int 1)))] H := hP
  have hD : va_D A [(qo, zJ K 1 (fun _ => 0)), (qm, zO 10 83 (va_up (zc71 u v) 81 (.int 1)))] := hD
  refine lv_istore (lv' := [(6, .int 0), (5, .int 1), (4, .int 0), (3, .ref qo), (2, .ref qm), (1, .ref qx), (0, .ref b)]) hx hb dL_law_1141 hl (by decide) rfl (fun ls hl => ?_)
  refine lv_aload_n hx hb dL_law_1143 rfl (lv_at hl 4 rfl) ?_
  refine z_calli [(qm, zO 10 83 (va_up (zc71 u v) 81 (.int 1)))] [(qo, zJ K 1 (fun _ => 0))] [1] [0] hP hD hS hA rfl rfl (by decide +kernel) (by decide +kernel) (by decide +kernel) 125 1863522 rfl rfl (fun hPc hDc hF => z_runV (As := []) (rest := []) ⟨hx, hb, hml, hown, hg⟩ (cX12_thrown_2 l K H.size qm (va_up (zc71 u v) 81 (.int 1)) zu_eq) kV_RL_104 hd_X12_thrown rfl rfl ⟨(Nat.le_of_ble_eq_true rfl), (Nat.le_of_ble_eq_true rfl)⟩ hK hS hZ hPc hDc hF 0 rfl rfl rfl hl.1 rfl (Nat.le_of_ble_eq_true rfl) dL_law_1144 ⟨(Nat.le_of_ble_eq_true rfl), (Nat.le_of_ble_eq_true rfl)⟩) (fun r9 u7 H locs w8 hP hD hS => ?_)
  subst w8
  have hP : va_P K.1 classes [(qo, zJ K 1 (fun _ => 0)), (qm, zO 10 83 (va_up (zc71 u v) 81 (.int 1)))] H := hP
  have hD : va_D A [(qo, zJ K 1 (fun _ => 0)), (qm, zO 10 83 (va_up (zc71 u v) 81 (.int 1)))] := hD
  refine lv_iload hx hb dL_law_1147 (lv_at hl 1 rfl) ?_
  refine lv_icmp_eq (tgt := 1154) hx hb dL_law_1149 (by decide) (fun _ => ?_) (fun c => absurd (by decide) c)
  refine lv_iload hx hb dL_law_1154 (lv_at hl 1 rfl) ?_
  refine lv_if_ne (tgt := 1171) hx hb dL_law_1156 (by decide) (fun _ => ?_) (fun c => absurd c (by decide))
  refine lv_goto (tgt := 2026) hx hb dL_law_1171 (by decide) ?_
  exact law_back ⟨hx, hb, hr, hml, hown, hg, hX, hbl, hlocks, hK, hZ, hl9, hAA, hA, hbA⟩ (Nat.le_of_ble_eq_true rfl) (Nat.le_of_ble_eq_true rfl) hS (lv_sub hl [2, 6] rfl)
theorem lawC_13 {p : Program} {l : Launch} {e : Env} {s : State} {m : MethodId} {below : List Frame} {meth : Method} {c : Code} {b : Nat} {xs : Nat → Int32} {K : zK} {A : Nat → Prop} {H : Heap} {locs : List Loc} {ls : Array Slot} (C : zC p l s m meth c b xs K A) (qx qm qo : Nat) (u v : Nat → Nat) (hP : va_P K.1 classes (lwW K qx qm qo u v) H) (hD : va_D A (lwW K qx qm qo u v)) (hS : va_S A s.heap H locs) (hl : lv_has ls 7 [(4, .int 0), (3, .ref qo), (2, .ref qm), (1, .ref qx), (0, .ref b)]) : W p l e room_1 s m #[Value.ref b] below meth c H locs 124 1863516 (lw_Z below #[Value.ref b] s) (F0 m 1106 ls []) := by
  rcases z_split (xs 2) (0) with h0 | h0
  · rcases z_split (xs 1) (0) with h1 | h1
    · exact lawS_13_0 C qx qm qo u v h0 h1 hP hD hS hl
    · rcases z_split (xs 1) (16) with h2 | h2
      · exact lawS_13_1 C qx qm qo u v h0 h1 h2 hP hD hS hl
      · exact lawS_13_2 C qx qm qo u v h0 h1 h2 hP hD hS hl
  · rcases z_split (xs 1) (0) with h1 | h1
    · exact lawS_13_3 C qx qm qo u v h0 h1 hP hD hS hl
    · rcases z_split (xs 1) (16) with h2 | h2
      · exact lawS_13_4 C qx qm qo u v h0 h1 h2 hP hD hS hl
      · exact lawS_13_5 C qx qm qo u v h0 h1 h2 hP hD hS hl
set_option maxHeartbeats 4000000 in
set_option maxRecDepth 100000 in
theorem lawS_14_0 {p : Program} {l : Launch} {e : Env} {s : State} {m : MethodId} {below : List Frame} {meth : Method} {c : Code} {b : Nat} {xs : Nat → Int32} {K : zK} {A : Nat → Prop} {H : Heap} {locs : List Loc} {ls : Array Slot} (C : zC p l s m meth c b xs K A) (qx qm qo : Nat) (u v : Nat → Nat) (h0 : (xs 2).toInt < 0) (h1 : (xs 1).toInt < 0) (hP : va_P K.1 classes (lwW K qx qm qo u v) H) (hD : va_D A (lwW K qx qm qo u v)) (hS : va_S A s.heap H locs) (hl : lv_has ls 7 [(4, .int 0), (3, .ref qo), (2, .ref qm), (1, .ref qx), (0, .ref b)]) : W p l e room_1 s m #[Value.ref b] below meth c H locs 124 1863516 (lw_Z below #[Value.ref b] s) (F0 m 1174 ls []) := by
  obtain ⟨hx, hb, hr, hml, hown, hg, hX, hbl, hlocks, hK, hZ, hl9, hAA, hA, hbA⟩ := C
  have hP : va_P K.1 classes [(qx, zO 9 9 (zc0 u v)), ((u 0), zO 7 6 (zc1 u v)), (qm, zO 10 83 (zc71 u v)), (qo, zJ K 1 (fun _ => 0))] H := hP.sub [0, 1, 71, 123] rfl
  have hD : va_D A [(qx, zO 9 9 (zc0 u v)), ((u 0), zO 7 6 (zc1 u v)), (qm, zO 10 83 (zc71 u v)), (qo, zJ K 1 (fun _ => 0))] := hD.sub [0, 1, 71, 123] (by decide +kernel) rfl
  refine lv_aload_n hx hb dL_law_1174 rfl (lv_at hl 3 rfl) ?_
  refine lv_aload_n hx hb dL_law_1175 rfl (lv_at hl 4 rfl) ?_
  refine lv_iload hx hb dL_law_1176 (lv_at hl 0 rfl) ?_
  refine lv_iconst (v := 1) hx hb dL_law_1178 (by decide) ?_
  refine lv_iadd hx hb dL_law_1179 ?_
  refine z_cst (v := 1) (by decide +kernel) ?_
  refine z_sld (v := (xs 1)) (j := 1) hx hb hX hbl hbA hS rfl (Nat.le_of_ble_eq_true rfl) rfl dL_law_1180 ?_
  refine lv_aload_n hx hb dL_law_1181 rfl (lv_at hl 4 rfl) ?_
  refine lv_iload hx hb dL_law_1182 (lv_at hl 0 rfl) ?_
  refine lv_iconst (v := 2) hx hb dL_law_1184 (by decide) ?_
  refine lv_iadd hx hb dL_law_1185 ?_
  refine z_cst (v := 2) (by decide +kernel) ?_
  refine z_sld (v := (xs 2)) (j := 2) hx hb hX hbl hbA hS rfl (Nat.le_of_ble_eq_true rfl) rfl dL_law_1186 ?_
  refine lv_aload_n hx hb dL_law_1187 rfl (lv_at hl 1 rfl) ?_
  refine z_hcalli [(qx, zO 9 9 (zc0 u v)), ((u 0), zO 7 6 (zc1 u v))] [(qm, zO 10 83 (zc71 u v)), (qo, zJ K 1 (fun _ => 0))] [0, 1] [2, 3] hP hD hS hA rfl rfl (by decide +kernel) (by decide +kernel) (by decide +kernel) 125 1863522 rfl rfl (fun hPc hDc hF => z_xrunH (As := [.ref qx, .int (xs 1), .int (xs 2), .ref qo]) (rest := []) ⟨hx, hb, hml, hown, hg⟩ (cL_centre_1 l hl9 K H.size qx qo (u 0) (zc0 u v) (zc1 u v) (xs 1) (xs 2) (zc0_0 u v) (by rw [Int32.lt_iff_toInt_lt, show (0 : Int32).toInt = 0 from by decide]; omega)) kS_RL_150 hd_L_centre rfl rfl ⟨(Nat.le_of_ble_eq_true rfl), (Nat.le_of_ble_eq_true rfl)⟩ hK hS hZ hPc hDc hF rfl hl.1 rfl (Nat.le_of_ble_eq_true rfl) dL_law_1188 ⟨(Nat.le_of_ble_eq_true rfl), (Nat.le_of_ble_eq_true rfl)⟩) (fun r3 u1 H locs w2 hP hD hS => ?_)
  subst w2
  have hP : va_P K.1 classes [(qm, zO 10 83 (zc71 u v)), (qo, zJ K 1 (fun _ => 0))] H := hP
  have hD : va_D A [(qm, zO 10 83 (zc71 u v)), (qo, zJ K 1 (fun _ => 0))] := hD
  refine lv_istore (lv' := [(5, .int 1), (4, .int 0), (3, .ref qo), (2, .ref qm), (1, .ref qx), (0, .ref b)]) hx hb dL_law_1191 hl (by decide) rfl (fun ls hl => ?_)
  refine lv_aload_n hx hb dL_law_1193 rfl (lv_at hl 3 rfl) ?_
  refine lv_aload_n hx hb dL_law_1194 rfl (lv_at hl 5 rfl) ?_
  refine lv_iload hx hb dL_law_1195 (lv_at hl 1 rfl) ?_
  refine lv_iconst (v := 1) hx hb dL_law_1197 (by decide) ?_
  refine lv_iadd hx hb dL_law_1198 ?_
  refine z_cst (v := 1) (by decide +kernel) ?_
  refine z_sld (v := (xs 1)) (j := 1) hx hb hX hbl hbA hS rfl (Nat.le_of_ble_eq_true rfl) rfl dL_law_1199 ?_
  refine lv_aload_n hx hb dL_law_1200 rfl (lv_at hl 5 rfl) ?_
  refine lv_iload hx hb dL_law_1201 (lv_at hl 1 rfl) ?_
  refine lv_iconst (v := 2) hx hb dL_law_1203 (by decide) ?_
  refine lv_iadd hx hb dL_law_1204 ?_
  refine z_cst (v := 2) (by decide +kernel) ?_
  refine z_sld (v := (xs 2)) (j := 2) hx hb hX hbl hbA hS rfl (Nat.le_of_ble_eq_true rfl) rfl dL_law_1205 ?_
  refine z_calli [(qm, zO 10 83 (zc71 u v))] [(qo, zJ K 1 (fun _ => 0))] [0] [1] hP hD hS hA rfl rfl (by decide +kernel) (by decide +kernel) (by decide +kernel) 125 1863522 rfl rfl (fun hPc hDc hF => z_runV (As := [.int (xs 1), .int (xs 2)]) (rest := []) ⟨hx, hb, hml, hown, hg⟩ (cX12_centre_1 l K H.size qm (zc71 u v) (xs 1) (xs 2) (zc71_0 u v) (by rw [Int32.lt_iff_toInt_lt, show (0 : Int32).toInt = 0 from by decide]; omega) (by rw [Int32.lt_iff_toInt_lt, show (0 : Int32).toInt = 0 from by decide]; omega)) kV_RL_152 hd_X12_centre rfl rfl ⟨(Nat.le_of_ble_eq_true rfl), (Nat.le_of_ble_eq_true rfl)⟩ hK hS hZ hPc hDc hF 0 rfl rfl rfl hl.1 rfl (Nat.le_of_ble_eq_true rfl) dL_law_1206 ⟨(Nat.le_of_ble_eq_true rfl), (Nat.le_of_ble_eq_true rfl)⟩) (fun r6 u4 H locs w5 hP hD hS => ?_)
  subst w5
  have hP : va_P K.1 classes [(qo, zJ K 1 (fun _ => 0)), (qm, zO 10 83 (va_up (zc71 u v) 81 (.int 1)))] H := hP
  have hD : va_D A [(qo, zJ K 1 (fun _ => 0)), (qm, zO 10 83 (va_up (zc71 u v) 81 (.int 1)))] := hD
  refine lv_istore (lv' := [(6, .int 0), (5, .int 1), (4, .int 0), (3, .ref qo), (2, .ref qm), (1, .ref qx), (0, .ref b)]) hx hb dL_law_1209 hl (by decide) rfl (fun ls hl => ?_)
  refine lv_aload_n hx hb dL_law_1211 rfl (lv_at hl 4 rfl) ?_
  refine z_calli [(qm, zO 10 83 (va_up (zc71 u v) 81 (.int 1)))] [(qo, zJ K 1 (fun _ => 0))] [1] [0] hP hD hS hA rfl rfl (by decide +kernel) (by decide +kernel) (by decide +kernel) 125 1863522 rfl rfl (fun hPc hDc hF => z_runV (As := []) (rest := []) ⟨hx, hb, hml, hown, hg⟩ (cX12_thrown_2 l K H.size qm (va_up (zc71 u v) 81 (.int 1)) zu_eq) kV_RL_104 hd_X12_thrown rfl rfl ⟨(Nat.le_of_ble_eq_true rfl), (Nat.le_of_ble_eq_true rfl)⟩ hK hS hZ hPc hDc hF 0 rfl rfl rfl hl.1 rfl (Nat.le_of_ble_eq_true rfl) dL_law_1212 ⟨(Nat.le_of_ble_eq_true rfl), (Nat.le_of_ble_eq_true rfl)⟩) (fun r9 u7 H locs w8 hP hD hS => ?_)
  subst w8
  have hP : va_P K.1 classes [(qo, zJ K 1 (fun _ => 0)), (qm, zO 10 83 (va_up (zc71 u v) 81 (.int 1)))] H := hP
  have hD : va_D A [(qo, zJ K 1 (fun _ => 0)), (qm, zO 10 83 (va_up (zc71 u v) 81 (.int 1)))] := hD
  refine lv_iload hx hb dL_law_1215 (lv_at hl 1 rfl) ?_
  refine lv_icmp_eq (tgt := 1222) hx hb dL_law_1217 (by decide) (fun _ => ?_) (fun c => absurd (by decide) c)
  refine lv_iload hx hb dL_law_1222 (lv_at hl 1 rfl) ?_
  refine lv_if_ne (tgt := 1239) hx hb dL_law_1224 (by decide) (fun _ => ?_) (fun c => absurd c (by decide))
  refine lv_goto (tgt := 2026) hx hb dL_law_1239 (by decide) ?_
  exact law_back ⟨hx, hb, hr, hml, hown, hg, hX, hbl, hlocks, hK, hZ, hl9, hAA, hA, hbA⟩ (Nat.le_of_ble_eq_true rfl) (Nat.le_of_ble_eq_true rfl) hS (lv_sub hl [2, 6] rfl)
set_option maxHeartbeats 4000000 in
set_option maxRecDepth 100000 in
theorem lawS_14_1 {p : Program} {l : Launch} {e : Env} {s : State} {m : MethodId} {below : List Frame} {meth : Method} {c : Code} {b : Nat} {xs : Nat → Int32} {K : zK} {A : Nat → Prop} {H : Heap} {locs : List Loc} {ls : Array Slot} (C : zC p l s m meth c b xs K A) (qx qm qo : Nat) (u v : Nat → Nat) (h0 : (xs 2).toInt < 0) (h1 : 0 ≤ (xs 1).toInt) (h2 : (xs 1).toInt < 4) (hP : va_P K.1 classes (lwW K qx qm qo u v) H) (hD : va_D A (lwW K qx qm qo u v)) (hS : va_S A s.heap H locs) (hl : lv_has ls 7 [(4, .int 0), (3, .ref qo), (2, .ref qm), (1, .ref qx), (0, .ref b)]) : W p l e room_1 s m #[Value.ref b] below meth c H locs 124 1863516 (lw_Z below #[Value.ref b] s) (F0 m 1174 ls []) := by
  obtain ⟨hx, hb, hr, hml, hown, hg, hX, hbl, hlocks, hK, hZ, hl9, hAA, hA, hbA⟩ := C
  have hP : va_P K.1 classes [(qx, zO 9 9 (zc0 u v)), ((u 0), zO 7 6 (zc1 u v)), (qm, zO 10 83 (zc71 u v)), (qo, zJ K 1 (fun _ => 0))] H := hP.sub [0, 1, 71, 123] rfl
  have hD : va_D A [(qx, zO 9 9 (zc0 u v)), ((u 0), zO 7 6 (zc1 u v)), (qm, zO 10 83 (zc71 u v)), (qo, zJ K 1 (fun _ => 0))] := hD.sub [0, 1, 71, 123] (by decide +kernel) rfl
  obtain ⟨t1, ht1, v1⟩ : ∃ j : Nat, j < 4 ∧ xs 1 = nI j := z_nat (n := 4) (by omega) (by omega) (by decide)
  refine lv_aload_n hx hb dL_law_1174 rfl (lv_at hl 3 rfl) ?_
  refine lv_aload_n hx hb dL_law_1175 rfl (lv_at hl 4 rfl) ?_
  refine lv_iload hx hb dL_law_1176 (lv_at hl 0 rfl) ?_
  refine lv_iconst (v := 1) hx hb dL_law_1178 (by decide) ?_
  refine lv_iadd hx hb dL_law_1179 ?_
  refine z_cst (v := 1) (by decide +kernel) ?_
  refine z_sld (v := (nI t1)) (j := 1) hx hb hX hbl hbA hS rfl (Nat.le_of_ble_eq_true rfl) v1 dL_law_1180 ?_
  refine lv_aload_n hx hb dL_law_1181 rfl (lv_at hl 4 rfl) ?_
  refine lv_iload hx hb dL_law_1182 (lv_at hl 0 rfl) ?_
  refine lv_iconst (v := 2) hx hb dL_law_1184 (by decide) ?_
  refine lv_iadd hx hb dL_law_1185 ?_
  refine z_cst (v := 2) (by decide +kernel) ?_
  refine z_sld (v := (xs 2)) (j := 2) hx hb hX hbl hbA hS rfl (Nat.le_of_ble_eq_true rfl) rfl dL_law_1186 ?_
  refine lv_aload_n hx hb dL_law_1187 rfl (lv_at hl 1 rfl) ?_
  refine z_hcalli [(qx, zO 9 9 (zc0 u v)), ((u 0), zO 7 6 (zc1 u v))] [(qm, zO 10 83 (zc71 u v)), (qo, zJ K 1 (fun _ => 0))] [0, 1] [2, 3] hP hD hS hA rfl rfl (by decide +kernel) (by decide +kernel) (by decide +kernel) 125 1863522 rfl rfl (fun hPc hDc hF => z_xrunH (As := [.ref qx, .int (nI t1), .int (xs 2), .ref qo]) (rest := []) ⟨hx, hb, hml, hown, hg⟩ (cL_centre_2 l hl9 K H.size qx qo (u 0) (zc0 u v) (zc1 u v) t1 ht1 (xs 2) (zc0_0 u v) (by rw [Int32.lt_iff_toInt_lt, show (0 : Int32).toInt = 0 from by decide]; omega)) kS_RL_150 hd_L_centre rfl rfl ⟨(Nat.le_of_ble_eq_true rfl), (Nat.le_of_ble_eq_true rfl)⟩ hK hS hZ hPc hDc hF rfl hl.1 rfl (Nat.le_of_ble_eq_true rfl) dL_law_1188 ⟨(Nat.le_of_ble_eq_true rfl), (Nat.le_of_ble_eq_true rfl)⟩) (fun r3 u1 H locs w2 hP hD hS => ?_)
  subst w2
  have hP : va_P K.1 classes [(qm, zO 10 83 (zc71 u v)), (qo, zJ K 1 (fun _ => 0))] H := hP
  have hD : va_D A [(qm, zO 10 83 (zc71 u v)), (qo, zJ K 1 (fun _ => 0))] := hD
  refine lv_istore (lv' := [(5, .int 1), (4, .int 0), (3, .ref qo), (2, .ref qm), (1, .ref qx), (0, .ref b)]) hx hb dL_law_1191 hl (by decide) rfl (fun ls hl => ?_)
  refine lv_aload_n hx hb dL_law_1193 rfl (lv_at hl 3 rfl) ?_
  refine lv_aload_n hx hb dL_law_1194 rfl (lv_at hl 5 rfl) ?_
  refine lv_iload hx hb dL_law_1195 (lv_at hl 1 rfl) ?_
  refine lv_iconst (v := 1) hx hb dL_law_1197 (by decide) ?_
  refine lv_iadd hx hb dL_law_1198 ?_
  refine z_cst (v := 1) (by decide +kernel) ?_
  refine z_sld (v := (nI t1)) (j := 1) hx hb hX hbl hbA hS rfl (Nat.le_of_ble_eq_true rfl) v1 dL_law_1199 ?_
  refine lv_aload_n hx hb dL_law_1200 rfl (lv_at hl 5 rfl) ?_
  refine lv_iload hx hb dL_law_1201 (lv_at hl 1 rfl) ?_
  refine lv_iconst (v := 2) hx hb dL_law_1203 (by decide) ?_
  refine lv_iadd hx hb dL_law_1204 ?_
  refine z_cst (v := 2) (by decide +kernel) ?_
  refine z_sld (v := (xs 2)) (j := 2) hx hb hX hbl hbA hS rfl (Nat.le_of_ble_eq_true rfl) rfl dL_law_1205 ?_
  refine z_calli [(qm, zO 10 83 (zc71 u v))] [(qo, zJ K 1 (fun _ => 0))] [0] [1] hP hD hS hA rfl rfl (by decide +kernel) (by decide +kernel) (by decide +kernel) 125 1863522 rfl rfl (fun hPc hDc hF => z_runV (As := [.int (nI t1), .int (xs 2)]) (rest := []) ⟨hx, hb, hml, hown, hg⟩ (cX12_centre_2 l K H.size qm (zc71 u v) t1 ht1 (xs 2) (zc71_0 u v) (by rw [Int32.lt_iff_toInt_lt, show (0 : Int32).toInt = 0 from by decide]; omega)) kV_RL_152 hd_X12_centre rfl rfl ⟨(Nat.le_of_ble_eq_true rfl), (Nat.le_of_ble_eq_true rfl)⟩ hK hS hZ hPc hDc hF 0 rfl rfl rfl hl.1 rfl (Nat.le_of_ble_eq_true rfl) dL_law_1206 ⟨(Nat.le_of_ble_eq_true rfl), (Nat.le_of_ble_eq_true rfl)⟩) (fun r6 u4 H locs w5 hP hD hS => ?_)
  subst w5
  have hP : va_P K.1 classes [(qo, zJ K 1 (fun _ => 0)), (qm, zO 10 83 (va_up (zc71 u v) 81 (.int 1)))] H := hP
  have hD : va_D A [(qo, zJ K 1 (fun _ => 0)), (qm, zO 10 83 (va_up (zc71 u v) 81 (.int 1)))] := hD
  refine lv_istore (lv' := [(6, .int 0), (5, .int 1), (4, .int 0), (3, .ref qo), (2, .ref qm), (1, .ref qx), (0, .ref b)]) hx hb dL_law_1209 hl (by decide) rfl (fun ls hl => ?_)
  refine lv_aload_n hx hb dL_law_1211 rfl (lv_at hl 4 rfl) ?_
  refine z_calli [(qm, zO 10 83 (va_up (zc71 u v) 81 (.int 1)))] [(qo, zJ K 1 (fun _ => 0))] [1] [0] hP hD hS hA rfl rfl (by decide +kernel) (by decide +kernel) (by decide +kernel) 125 1863522 rfl rfl (fun hPc hDc hF => z_runV (As := []) (rest := []) ⟨hx, hb, hml, hown, hg⟩ (cX12_thrown_2 l K H.size qm (va_up (zc71 u v) 81 (.int 1)) zu_eq) kV_RL_104 hd_X12_thrown rfl rfl ⟨(Nat.le_of_ble_eq_true rfl), (Nat.le_of_ble_eq_true rfl)⟩ hK hS hZ hPc hDc hF 0 rfl rfl rfl hl.1 rfl (Nat.le_of_ble_eq_true rfl) dL_law_1212 ⟨(Nat.le_of_ble_eq_true rfl), (Nat.le_of_ble_eq_true rfl)⟩) (fun r9 u7 H locs w8 hP hD hS => ?_)
  subst w8
  have hP : va_P K.1 classes [(qo, zJ K 1 (fun _ => 0)), (qm, zO 10 83 (va_up (zc71 u v) 81 (.int 1)))] H := hP
  have hD : va_D A [(qo, zJ K 1 (fun _ => 0)), (qm, zO 10 83 (va_up (zc71 u v) 81 (.int 1)))] := hD
  refine lv_iload hx hb dL_law_1215 (lv_at hl 1 rfl) ?_
  refine lv_icmp_eq (tgt := 1222) hx hb dL_law_1217 (by decide) (fun _ => ?_) (fun c => absurd (by decide) c)
  refine lv_iload hx hb dL_law_1222 (lv_at hl 1 rfl) ?_
  refine lv_if_ne (tgt := 1239) hx hb dL_law_1224 (by decide) (fun _ => ?_) (fun c => absurd c (by decide))
  refine lv_goto (tgt := 2026) hx hb dL_law_1239 (by decide) ?_
  exact law_back ⟨hx, hb, hr, hml, hown, hg, hX, hbl, hlocks, hK, hZ, hl9, hAA, hA, hbA⟩ (Nat.le_of_ble_eq_true rfl) (Nat.le_of_ble_eq_true rfl) hS (lv_sub hl [2, 6] rfl)
set_option maxHeartbeats 4000000 in
set_option maxRecDepth 100000 in
theorem lawS_14_2 {p : Program} {l : Launch} {e : Env} {s : State} {m : MethodId} {below : List Frame} {meth : Method} {c : Code} {b : Nat} {xs : Nat → Int32} {K : zK} {A : Nat → Prop} {H : Heap} {locs : List Loc} {ls : Array Slot} (C : zC p l s m meth c b xs K A) (qx qm qo : Nat) (u v : Nat → Nat) (h0 : (xs 2).toInt < 0) (h1 : 0 ≤ (xs 1).toInt) (h2 : 4 ≤ (xs 1).toInt) (hP : va_P K.1 classes (lwW K qx qm qo u v) H) (hD : va_D A (lwW K qx qm qo u v)) (hS : va_S A s.heap H locs) (hl : lv_has ls 7 [(4, .int 0), (3, .ref qo), (2, .ref qm), (1, .ref qx), (0, .ref b)]) : W p l e room_1 s m #[Value.ref b] below meth c H locs 124 1863516 (lw_Z below #[Value.ref b] s) (F0 m 1174 ls []) := by
  obtain ⟨hx, hb, hr, hml, hown, hg, hX, hbl, hlocks, hK, hZ, hl9, hAA, hA, hbA⟩ := C
  have hP : va_P K.1 classes [(qx, zO 9 9 (zc0 u v)), ((u 0), zO 7 6 (zc1 u v)), (qm, zO 10 83 (zc71 u v)), (qo, zJ K 1 (fun _ => 0))] H := hP.sub [0, 1, 71, 123] rfl
  have hD : va_D A [(qx, zO 9 9 (zc0 u v)), ((u 0), zO 7 6 (zc1 u v)), (qm, zO 10 83 (zc71 u v)), (qo, zJ K 1 (fun _ => 0))] := hD.sub [0, 1, 71, 123] (by decide +kernel) rfl
  refine lv_aload_n hx hb dL_law_1174 rfl (lv_at hl 3 rfl) ?_
  refine lv_aload_n hx hb dL_law_1175 rfl (lv_at hl 4 rfl) ?_
  refine lv_iload hx hb dL_law_1176 (lv_at hl 0 rfl) ?_
  refine lv_iconst (v := 1) hx hb dL_law_1178 (by decide) ?_
  refine lv_iadd hx hb dL_law_1179 ?_
  refine z_cst (v := 1) (by decide +kernel) ?_
  refine z_sld (v := (xs 1)) (j := 1) hx hb hX hbl hbA hS rfl (Nat.le_of_ble_eq_true rfl) rfl dL_law_1180 ?_
  refine lv_aload_n hx hb dL_law_1181 rfl (lv_at hl 4 rfl) ?_
  refine lv_iload hx hb dL_law_1182 (lv_at hl 0 rfl) ?_
  refine lv_iconst (v := 2) hx hb dL_law_1184 (by decide) ?_
  refine lv_iadd hx hb dL_law_1185 ?_
  refine z_cst (v := 2) (by decide +kernel) ?_
  refine z_sld (v := (xs 2)) (j := 2) hx hb hX hbl hbA hS rfl (Nat.le_of_ble_eq_true rfl) rfl dL_law_1186 ?_
  refine lv_aload_n hx hb dL_law_1187 rfl (lv_at hl 1 rfl) ?_
  refine z_hcalli [(qx, zO 9 9 (zc0 u v)), ((u 0), zO 7 6 (zc1 u v))] [(qm, zO 10 83 (zc71 u v)), (qo, zJ K 1 (fun _ => 0))] [0, 1] [2, 3] hP hD hS hA rfl rfl (by decide +kernel) (by decide +kernel) (by decide +kernel) 125 1863522 rfl rfl (fun hPc hDc hF => z_xrunH (As := [.ref qx, .int (xs 1), .int (xs 2), .ref qo]) (rest := []) ⟨hx, hb, hml, hown, hg⟩ (cL_centre_1 l hl9 K H.size qx qo (u 0) (zc0 u v) (zc1 u v) (xs 1) (xs 2) (zc0_0 u v) (by rw [Int32.lt_iff_toInt_lt, show (0 : Int32).toInt = 0 from by decide]; omega)) kS_RL_150 hd_L_centre rfl rfl ⟨(Nat.le_of_ble_eq_true rfl), (Nat.le_of_ble_eq_true rfl)⟩ hK hS hZ hPc hDc hF rfl hl.1 rfl (Nat.le_of_ble_eq_true rfl) dL_law_1188 ⟨(Nat.le_of_ble_eq_true rfl), (Nat.le_of_ble_eq_true rfl)⟩) (fun r3 u1 H locs w2 hP hD hS => ?_)
  subst w2
  have hP : va_P K.1 classes [(qm, zO 10 83 (zc71 u v)), (qo, zJ K 1 (fun _ => 0))] H := hP
  have hD : va_D A [(qm, zO 10 83 (zc71 u v)), (qo, zJ K 1 (fun _ => 0))] := hD
  refine lv_istore (lv' := [(5, .int 1), (4, .int 0), (3, .ref qo), (2, .ref qm), (1, .ref qx), (0, .ref b)]) hx hb dL_law_1191 hl (by decide) rfl (fun ls hl => ?_)
  refine lv_aload_n hx hb dL_law_1193 rfl (lv_at hl 3 rfl) ?_
  refine lv_aload_n hx hb dL_law_1194 rfl (lv_at hl 5 rfl) ?_
  refine lv_iload hx hb dL_law_1195 (lv_at hl 1 rfl) ?_
  refine lv_iconst (v := 1) hx hb dL_law_1197 (by decide) ?_
  refine lv_iadd hx hb dL_law_1198 ?_
  refine z_cst (v := 1) (by decide +kernel) ?_
  refine z_sld (v := (xs 1)) (j := 1) hx hb hX hbl hbA hS rfl (Nat.le_of_ble_eq_true rfl) rfl dL_law_1199 ?_
  refine lv_aload_n hx hb dL_law_1200 rfl (lv_at hl 5 rfl) ?_
  refine lv_iload hx hb dL_law_1201 (lv_at hl 1 rfl) ?_
  refine lv_iconst (v := 2) hx hb dL_law_1203 (by decide) ?_
  refine lv_iadd hx hb dL_law_1204 ?_
  refine z_cst (v := 2) (by decide +kernel) ?_
  refine z_sld (v := (xs 2)) (j := 2) hx hb hX hbl hbA hS rfl (Nat.le_of_ble_eq_true rfl) rfl dL_law_1205 ?_
  refine z_calli [(qm, zO 10 83 (zc71 u v))] [(qo, zJ K 1 (fun _ => 0))] [0] [1] hP hD hS hA rfl rfl (by decide +kernel) (by decide +kernel) (by decide +kernel) 125 1863522 rfl rfl (fun hPc hDc hF => z_runV (As := [.int (xs 1), .int (xs 2)]) (rest := []) ⟨hx, hb, hml, hown, hg⟩ (cX12_centre_3 l K H.size qm (zc71 u v) (xs 1) (xs 2) (zc71_0 u v) (by rw [Int32.lt_iff_toInt_lt, show (0 : Int32).toInt = 0 from by decide]; omega) (by rw [Int32.lt_iff_toInt_lt, show (0 : Int32).toInt = 0 from by decide]; omega) (by rw [Int32.lt_iff_toInt_lt, show (3 : Int32).toInt = 3 from by decide]; omega)) kV_RL_152 hd_X12_centre rfl rfl ⟨(Nat.le_of_ble_eq_true rfl), (Nat.le_of_ble_eq_true rfl)⟩ hK hS hZ hPc hDc hF 0 rfl rfl rfl hl.1 rfl (Nat.le_of_ble_eq_true rfl) dL_law_1206 ⟨(Nat.le_of_ble_eq_true rfl), (Nat.le_of_ble_eq_true rfl)⟩) (fun r6 u4 H locs w5 hP hD hS => ?_)
  subst w5
  have hP : va_P K.1 classes [(qo, zJ K 1 (fun _ => 0)), (qm, zO 10 83 (va_up (zc71 u v) 81 (.int 1)))] H := hP
  have hD : va_D A [(qo, zJ K 1 (fun _ => 0)), (qm, zO 10 83 (va_up (zc71 u v) 81 (.int 1)))] := hD
  refine lv_istore (lv' := [(6, .int 0), (5, .int 1), (4, .int 0), (3, .ref qo), (2, .ref qm), (1, .ref qx), (0, .ref b)]) hx hb dL_law_1209 hl (by decide) rfl (fun ls hl => ?_)
  refine lv_aload_n hx hb dL_law_1211 rfl (lv_at hl 4 rfl) ?_
  refine z_calli [(qm, zO 10 83 (va_up (zc71 u v) 81 (.int 1)))] [(qo, zJ K 1 (fun _ => 0))] [1] [0] hP hD hS hA rfl rfl (by decide +kernel) (by decide +kernel) (by decide +kernel) 125 1863522 rfl rfl (fun hPc hDc hF => z_runV (As := []) (rest := []) ⟨hx, hb, hml, hown, hg⟩ (cX12_thrown_2 l K H.size qm (va_up (zc71 u v) 81 (.int 1)) zu_eq) kV_RL_104 hd_X12_thrown rfl rfl ⟨(Nat.le_of_ble_eq_true rfl), (Nat.le_of_ble_eq_true rfl)⟩ hK hS hZ hPc hDc hF 0 rfl rfl rfl hl.1 rfl (Nat.le_of_ble_eq_true rfl) dL_law_1212 ⟨(Nat.le_of_ble_eq_true rfl), (Nat.le_of_ble_eq_true rfl)⟩) (fun r9 u7 H locs w8 hP hD hS => ?_)
  subst w8
  have hP : va_P K.1 classes [(qo, zJ K 1 (fun _ => 0)), (qm, zO 10 83 (va_up (zc71 u v) 81 (.int 1)))] H := hP
  have hD : va_D A [(qo, zJ K 1 (fun _ => 0)), (qm, zO 10 83 (va_up (zc71 u v) 81 (.int 1)))] := hD
  refine lv_iload hx hb dL_law_1215 (lv_at hl 1 rfl) ?_
  refine lv_icmp_eq (tgt := 1222) hx hb dL_law_1217 (by decide) (fun _ => ?_) (fun c => absurd (by decide) c)
  refine lv_iload hx hb dL_law_1222 (lv_at hl 1 rfl) ?_
  refine lv_if_ne (tgt := 1239) hx hb dL_law_1224 (by decide) (fun _ => ?_) (fun c => absurd c (by decide))
  refine lv_goto (tgt := 2026) hx hb dL_law_1239 (by decide) ?_
  exact law_back ⟨hx, hb, hr, hml, hown, hg, hX, hbl, hlocks, hK, hZ, hl9, hAA, hA, hbA⟩ (Nat.le_of_ble_eq_true rfl) (Nat.le_of_ble_eq_true rfl) hS (lv_sub hl [2, 6] rfl)
set_option maxHeartbeats 4000000 in
set_option maxRecDepth 100000 in
theorem lawS_14_3 {p : Program} {l : Launch} {e : Env} {s : State} {m : MethodId} {below : List Frame} {meth : Method} {c : Code} {b : Nat} {xs : Nat → Int32} {K : zK} {A : Nat → Prop} {H : Heap} {locs : List Loc} {ls : Array Slot} (C : zC p l s m meth c b xs K A) (qx qm qo : Nat) (u v : Nat → Nat) (h0 : 0 ≤ (xs 2).toInt) (h1 : (xs 1).toInt < 0) (hP : va_P K.1 classes (lwW K qx qm qo u v) H) (hD : va_D A (lwW K qx qm qo u v)) (hS : va_S A s.heap H locs) (hl : lv_has ls 7 [(4, .int 0), (3, .ref qo), (2, .ref qm), (1, .ref qx), (0, .ref b)]) : W p l e room_1 s m #[Value.ref b] below meth c H locs 124 1863516 (lw_Z below #[Value.ref b] s) (F0 m 1174 ls []) := by
  obtain ⟨hx, hb, hr, hml, hown, hg, hX, hbl, hlocks, hK, hZ, hl9, hAA, hA, hbA⟩ := C
  have hP : va_P K.1 classes [(qx, zO 9 9 (zc0 u v)), ((u 0), zO 7 6 (zc1 u v)), (qm, zO 10 83 (zc71 u v)), (qo, zJ K 1 (fun _ => 0))] H := hP.sub [0, 1, 71, 123] rfl
  have hD : va_D A [(qx, zO 9 9 (zc0 u v)), ((u 0), zO 7 6 (zc1 u v)), (qm, zO 10 83 (zc71 u v)), (qo, zJ K 1 (fun _ => 0))] := hD.sub [0, 1, 71, 123] (by decide +kernel) rfl
  refine lv_aload_n hx hb dL_law_1174 rfl (lv_at hl 3 rfl) ?_
  refine lv_aload_n hx hb dL_law_1175 rfl (lv_at hl 4 rfl) ?_
  refine lv_iload hx hb dL_law_1176 (lv_at hl 0 rfl) ?_
  refine lv_iconst (v := 1) hx hb dL_law_1178 (by decide) ?_
  refine lv_iadd hx hb dL_law_1179 ?_
  refine z_cst (v := 1) (by decide +kernel) ?_
  refine z_sld (v := (xs 1)) (j := 1) hx hb hX hbl hbA hS rfl (Nat.le_of_ble_eq_true rfl) rfl dL_law_1180 ?_
  refine lv_aload_n hx hb dL_law_1181 rfl (lv_at hl 4 rfl) ?_
  refine lv_iload hx hb dL_law_1182 (lv_at hl 0 rfl) ?_
  refine lv_iconst (v := 2) hx hb dL_law_1184 (by decide) ?_
  refine lv_iadd hx hb dL_law_1185 ?_
  refine z_cst (v := 2) (by decide +kernel) ?_
  refine z_sld (v := (xs 2)) (j := 2) hx hb hX hbl hbA hS rfl (Nat.le_of_ble_eq_true rfl) rfl dL_law_1186 ?_
  refine lv_aload_n hx hb dL_law_1187 rfl (lv_at hl 1 rfl) ?_
  refine z_hcalli [(qx, zO 9 9 (zc0 u v)), ((u 0), zO 7 6 (zc1 u v))] [(qm, zO 10 83 (zc71 u v)), (qo, zJ K 1 (fun _ => 0))] [0, 1] [2, 3] hP hD hS hA rfl rfl (by decide +kernel) (by decide +kernel) (by decide +kernel) 125 1863522 rfl rfl (fun hPc hDc hF => z_xrunH (As := [.ref qx, .int (xs 1), .int (xs 2), .ref qo]) (rest := []) ⟨hx, hb, hml, hown, hg⟩ (cL_centre_3 l hl9 K H.size qx qo (u 0) (zc0 u v) (zc1 u v) (xs 1) (xs 2) (zc0_0 u v) (by rw [Int32.lt_iff_toInt_lt, show (0 : Int32).toInt = 0 from by decide]; omega) (zc1_5 u v) (by rw [Int32.le_iff_toInt_le, show (0 : Int32).toInt = 0 from by decide]; omega)) kS_RL_150 hd_L_centre rfl rfl ⟨(Nat.le_of_ble_eq_true rfl), (Nat.le_of_ble_eq_true rfl)⟩ hK hS hZ hPc hDc hF rfl hl.1 rfl (Nat.le_of_ble_eq_true rfl) dL_law_1188 ⟨(Nat.le_of_ble_eq_true rfl), (Nat.le_of_ble_eq_true rfl)⟩) (fun r3 u1 H locs w2 hP hD hS => ?_)
  subst w2
  have hP : va_P K.1 classes [(qm, zO 10 83 (zc71 u v)), (qo, zJ K 1 (fun _ => 0))] H := hP
  have hD : va_D A [(qm, zO 10 83 (zc71 u v)), (qo, zJ K 1 (fun _ => 0))] := hD
  refine lv_istore (lv' := [(5, .int 1), (4, .int 0), (3, .ref qo), (2, .ref qm), (1, .ref qx), (0, .ref b)]) hx hb dL_law_1191 hl (by decide) rfl (fun ls hl => ?_)
  refine lv_aload_n hx hb dL_law_1193 rfl (lv_at hl 3 rfl) ?_
  refine lv_aload_n hx hb dL_law_1194 rfl (lv_at hl 5 rfl) ?_
  refine lv_iload hx hb dL_law_1195 (lv_at hl 1 rfl) ?_
  refine lv_iconst (v := 1) hx hb dL_law_1197 (by decide) ?_
  refine lv_iadd hx hb dL_law_1198 ?_
  refine z_cst (v := 1) (by decide +kernel) ?_
  refine z_sld (v := (xs 1)) (j := 1) hx hb hX hbl hbA hS rfl (Nat.le_of_ble_eq_true rfl) rfl dL_law_1199 ?_
  refine lv_aload_n hx hb dL_law_1200 rfl (lv_at hl 5 rfl) ?_
  refine lv_iload hx hb dL_law_1201 (lv_at hl 1 rfl) ?_
  refine lv_iconst (v := 2) hx hb dL_law_1203 (by decide) ?_
  refine lv_iadd hx hb dL_law_1204 ?_
  refine z_cst (v := 2) (by decide +kernel) ?_
  refine z_sld (v := (xs 2)) (j := 2) hx hb hX hbl hbA hS rfl (Nat.le_of_ble_eq_true rfl) rfl dL_law_1205 ?_
  refine z_calli [(qm, zO 10 83 (zc71 u v))] [(qo, zJ K 1 (fun _ => 0))] [0] [1] hP hD hS hA rfl rfl (by decide +kernel) (by decide +kernel) (by decide +kernel) 125 1863522 rfl rfl (fun hPc hDc hF => z_runV (As := [.int (xs 1), .int (xs 2)]) (rest := []) ⟨hx, hb, hml, hown, hg⟩ (cX12_centre_4 l K H.size qm (zc71 u v) (xs 1) (xs 2) (zc71_0 u v) (by rw [Int32.lt_iff_toInt_lt, show (0 : Int32).toInt = 0 from by decide]; omega) (by rw [Int32.lt_iff_toInt_lt, show (-1 : Int32).toInt = -1 from by decide]; omega) (by rw [Int32.lt_iff_toInt_lt, show (0 : Int32).toInt = 0 from by decide]; omega)) kV_RL_152 hd_X12_centre rfl rfl ⟨(Nat.le_of_ble_eq_true rfl), (Nat.le_of_ble_eq_true rfl)⟩ hK hS hZ hPc hDc hF 0 rfl rfl rfl hl.1 rfl (Nat.le_of_ble_eq_true rfl) dL_law_1206 ⟨(Nat.le_of_ble_eq_true rfl), (Nat.le_of_ble_eq_true rfl)⟩) (fun r6 u4 H locs w5 hP hD hS => ?_)
  subst w5
  have hP : va_P K.1 classes [(qo, zJ K 1 (fun _ => 0)), (qm, zO 10 83 (va_up (zc71 u v) 81 (.int 1)))] H := hP
  have hD : va_D A [(qo, zJ K 1 (fun _ => 0)), (qm, zO 10 83 (va_up (zc71 u v) 81 (.int 1)))] := hD
  refine lv_istore (lv' := [(6, .int 0), (5, .int 1), (4, .int 0), (3, .ref qo), (2, .ref qm), (1, .ref qx), (0, .ref b)]) hx hb dL_law_1209 hl (by decide) rfl (fun ls hl => ?_)
  refine lv_aload_n hx hb dL_law_1211 rfl (lv_at hl 4 rfl) ?_
  refine z_calli [(qm, zO 10 83 (va_up (zc71 u v) 81 (.int 1)))] [(qo, zJ K 1 (fun _ => 0))] [1] [0] hP hD hS hA rfl rfl (by decide +kernel) (by decide +kernel) (by decide +kernel) 125 1863522 rfl rfl (fun hPc hDc hF => z_runV (As := []) (rest := []) ⟨hx, hb, hml, hown, hg⟩ (cX12_thrown_2 l K H.size qm (va_up (zc71 u v) 81 (.int 1)) zu_eq) kV_RL_104 hd_X12_thrown rfl rfl ⟨(Nat.le_of_ble_eq_true rfl), (Nat.le_of_ble_eq_true rfl)⟩ hK hS hZ hPc hDc hF 0 rfl rfl rfl hl.1 rfl (Nat.le_of_ble_eq_true rfl) dL_law_1212 ⟨(Nat.le_of_ble_eq_true rfl), (Nat.le_of_ble_eq_true rfl)⟩) (fun r9 u7 H locs w8 hP hD hS => ?_)
  subst w8
  have hP : va_P K.1 classes [(qo, zJ K 1 (fun _ => 0)), (qm, zO 10 83 (va_up (zc71 u v) 81 (.int 1)))] H := hP
  have hD : va_D A [(qo, zJ K 1 (fun _ => 0)), (qm, zO 10 83 (va_up (zc71 u v) 81 (.int 1)))] := hD
  refine lv_iload hx hb dL_law_1215 (lv_at hl 1 rfl) ?_
  refine lv_icmp_eq (tgt := 1222) hx hb dL_law_1217 (by decide) (fun _ => ?_) (fun c => absurd (by decide) c)
  refine lv_iload hx hb dL_law_1222 (lv_at hl 1 rfl) ?_
  refine lv_if_ne (tgt := 1239) hx hb dL_law_1224 (by decide) (fun _ => ?_) (fun c => absurd c (by decide))
  refine lv_goto (tgt := 2026) hx hb dL_law_1239 (by decide) ?_
  exact law_back ⟨hx, hb, hr, hml, hown, hg, hX, hbl, hlocks, hK, hZ, hl9, hAA, hA, hbA⟩ (Nat.le_of_ble_eq_true rfl) (Nat.le_of_ble_eq_true rfl) hS (lv_sub hl [2, 6] rfl)
set_option maxHeartbeats 4000000 in
set_option maxRecDepth 100000 in
theorem lawS_14_4 {p : Program} {l : Launch} {e : Env} {s : State} {m : MethodId} {below : List Frame} {meth : Method} {c : Code} {b : Nat} {xs : Nat → Int32} {K : zK} {A : Nat → Prop} {H : Heap} {locs : List Loc} {ls : Array Slot} (C : zC p l s m meth c b xs K A) (qx qm qo : Nat) (u v : Nat → Nat) (h0 : 0 ≤ (xs 2).toInt) (h1 : 0 ≤ (xs 1).toInt) (h2 : (xs 1).toInt < 4) (hP : va_P K.1 classes (lwW K qx qm qo u v) H) (hD : va_D A (lwW K qx qm qo u v)) (hS : va_S A s.heap H locs) (hl : lv_has ls 7 [(4, .int 0), (3, .ref qo), (2, .ref qm), (1, .ref qx), (0, .ref b)]) : W p l e room_1 s m #[Value.ref b] below meth c H locs 124 1863516 (lw_Z below #[Value.ref b] s) (F0 m 1174 ls []) := by
  obtain ⟨hx, hb, hr, hml, hown, hg, hX, hbl, hlocks, hK, hZ, hl9, hAA, hA, hbA⟩ := C
  have hP : va_P K.1 classes [(qx, zO 9 9 (zc0 u v)), ((u 0), zO 7 6 (zc1 u v)), (qm, zO 10 83 (zc71 u v)), (qo, zJ K 1 (fun _ => 0))] H := hP.sub [0, 1, 71, 123] rfl
  have hD : va_D A [(qx, zO 9 9 (zc0 u v)), ((u 0), zO 7 6 (zc1 u v)), (qm, zO 10 83 (zc71 u v)), (qo, zJ K 1 (fun _ => 0))] := hD.sub [0, 1, 71, 123] (by decide +kernel) rfl
  obtain ⟨t1, ht1, v1⟩ : ∃ j : Nat, j < 4 ∧ xs 1 = nI j := z_nat (n := 4) (by omega) (by omega) (by decide)
  refine lv_aload_n hx hb dL_law_1174 rfl (lv_at hl 3 rfl) ?_
  refine lv_aload_n hx hb dL_law_1175 rfl (lv_at hl 4 rfl) ?_
  refine lv_iload hx hb dL_law_1176 (lv_at hl 0 rfl) ?_
  refine lv_iconst (v := 1) hx hb dL_law_1178 (by decide) ?_
  refine lv_iadd hx hb dL_law_1179 ?_
  refine z_cst (v := 1) (by decide +kernel) ?_
  refine z_sld (v := (nI t1)) (j := 1) hx hb hX hbl hbA hS rfl (Nat.le_of_ble_eq_true rfl) v1 dL_law_1180 ?_
  refine lv_aload_n hx hb dL_law_1181 rfl (lv_at hl 4 rfl) ?_
  refine lv_iload hx hb dL_law_1182 (lv_at hl 0 rfl) ?_
  refine lv_iconst (v := 2) hx hb dL_law_1184 (by decide) ?_
  refine lv_iadd hx hb dL_law_1185 ?_
  refine z_cst (v := 2) (by decide +kernel) ?_
  refine z_sld (v := (xs 2)) (j := 2) hx hb hX hbl hbA hS rfl (Nat.le_of_ble_eq_true rfl) rfl dL_law_1186 ?_
  refine lv_aload_n hx hb dL_law_1187 rfl (lv_at hl 1 rfl) ?_
  refine z_hcalli [(qx, zO 9 9 (zc0 u v)), ((u 0), zO 7 6 (zc1 u v))] [(qm, zO 10 83 (zc71 u v)), (qo, zJ K 1 (fun _ => 0))] [0, 1] [2, 3] hP hD hS hA rfl rfl (by decide +kernel) (by decide +kernel) (by decide +kernel) 125 1863522 rfl rfl (fun hPc hDc hF => z_xrunH (As := [.ref qx, .int (nI t1), .int (xs 2), .ref qo]) (rest := []) ⟨hx, hb, hml, hown, hg⟩ (cL_centre_4 l hl9 K H.size qx qo (u 0) (zc0 u v) (zc1 u v) t1 ht1 (xs 2) (zc0_0 u v) (by rw [Int32.lt_iff_toInt_lt, show (0 : Int32).toInt = 0 from by decide]; omega) (zc1_5 u v) (by rw [Int32.le_iff_toInt_le, show (0 : Int32).toInt = 0 from by decide]; omega)) kS_RL_150 hd_L_centre rfl rfl ⟨(Nat.le_of_ble_eq_true rfl), (Nat.le_of_ble_eq_true rfl)⟩ hK hS hZ hPc hDc hF rfl hl.1 rfl (Nat.le_of_ble_eq_true rfl) dL_law_1188 ⟨(Nat.le_of_ble_eq_true rfl), (Nat.le_of_ble_eq_true rfl)⟩) (fun r3 u1 H locs w2 hP hD hS => ?_)
  subst w2
  have hP : va_P K.1 classes [(qm, zO 10 83 (zc71 u v)), (qo, zJ K 1 (fun _ => 0))] H := hP
  have hD : va_D A [(qm, zO 10 83 (zc71 u v)), (qo, zJ K 1 (fun _ => 0))] := hD
  refine lv_istore (lv' := [(5, .int 1), (4, .int 0), (3, .ref qo), (2, .ref qm), (1, .ref qx), (0, .ref b)]) hx hb dL_law_1191 hl (by decide) rfl (fun ls hl => ?_)
  refine lv_aload_n hx hb dL_law_1193 rfl (lv_at hl 3 rfl) ?_
  refine lv_aload_n hx hb dL_law_1194 rfl (lv_at hl 5 rfl) ?_
  refine lv_iload hx hb dL_law_1195 (lv_at hl 1 rfl) ?_
  refine lv_iconst (v := 1) hx hb dL_law_1197 (by decide) ?_
  refine lv_iadd hx hb dL_law_1198 ?_
  refine z_cst (v := 1) (by decide +kernel) ?_
  refine z_sld (v := (nI t1)) (j := 1) hx hb hX hbl hbA hS rfl (Nat.le_of_ble_eq_true rfl) v1 dL_law_1199 ?_
  refine lv_aload_n hx hb dL_law_1200 rfl (lv_at hl 5 rfl) ?_
  refine lv_iload hx hb dL_law_1201 (lv_at hl 1 rfl) ?_
  refine lv_iconst (v := 2) hx hb dL_law_1203 (by decide) ?_
  refine lv_iadd hx hb dL_law_1204 ?_
  refine z_cst (v := 2) (by decide +kernel) ?_
  refine z_sld (v := (xs 2)) (j := 2) hx hb hX hbl hbA hS rfl (Nat.le_of_ble_eq_true rfl) rfl dL_law_1205 ?_
  refine z_calli [(qm, zO 10 83 (zc71 u v))] [(qo, zJ K 1 (fun _ => 0))] [0] [1] hP hD hS hA rfl rfl (by decide +kernel) (by decide +kernel) (by decide +kernel) 125 1863522 rfl rfl (fun hPc hDc hF => z_runV (As := [.int (nI t1), .int (xs 2)]) (rest := []) ⟨hx, hb, hml, hown, hg⟩ (cX12_centre_5 l K H.size qm (zc71 u v) t1 ht1 (xs 2) (zc71_0 u v) (by rw [Int32.lt_iff_toInt_lt, show (0 : Int32).toInt = 0 from by decide]; omega) (by rw [Int32.lt_iff_toInt_lt, show (-1 : Int32).toInt = -1 from by decide]; omega)) kV_RL_152 hd_X12_centre rfl rfl ⟨(Nat.le_of_ble_eq_true rfl), (Nat.le_of_ble_eq_true rfl)⟩ hK hS hZ hPc hDc hF 0 rfl rfl rfl hl.1 rfl (Nat.le_of_ble_eq_true rfl) dL_law_1206 ⟨(Nat.le_of_ble_eq_true rfl), (Nat.le_of_ble_eq_true rfl)⟩) (fun r6 u4 H locs w5 hP hD hS => ?_)
  subst w5
  have hP : va_P K.1 classes [(qo, zJ K 1 (fun _ => 0)), (qm, zO 10 83 (va_up (zc71 u v) 81 (.int 1)))] H := hP
  have hD : va_D A [(qo, zJ K 1 (fun _ => 0)), (qm, zO 10 83 (va_up (zc71 u v) 81 (.int 1)))] := hD
  refine lv_istore (lv' := [(6, .int 0), (5, .int 1), (4, .int 0), (3, .ref qo), (2, .ref qm), (1, .ref qx), (0, .ref b)]) hx hb dL_law_1209 hl (by decide) rfl (fun ls hl => ?_)
  refine lv_aload_n hx hb dL_law_1211 rfl (lv_at hl 4 rfl) ?_
  refine z_calli [(qm, zO 10 83 (va_up (zc71 u v) 81 (.int 1)))] [(qo, zJ K 1 (fun _ => 0))] [1] [0] hP hD hS hA rfl rfl (by decide +kernel) (by decide +kernel) (by decide +kernel) 125 1863522 rfl rfl (fun hPc hDc hF => z_runV (As := []) (rest := []) ⟨hx, hb, hml, hown, hg⟩ (cX12_thrown_2 l K H.size qm (va_up (zc71 u v) 81 (.int 1)) zu_eq) kV_RL_104 hd_X12_thrown rfl rfl ⟨(Nat.le_of_ble_eq_true rfl), (Nat.le_of_ble_eq_true rfl)⟩ hK hS hZ hPc hDc hF 0 rfl rfl rfl hl.1 rfl (Nat.le_of_ble_eq_true rfl) dL_law_1212 ⟨(Nat.le_of_ble_eq_true rfl), (Nat.le_of_ble_eq_true rfl)⟩) (fun r9 u7 H locs w8 hP hD hS => ?_)
  subst w8
  have hP : va_P K.1 classes [(qo, zJ K 1 (fun _ => 0)), (qm, zO 10 83 (va_up (zc71 u v) 81 (.int 1)))] H := hP
  have hD : va_D A [(qo, zJ K 1 (fun _ => 0)), (qm, zO 10 83 (va_up (zc71 u v) 81 (.int 1)))] := hD
  refine lv_iload hx hb dL_law_1215 (lv_at hl 1 rfl) ?_
  refine lv_icmp_eq (tgt := 1222) hx hb dL_law_1217 (by decide) (fun _ => ?_) (fun c => absurd (by decide) c)
  refine lv_iload hx hb dL_law_1222 (lv_at hl 1 rfl) ?_
  refine lv_if_ne (tgt := 1239) hx hb dL_law_1224 (by decide) (fun _ => ?_) (fun c => absurd c (by decide))
  refine lv_goto (tgt := 2026) hx hb dL_law_1239 (by decide) ?_
  exact law_back ⟨hx, hb, hr, hml, hown, hg, hX, hbl, hlocks, hK, hZ, hl9, hAA, hA, hbA⟩ (Nat.le_of_ble_eq_true rfl) (Nat.le_of_ble_eq_true rfl) hS (lv_sub hl [2, 6] rfl)
set_option maxHeartbeats 4000000 in
set_option maxRecDepth 100000 in
theorem lawS_14_5 {p : Program} {l : Launch} {e : Env} {s : State} {m : MethodId} {below : List Frame} {meth : Method} {c : Code} {b : Nat} {xs : Nat → Int32} {K : zK} {A : Nat → Prop} {H : Heap} {locs : List Loc} {ls : Array Slot} (C : zC p l s m meth c b xs K A) (qx qm qo : Nat) (u v : Nat → Nat) (h0 : 0 ≤ (xs 2).toInt) (h1 : 0 ≤ (xs 1).toInt) (h2 : 4 ≤ (xs 1).toInt) (hP : va_P K.1 classes (lwW K qx qm qo u v) H) (hD : va_D A (lwW K qx qm qo u v)) (hS : va_S A s.heap H locs) (hl : lv_has ls 7 [(4, .int 0), (3, .ref qo), (2, .ref qm), (1, .ref qx), (0, .ref b)]) : W p l e room_1 s m #[Value.ref b] below meth c H locs 124 1863516 (lw_Z below #[Value.ref b] s) (F0 m 1174 ls []) := by
  obtain ⟨hx, hb, hr, hml, hown, hg, hX, hbl, hlocks, hK, hZ, hl9, hAA, hA, hbA⟩ := C
  have hP : va_P K.1 classes [(qx, zO 9 9 (zc0 u v)), ((u 0), zO 7 6 (zc1 u v)), (qm, zO 10 83 (zc71 u v)), (qo, zJ K 1 (fun _ => 0))] H := hP.sub [0, 1, 71, 123] rfl
  have hD : va_D A [(qx, zO 9 9 (zc0 u v)), ((u 0), zO 7 6 (zc1 u v)), (qm, zO 10 83 (zc71 u v)), (qo, zJ K 1 (fun _ => 0))] := hD.sub [0, 1, 71, 123] (by decide +kernel) rfl
  refine lv_aload_n hx hb dL_law_1174 rfl (lv_at hl 3 rfl) ?_
  refine lv_aload_n hx hb dL_law_1175 rfl (lv_at hl 4 rfl) ?_
  refine lv_iload hx hb dL_law_1176 (lv_at hl 0 rfl) ?_
  refine lv_iconst (v := 1) hx hb dL_law_1178 (by decide) ?_
  refine lv_iadd hx hb dL_law_1179 ?_
  refine z_cst (v := 1) (by decide +kernel) ?_
  refine z_sld (v := (xs 1)) (j := 1) hx hb hX hbl hbA hS rfl (Nat.le_of_ble_eq_true rfl) rfl dL_law_1180 ?_
  refine lv_aload_n hx hb dL_law_1181 rfl (lv_at hl 4 rfl) ?_
  refine lv_iload hx hb dL_law_1182 (lv_at hl 0 rfl) ?_
  refine lv_iconst (v := 2) hx hb dL_law_1184 (by decide) ?_
  refine lv_iadd hx hb dL_law_1185 ?_
  refine z_cst (v := 2) (by decide +kernel) ?_
  refine z_sld (v := (xs 2)) (j := 2) hx hb hX hbl hbA hS rfl (Nat.le_of_ble_eq_true rfl) rfl dL_law_1186 ?_
  refine lv_aload_n hx hb dL_law_1187 rfl (lv_at hl 1 rfl) ?_
  refine z_hcalli [(qx, zO 9 9 (zc0 u v)), ((u 0), zO 7 6 (zc1 u v))] [(qm, zO 10 83 (zc71 u v)), (qo, zJ K 1 (fun _ => 0))] [0, 1] [2, 3] hP hD hS hA rfl rfl (by decide +kernel) (by decide +kernel) (by decide +kernel) 125 1863522 rfl rfl (fun hPc hDc hF => z_xrunH (As := [.ref qx, .int (xs 1), .int (xs 2), .ref qo]) (rest := []) ⟨hx, hb, hml, hown, hg⟩ (cL_centre_3 l hl9 K H.size qx qo (u 0) (zc0 u v) (zc1 u v) (xs 1) (xs 2) (zc0_0 u v) (by rw [Int32.lt_iff_toInt_lt, show (0 : Int32).toInt = 0 from by decide]; omega) (zc1_5 u v) (by rw [Int32.le_iff_toInt_le, show (0 : Int32).toInt = 0 from by decide]; omega)) kS_RL_150 hd_L_centre rfl rfl ⟨(Nat.le_of_ble_eq_true rfl), (Nat.le_of_ble_eq_true rfl)⟩ hK hS hZ hPc hDc hF rfl hl.1 rfl (Nat.le_of_ble_eq_true rfl) dL_law_1188 ⟨(Nat.le_of_ble_eq_true rfl), (Nat.le_of_ble_eq_true rfl)⟩) (fun r3 u1 H locs w2 hP hD hS => ?_)
  subst w2
  have hP : va_P K.1 classes [(qm, zO 10 83 (zc71 u v)), (qo, zJ K 1 (fun _ => 0))] H := hP
  have hD : va_D A [(qm, zO 10 83 (zc71 u v)), (qo, zJ K 1 (fun _ => 0))] := hD
  refine lv_istore (lv' := [(5, .int 1), (4, .int 0), (3, .ref qo), (2, .ref qm), (1, .ref qx), (0, .ref b)]) hx hb dL_law_1191 hl (by decide) rfl (fun ls hl => ?_)
  refine lv_aload_n hx hb dL_law_1193 rfl (lv_at hl 3 rfl) ?_
  refine lv_aload_n hx hb dL_law_1194 rfl (lv_at hl 5 rfl) ?_
  refine lv_iload hx hb dL_law_1195 (lv_at hl 1 rfl) ?_
  refine lv_iconst (v := 1) hx hb dL_law_1197 (by decide) ?_
  refine lv_iadd hx hb dL_law_1198 ?_
  refine z_cst (v := 1) (by decide +kernel) ?_
  refine z_sld (v := (xs 1)) (j := 1) hx hb hX hbl hbA hS rfl (Nat.le_of_ble_eq_true rfl) rfl dL_law_1199 ?_
  refine lv_aload_n hx hb dL_law_1200 rfl (lv_at hl 5 rfl) ?_
  refine lv_iload hx hb dL_law_1201 (lv_at hl 1 rfl) ?_
  refine lv_iconst (v := 2) hx hb dL_law_1203 (by decide) ?_
  refine lv_iadd hx hb dL_law_1204 ?_
  refine z_cst (v := 2) (by decide +kernel) ?_
  refine z_sld (v := (xs 2)) (j := 2) hx hb hX hbl hbA hS rfl (Nat.le_of_ble_eq_true rfl) rfl dL_law_1205 ?_
  refine z_calli [(qm, zO 10 83 (zc71 u v))] [(qo, zJ K 1 (fun _ => 0))] [0] [1] hP hD hS hA rfl rfl (by decide +kernel) (by decide +kernel) (by decide +kernel) 125 1863522 rfl rfl (fun hPc hDc hF => z_runV (As := [.int (xs 1), .int (xs 2)]) (rest := []) ⟨hx, hb, hml, hown, hg⟩ (cX12_centre_6 l K H.size qm (zc71 u v) (xs 1) (xs 2) (zc71_0 u v) (by rw [Int32.lt_iff_toInt_lt, show (0 : Int32).toInt = 0 from by decide]; omega) (by rw [Int32.lt_iff_toInt_lt, show (-1 : Int32).toInt = -1 from by decide]; omega) (by rw [Int32.lt_iff_toInt_lt, show (0 : Int32).toInt = 0 from by decide]; omega) (by rw [Int32.lt_iff_toInt_lt, show (3 : Int32).toInt = 3 from by decide]; omega)) kV_RL_152 hd_X12_centre rfl rfl ⟨(Nat.le_of_ble_eq_true rfl), (Nat.le_of_ble_eq_true rfl)⟩ hK hS hZ hPc hDc hF 0 rfl rfl rfl hl.1 rfl (Nat.le_of_ble_eq_true rfl) dL_law_1206 ⟨(Nat.le_of_ble_eq_true rfl), (Nat.le_of_ble_eq_true rfl)⟩) (fun r6 u4 H locs w5 hP hD hS => ?_)
  subst w5
  have hP : va_P K.1 classes [(qo, zJ K 1 (fun _ => 0)), (qm, zO 10 83 (va_up (zc71 u v) 81 (.int 1)))] H := hP
  have hD : va_D A [(qo, zJ K 1 (fun _ => 0)), (qm, zO 10 83 (va_up (zc71 u v) 81 (.int 1)))] := hD
  refine lv_istore (lv' := [(6, .int 0), (5, .int 1), (4, .int 0), (3, .ref qo), (2, .ref qm), (1, .ref qx), (0, .ref b)]) hx hb dL_law_1209 hl (by decide) rfl (fun ls hl => ?_)
  refine lv_aload_n hx hb dL_law_1211 rfl (lv_at hl 4 rfl) ?_
  refine z_calli [(qm, zO 10 83 (va_up (zc71 u v) 81 (.int 1)))] [(qo, zJ K 1 (fun _ => 0))] [1] [0] hP hD hS hA rfl rfl (by decide +kernel) (by decide +kernel) (by decide +kernel) 125 1863522 rfl rfl (fun hPc hDc hF => z_runV (As := []) (rest := []) ⟨hx, hb, hml, hown, hg⟩ (cX12_thrown_2 l K H.size qm (va_up (zc71 u v) 81 (.int 1)) zu_eq) kV_RL_104 hd_X12_thrown rfl rfl ⟨(Nat.le_of_ble_eq_true rfl), (Nat.le_of_ble_eq_true rfl)⟩ hK hS hZ hPc hDc hF 0 rfl rfl rfl hl.1 rfl (Nat.le_of_ble_eq_true rfl) dL_law_1212 ⟨(Nat.le_of_ble_eq_true rfl), (Nat.le_of_ble_eq_true rfl)⟩) (fun r9 u7 H locs w8 hP hD hS => ?_)
  subst w8
  have hP : va_P K.1 classes [(qo, zJ K 1 (fun _ => 0)), (qm, zO 10 83 (va_up (zc71 u v) 81 (.int 1)))] H := hP
  have hD : va_D A [(qo, zJ K 1 (fun _ => 0)), (qm, zO 10 83 (va_up (zc71 u v) 81 (.int 1)))] := hD
  refine lv_iload hx hb dL_law_1215 (lv_at hl 1 rfl) ?_
  refine lv_icmp_eq (tgt := 1222) hx hb dL_law_1217 (by decide) (fun _ => ?_) (fun c => absurd (by decide) c)
  refine lv_iload hx hb dL_law_1222 (lv_at hl 1 rfl) ?_
  refine lv_if_ne (tgt := 1239) hx hb dL_law_1224 (by decide) (fun _ => ?_) (fun c => absurd c (by decide))
  refine lv_goto (tgt := 2026) hx hb dL_law_1239 (by decide) ?_
  exact law_back ⟨hx, hb, hr, hml, hown, hg, hX, hbl, hlocks, hK, hZ, hl9, hAA, hA, hbA⟩ (Nat.le_of_ble_eq_true rfl) (Nat.le_of_ble_eq_true rfl) hS (lv_sub hl [2, 6] rfl)
theorem lawC_14 {p : Program} {l : Launch} {e : Env} {s : State} {m : MethodId} {below : List Frame} {meth : Method} {c : Code} {b : Nat} {xs : Nat → Int32} {K : zK} {A : Nat → Prop} {H : Heap} {locs : List Loc} {ls : Array Slot} (C : zC p l s m meth c b xs K A) (qx qm qo : Nat) (u v : Nat → Nat) (hP : va_P K.1 classes (lwW K qx qm qo u v) H) (hD : va_D A (lwW K qx qm qo u v)) (hS : va_S A s.heap H locs) (hl : lv_has ls 7 [(4, .int 0), (3, .ref qo), (2, .ref qm), (1, .ref qx), (0, .ref b)]) : W p l e room_1 s m #[Value.ref b] below meth c H locs 124 1863516 (lw_Z below #[Value.ref b] s) (F0 m 1174 ls []) := by
  rcases z_split (xs 2) (0) with h0 | h0
  · rcases z_split (xs 1) (0) with h1 | h1
    · exact lawS_14_0 C qx qm qo u v h0 h1 hP hD hS hl
    · rcases z_split (xs 1) (4) with h2 | h2
      · exact lawS_14_1 C qx qm qo u v h0 h1 h2 hP hD hS hl
      · exact lawS_14_2 C qx qm qo u v h0 h1 h2 hP hD hS hl
  · rcases z_split (xs 1) (0) with h1 | h1
    · exact lawS_14_3 C qx qm qo u v h0 h1 hP hD hS hl
    · rcases z_split (xs 1) (4) with h2 | h2
      · exact lawS_14_4 C qx qm qo u v h0 h1 h2 hP hD hS hl
      · exact lawS_14_5 C qx qm qo u v h0 h1 h2 hP hD hS hl
