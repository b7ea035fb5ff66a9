/-! the law, case by case (printed by wip/p1/lawgen.py) -/
set_option maxHeartbeats 4000000 in
set_option maxRecDepth 100000 in
theorem lawS_20_0 {p : Program} {l : Launch} {e : Env} {s : State} {m : MethodId} {below : List Frame} {meth : Method} {c : Code} {b : Nat} {xs : Nat → Int32} {K : zK} {A : Nat → Prop} {H : Heap} {locs : List Loc} {ls : Array Slot} (C : zC p l s m meth c b xs K A) (qx qm qo : Nat) (u v : Nat → Nat) (h0 : xs 5 = 0) (h1 : (xs 1).toInt < 0) (hP : va_P K.1 classes (lwW K qx qm qo u v) H) (hD : va_D A (lwW K qx qm qo u v)) (hS : va_S A s.heap H locs) (hl : lv_has ls 7 [(4, .int 0), (3, .ref qo), (2, .ref qm), (1, .ref qx), (0, .ref b)]) : W p l e room_1 s m #[Value.ref b] below meth c H locs 124 1863516 (lw_Z below #[Value.ref b] s) (F0 m 1605 ls []) := by
  obtain ⟨hx, hb, hr, hml, hown, hg, hX, hbl, hlocks, hK, hZ, hl9, hAA, hA, hbA⟩ := C
  have hP : va_P K.1 classes [(qx, zO 9 9 (zc0 u v)), (qm, zO 10 83 (zc71 u v)), (qo, zJ K 1 (fun _ => 0))] H := hP.sub [0, 71, 123] rfl
  have hD : va_D A [(qx, zO 9 9 (zc0 u v)), (qm, zO 10 83 (zc71 u v)), (qo, zJ K 1 (fun _ => 0))] := hD.sub [0, 71, 123] (by decide +kernel) rfl
  refine lv_aload_n hx hb dL_law_1605 rfl (lv_at hl 3 rfl) ?_
  refine lv_aload_n hx hb dL_law_1606 rfl (lv_at hl 4 rfl) ?_
  refine lv_iload hx hb dL_law_1607 (lv_at hl 0 rfl) ?_
  refine lv_iconst (v := 1) hx hb dL_law_1609 (by decide) ?_
  refine lv_iadd hx hb dL_law_1610 ?_
  refine z_cst (v := 1) (by decide +kernel) ?_
  refine z_sld (v := (xs 1)) (j := 1) hx hb hX hbl hbA hS rfl (Nat.le_of_ble_eq_true rfl) rfl dL_law_1611 ?_
  refine lv_aload_n hx hb dL_law_1612 rfl (lv_at hl 4 rfl) ?_
  refine lv_iload hx hb dL_law_1613 (lv_at hl 0 rfl) ?_
  refine lv_iconst (v := 2) hx hb dL_law_1615 (by decide) ?_
  refine lv_iadd hx hb dL_law_1616 ?_
  refine z_cst (v := 2) (by decide +kernel) ?_
  refine z_sld (v := (xs 2)) (j := 2) hx hb hX hbl hbA hS rfl (Nat.le_of_ble_eq_true rfl) rfl dL_law_1617 ?_
  refine lv_aload_n hx hb dL_law_1618 rfl (lv_at hl 4 rfl) ?_
  refine lv_iload hx hb dL_law_1619 (lv_at hl 0 rfl) ?_
  refine lv_iconst (v := 3) hx hb dL_law_1621 (by decide) ?_
  refine lv_iadd hx hb dL_law_1622 ?_
  refine z_cst (v := 3) (by decide +kernel) ?_
  refine z_sld (v := (xs 3)) (j := 3) hx hb hX hbl hbA hS rfl (Nat.le_of_ble_eq_true rfl) rfl dL_law_1623 ?_
  refine lv_aload_n hx hb dL_law_1624 rfl (lv_at hl 4 rfl) ?_
  refine lv_iload hx hb dL_law_1625 (lv_at hl 0 rfl) ?_
  refine lv_iconst (v := 4) hx hb dL_law_1627 (by decide) ?_
  refine lv_iadd hx hb dL_law_1628 ?_
  refine z_cst (v := 4) (by decide +kernel) ?_
  refine z_sld (v := (xs 4)) (j := 4) hx hb hX hbl hbA hS rfl (Nat.le_of_ble_eq_true rfl) rfl dL_law_1629 ?_
  refine lv_aload_n hx hb dL_law_1630 rfl (lv_at hl 4 rfl) ?_
  refine lv_iload hx hb dL_law_1631 (lv_at hl 0 rfl) ?_
  refine lv_iconst (v := 5) hx hb dL_law_1633 (by decide) ?_
  refine lv_iadd hx hb dL_law_1634 ?_
  refine z_cst (v := 5) (by decide +kernel) ?_
  refine z_sld (v := 0) (j := 5) hx hb hX hbl hbA hS rfl (Nat.le_of_ble_eq_true rfl) h0 dL_law_1635 ?_
  refine lv_if_eq (tgt := 1643) hx hb dL_law_1636 (by decide) (fun _ => ?_) (fun c => absurd (by decide) c)
  refine lv_iconst (v := 0) hx hb dL_law_1643 (by decide) ?_
  refine lv_aload_n hx hb dL_law_1644 rfl (lv_at hl 1 rfl) ?_
  refine z_hcalli [(qx, zO 9 9 (zc0 u v))] [(qm, zO 10 83 (zc71 u v)), (qo, zJ K 1 (fun _ => 0))] [0] [1, 2] hP hD hS hA rfl rfl (by decide +kernel) (by decide +kernel) (by decide +kernel) 125 1863522 rfl rfl (fun hPc hDc hF => z_xrunH (As := [.ref qx, .int (xs 1), .int (xs 2), .int (xs 3), .int (xs 4), .int 0, .ref qo]) (rest := []) ⟨hx, hb, hml, hown, hg⟩ (cL_plainly_1 l hl9 K H.size qx qo (zc0 u v) (xs 1) (xs 2) (xs 3) (xs 4) (by rw [Int32.lt_iff_toInt_lt, show (0 : Int32).toInt = 0 from by decide]; omega)) kS_RL_170 hd_L_plainly rfl rfl ⟨(Nat.le_of_ble_eq_true rfl), (Nat.le_of_ble_eq_true rfl)⟩ hK hS hZ hPc hDc hF rfl hl.1 rfl (Nat.le_of_ble_eq_true rfl) dL_law_1645 ⟨(Nat.le_of_ble_eq_true rfl), (Nat.le_of_ble_eq_true rfl)⟩) (fun r3 u1 H locs w2 hP hD hS => ?_)
  subst w2
  have hP : va_P K.1 classes [(qm, zO 10 83 (zc71 u v)), (qo, zJ K 1 (fun _ => 0))] H := hP
  have hD : va_D A [(qm, zO 10 83 (zc71 u v)), (qo, zJ K 1 (fun _ => 0))] := hD
  refine lv_istore (lv' := [(5, .int 1), (4, .int 0), (3, .ref qo), (2, .ref qm), (1, .ref qx), (0, .ref b)]) hx hb dL_law_1648 hl (by decide) rfl (fun ls hl => ?_)
  refine lv_aload_n hx hb dL_law_1650 rfl (lv_at hl 3 rfl) ?_
  refine lv_aload_n hx hb dL_law_1651 rfl (lv_at hl 5 rfl) ?_
  refine lv_iload hx hb dL_law_1652 (lv_at hl 1 rfl) ?_
  refine lv_iconst (v := 1) hx hb dL_law_1654 (by decide) ?_
  refine lv_iadd hx hb dL_law_1655 ?_
  refine z_cst (v := 1) (by decide +kernel) ?_
  refine z_sld (v := (xs 1)) (j := 1) hx hb hX hbl hbA hS rfl (Nat.le_of_ble_eq_true rfl) rfl dL_law_1656 ?_
  refine lv_aload_n hx hb dL_law_1657 rfl (lv_at hl 5 rfl) ?_
  refine lv_iload hx hb dL_law_1658 (lv_at hl 1 rfl) ?_
  refine lv_iconst (v := 2) hx hb dL_law_1660 (by decide) ?_
  refine lv_iadd hx hb dL_law_1661 ?_
  refine z_cst (v := 2) (by decide +kernel) ?_
  refine z_sld (v := (xs 2)) (j := 2) hx hb hX hbl hbA hS rfl (Nat.le_of_ble_eq_true rfl) rfl dL_law_1662 ?_
  refine lv_aload_n hx hb dL_law_1663 rfl (lv_at hl 5 rfl) ?_
  refine lv_iload hx hb dL_law_1664 (lv_at hl 1 rfl) ?_
  refine lv_iconst (v := 3) hx hb dL_law_1666 (by decide) ?_
  refine lv_iadd hx hb dL_law_1667 ?_
  refine z_cst (v := 3) (by decide +kernel) ?_
  refine z_sld (v := (xs 3)) (j := 3) hx hb hX hbl hbA hS rfl (Nat.le_of_ble_eq_true rfl) rfl dL_law_1668 ?_
  refine lv_aload_n hx hb dL_law_1669 rfl (lv_at hl 5 rfl) ?_
  refine lv_iload hx hb dL_law_1670 (lv_at hl 1 rfl) ?_
  refine lv_iconst (v := 4) hx hb dL_law_1672 (by decide) ?_
  refine lv_iadd hx hb dL_law_1673 ?_
  refine z_cst (v := 4) (by decide +kernel) ?_
  refine z_sld (v := (xs 4)) (j := 4) hx hb hX hbl hbA hS rfl (Nat.le_of_ble_eq_true rfl) rfl dL_law_1674 ?_
  refine lv_aload_n hx hb dL_law_1675 rfl (lv_at hl 5 rfl) ?_
  refine lv_iload hx hb dL_law_1676 (lv_at hl 1 rfl) ?_
  refine lv_iconst (v := 5) hx hb dL_law_1678 (by decide) ?_
  refine lv_iadd hx hb dL_law_1679 ?_
  refine z_cst (v := 5) (by decide +kernel) ?_
  refine z_sld (v := 0) (j := 5) hx hb hX hbl hbA hS rfl (Nat.le_of_ble_eq_true rfl) h0 dL_law_1680 ?_
  refine lv_if_eq (tgt := 1688) hx hb dL_law_1681 (by decide) (fun _ => ?_) (fun c => absurd (by decide) c)
  refine lv_iconst (v := 0) hx hb dL_law_1688 (by decide) ?_
  refine z_calli [(qm, zO 10 83 (zc71 u v))] [(qo, zJ K 1 (fun _ => 0))] [0] [1] hP hD hS hA rfl rfl (by decide +kernel) (by decide +kernel) (by decide +kernel) 125 1863522 rfl rfl (fun hPc hDc hF => z_runV (As := [.int (xs 1), .int (xs 2), .int (xs 3), .int (xs 4), .int 0]) (rest := []) ⟨hx, hb, hml, hown, hg⟩ (cX12_plainly_1 l K H.size qm (zc71 u v) (xs 1) (xs 2) (xs 3) (xs 4) (by rw [Int32.lt_iff_toInt_lt, show (0 : Int32).toInt = 0 from by decide]; omega)) kV_RL_173 hd_X12_plainly rfl rfl ⟨(Nat.le_of_ble_eq_true rfl), (Nat.le_of_ble_eq_true rfl)⟩ hK hS hZ hPc hDc hF 0 rfl rfl rfl hl.1 rfl (Nat.le_of_ble_eq_true rfl) dL_law_1689 ⟨(Nat.le_of_ble_eq_true rfl), (Nat.le_of_ble_eq_true rfl)⟩) (fun r6 u4 H locs w5 hP hD hS => ?_)
  subst w5
  have hP : va_P K.1 classes [(qo, zJ K 1 (fun _ => 0)), (qm, zO 10 83 (va_up (zc71 u v) 81 (.int 1)))] H := hP
  have hD : va_D A [(qo, zJ K 1 (fun _ => 0)), (qm, zO 10 83 (va_up (zc71 u v) 81 (.int 1)))] := hD
  refine lv_istore (lv' := [(6, .int 0), (5, .int 1), (4, .int 0), (3, .ref qo), (2, .ref qm), (1, .ref qx), (0, .ref b)]) hx hb dL_law_1692 hl (by decide) rfl (fun ls hl => ?_)
  refine lv_aload_n hx hb dL_law_1694 rfl (lv_at hl 4 rfl) ?_
  refine z_calli [(qm, zO 10 83 (va_up (zc71 u v) 81 (.int 1)))] [(qo, zJ K 1 (fun _ => 0))] [1] [0] hP hD hS hA rfl rfl (by decide +kernel) (by decide +kernel) (by decide +kernel) 125 1863522 rfl rfl (fun hPc hDc hF => z_runV (As := []) (rest := []) ⟨hx, hb, hml, hown, hg⟩ (cX12_thrown_2 l K H.size qm (va_up (zc71 u v) 81 (.int 1)) zu_eq) kV_RL_104 hd_X12_thrown rfl rfl ⟨(Nat.le_of_ble_eq_true rfl), (Nat.le_of_ble_eq_true rfl)⟩ hK hS hZ hPc hDc hF 0 rfl rfl rfl hl.1 rfl (Nat.le_of_ble_eq_true rfl) dL_law_1695 ⟨(Nat.le_of_ble_eq_true rfl), (Nat.le_of_ble_eq_true rfl)⟩) (fun r9 u7 H locs w8 hP hD hS => ?_)
  subst w8
  have hP : va_P K.1 classes [(qo, zJ K 1 (fun _ => 0)), (qm, zO 10 83 (va_up (zc71 u v) 81 (.int 1)))] H := hP
  have hD : va_D A [(qo, zJ K 1 (fun _ => 0)), (qm, zO 10 83 (va_up (zc71 u v) 81 (.int 1)))] := hD
  refine lv_iload hx hb dL_law_1698 (lv_at hl 1 rfl) ?_
  refine lv_icmp_eq (tgt := 1705) hx hb dL_law_1700 (by decide) (fun _ => ?_) (fun c => absurd (by decide) c)
  refine lv_iload hx hb dL_law_1705 (lv_at hl 1 rfl) ?_
  refine lv_if_ne (tgt := 1722) hx hb dL_law_1707 (by decide) (fun _ => ?_) (fun c => absurd c (by decide))
  refine lv_goto (tgt := 2026) hx hb dL_law_1722 (by decide) ?_
  exact law_back ⟨hx, hb, hr, hml, hown, hg, hX, hbl, hlocks, hK, hZ, hl9, hAA, hA, hbA⟩ (Nat.le_of_ble_eq_true rfl) (Nat.le_of_ble_eq_true rfl) hS (lv_sub hl [2, 6] rfl)
set_option maxHeartbeats 4000000 in
set_option maxRecDepth 100000 in
theorem lawS_20_1 {p : Program} {l : Launch} {e : Env} {s : State} {m : MethodId} {below : List Frame} {meth : Method} {c : Code} {b : Nat} {xs : Nat → Int32} {K : zK} {A : Nat → Prop} {H : Heap} {locs : List Loc} {ls : Array Slot} (C : zC p l s m meth c b xs K A) (qx qm qo : Nat) (u v : Nat → Nat) (h0 : xs 5 = 0) (h1 : 0 ≤ (xs 1).toInt) (h2 : (xs 1).toInt < 8) (h3 : (xs 2).toInt < 0) (hP : va_P K.1 classes (lwW K qx qm qo u v) H) (hD : va_D A (lwW K qx qm qo u v)) (hS : va_S A s.heap H locs) (hl : lv_has ls 7 [(4, .int 0), (3, .ref qo), (2, .ref qm), (1, .ref qx), (0, .ref b)]) : W p l e room_1 s m #[Value.ref b] below meth c H locs 124 1863516 (lw_Z below #[Value.ref b] s) (F0 m 1605 ls []) := by
  obtain ⟨hx, hb, hr, hml, hown, hg, hX, hbl, hlocks, hK, hZ, hl9, hAA, hA, hbA⟩ := C
  have hP : va_P K.1 classes [(qx, zO 9 9 (zc0 u v)), (qm, zO 10 83 (zc71 u v)), (qo, zJ K 1 (fun _ => 0))] H := hP.sub [0, 71, 123] rfl
  have hD : va_D A [(qx, zO 9 9 (zc0 u v)), (qm, zO 10 83 (zc71 u v)), (qo, zJ K 1 (fun _ => 0))] := hD.sub [0, 71, 123] (by decide +kernel) rfl
  obtain ⟨t1, ht1, v1⟩ : ∃ j : Nat, j < 8 ∧ xs 1 = nI j := z_nat (n := 8) (by omega) (by omega) (by decide)
  refine lv_aload_n hx hb dL_law_1605 rfl (lv_at hl 3 rfl) ?_
  refine lv_aload_n hx hb dL_law_1606 rfl (lv_at hl 4 rfl) ?_
  refine lv_iload hx hb dL_law_1607 (lv_at hl 0 rfl) ?_
  refine lv_iconst (v := 1) hx hb dL_law_1609 (by decide) ?_
  refine lv_iadd hx hb dL_law_1610 ?_
  refine z_cst (v := 1) (by decide +kernel) ?_
  refine z_sld (v := (nI t1)) (j := 1) hx hb hX hbl hbA hS rfl (Nat.le_of_ble_eq_true rfl) v1 dL_law_1611 ?_
  refine lv_aload_n hx hb dL_law_1612 rfl (lv_at hl 4 rfl) ?_
  refine lv_iload hx hb dL_law_1613 (lv_at hl 0 rfl) ?_
  refine lv_iconst (v := 2) hx hb dL_law_1615 (by decide) ?_
  refine lv_iadd hx hb dL_law_1616 ?_
  refine z_cst (v := 2) (by decide +kernel) ?_
  refine z_sld (v := (xs 2)) (j := 2) hx hb hX hbl hbA hS rfl (Nat.le_of_ble_eq_true rfl) rfl dL_law_1617 ?_
  refine lv_aload_n hx hb dL_law_1618 rfl (lv_at hl 4 rfl) ?_
  refine lv_iload hx hb dL_law_1619 (lv_at hl 0 rfl) ?_
  refine lv_iconst (v := 3) hx hb dL_law_1621 (by decide) ?_
  refine lv_iadd hx hb dL_law_1622 ?_
  refine z_cst (v := 3) (by decide +kernel) ?_
  refine z_sld (v := (xs 3)) (j := 3) hx hb hX hbl hbA hS rfl (Nat.le_of_ble_eq_true rfl) rfl dL_law_1623 ?_
  refine lv_aload_n hx hb dL_law_1624 rfl (lv_at hl 4 rfl) ?_
  refine lv_iload hx hb dL_law_1625 (lv_at hl 0 rfl) ?_
  refine lv_iconst (v := 4) hx hb dL_law_1627 (by decide) ?_
  refine lv_iadd hx hb dL_law_1628 ?_
  refine z_cst (v := 4) (by decide +kernel) ?_
  refine z_sld (v := (xs 4)) (j := 4) hx hb hX hbl hbA hS rfl (Nat.le_of_ble_eq_true rfl) rfl dL_law_1629 ?_
  refine lv_aload_n hx hb dL_law_1630 rfl (lv_at hl 4 rfl) ?_
  refine lv_iload hx hb dL_law_1631 (lv_at hl 0 rfl) ?_
  refine lv_iconst (v := 5) hx hb dL_law_1633 (by decide) ?_
  refine lv_iadd hx hb dL_law_1634 ?_
  refine z_cst (v := 5) (by decide +kernel) ?_
  refine z_sld (v := 0) (j := 5) hx hb hX hbl hbA hS rfl (Nat.le_of_ble_eq_true rfl) h0 dL_law_1635 ?_
  refine lv_if_eq (tgt := 1643) hx hb dL_law_1636 (by decide) (fun _ => ?_) (fun c => absurd (by decide) c)
  refine lv_iconst (v := 0) hx hb dL_law_1643 (by decide) ?_
  refine lv_aload_n hx hb dL_law_1644 rfl (lv_at hl 1 rfl) ?_
  refine z_hcalli [(qx, zO 9 9 (zc0 u v))] [(qm, zO 10 83 (zc71 u v)), (qo, zJ K 1 (fun _ => 0))] [0] [1, 2] hP hD hS hA rfl rfl (by decide +kernel) (by decide +kernel) (by decide +kernel) 125 1863522 rfl rfl (fun hPc hDc hF => z_xrunH (As := [.ref qx, .int (nI t1), .int (xs 2), .int (xs 3), .int (xs 4), .int 0, .ref qo]) (rest := []) ⟨hx, hb, hml, hown, hg⟩ (cL_plainly_2 l hl9 K H.size qx qo (zc0 u v) t1 ht1 (xs 2) (xs 3) (xs 4) (by rw [Int32.lt_iff_toInt_lt, show (0 : Int32).toInt = 0 from by decide]; omega)) kS_RL_170 hd_L_plainly rfl rfl ⟨(Nat.le_of_ble_eq_true rfl), (Nat.le_of_ble_eq_true rfl)⟩ hK hS hZ hPc hDc hF rfl hl.1 rfl (Nat.le_of_ble_eq_true rfl) dL_law_1645 ⟨(Nat.le_of_ble_eq_true rfl), (Nat.le_of_ble_eq_true rfl)⟩) (fun r3 u1 H locs w2 hP hD hS => ?_)
  subst w2
  have hP : va_P K.1 classes [(qm, zO 10 83 (zc71 u v)), (qo, zJ K 1 (fun _ => 0))] H := hP
  have hD : va_D A [(qm, zO 10 83 (zc71 u v)), (qo, zJ K 1 (fun _ => 0))] := hD
  refine lv_istore (lv' := [(5, .int 1), (4, .int 0), (3, .ref qo), (2, .ref qm), (1, .ref qx), (0, .ref b)]) hx hb dL_law_1648 hl (by decide) rfl (fun ls hl => ?_)
  refine lv_aload_n hx hb dL_law_1650 rfl (lv_at hl 3 rfl) ?_
  refine lv_aload_n hx hb dL_law_1651 rfl (lv_at hl 5 rfl) ?_
  refine lv_iload hx hb dL_law_1652 (lv_at hl 1 rfl) ?_
  refine lv_iconst (v := 1) hx hb dL_law_1654 (by decide) ?_
  refine lv_iadd hx hb dL_law_1655 ?_
  refine z_cst (v := 1) (by decide +kernel) ?_
  refine z_sld (v := (nI t1)) (j := 1) hx hb hX hbl hbA hS rfl (Nat.le_of_ble_eq_true rfl) v1 dL_law_1656 ?_
  refine lv_aload_n hx hb dL_law_1657 rfl (lv_at hl 5 rfl) ?_
  refine lv_iload hx hb dL_law_1658 (lv_at hl 1 rfl) ?_
  refine lv_iconst (v := 2) hx hb dL_law_1660 (by decide) ?_
  refine lv_iadd hx hb dL_law_1661 ?_
  refine z_cst (v := 2) (by decide +kernel) ?_
  refine z_sld (v := (xs 2)) (j := 2) hx hb hX hbl hbA hS rfl (Nat.le_of_ble_eq_true rfl) rfl dL_law_1662 ?_
  refine lv_aload_n hx hb dL_law_1663 rfl (lv_at hl 5 rfl) ?_
  refine lv_iload hx hb dL_law_1664 (lv_at hl 1 rfl) ?_
  refine lv_iconst (v := 3) hx hb dL_law_1666 (by decide) ?_
  refine lv_iadd hx hb dL_law_1667 ?_
  refine z_cst (v := 3) (by decide +kernel) ?_
  refine z_sld (v := (xs 3)) (j := 3) hx hb hX hbl hbA hS rfl (Nat.le_of_ble_eq_true rfl) rfl dL_law_1668 ?_
  refine lv_aload_n hx hb dL_law_1669 rfl (lv_at hl 5 rfl) ?_
  refine lv_iload hx hb dL_law_1670 (lv_at hl 1 rfl) ?_
  refine lv_iconst (v := 4) hx hb dL_law_1672 (by decide) ?_
  refine lv_iadd hx hb dL_law_1673 ?_
  refine z_cst (v := 4) (by decide +kernel) ?_
  refine z_sld (v := (xs 4)) (j := 4) hx hb hX hbl hbA hS rfl (Nat.le_of_ble_eq_true rfl) rfl dL_law_1674 ?_
  refine lv_aload_n hx hb dL_law_1675 rfl (lv_at hl 5 rfl) ?_
  refine lv_iload hx hb dL_law_1676 (lv_at hl 1 rfl) ?_
  refine lv_iconst (v := 5) hx hb dL_law_1678 (by decide) ?_
  refine lv_iadd hx hb dL_law_1679 ?_
  refine z_cst (v := 5) (by decide +kernel) ?_
  refine z_sld (v := 0) (j := 5) hx hb hX hbl hbA hS rfl (Nat.le_of_ble_eq_true rfl) h0 dL_law_1680 ?_
  refine lv_if_eq (tgt := 1688) hx hb dL_law_1681 (by decide) (fun _ => ?_) (fun c => absurd (by decide) c)
  refine lv_iconst (v := 0) hx hb dL_law_1688 (by decide) ?_
  refine z_calli [(qm, zO 10 83 (zc71 u v))] [(qo, zJ K 1 (fun _ => 0))] [0] [1] hP hD hS hA rfl rfl (by decide +kernel) (by decide +kernel) (by decide +kernel) 125 1863522 rfl rfl (fun hPc hDc hF => z_runV (As := [.int (nI t1), .int (xs 2), .int (xs 3), .int (xs 4), .int 0]) (rest := []) ⟨hx, hb, hml, hown, hg⟩ (cX12_plainly_2 l K H.size qm (zc71 u v) t1 ht1 (xs 2) (xs 3) (xs 4) (by rw [Int32.lt_iff_toInt_lt, show (0 : Int32).toInt = 0 from by decide]; omega)) kV_RL_173 hd_X12_plainly rfl rfl ⟨(Nat.le_of_ble_eq_true rfl), (Nat.le_of_ble_eq_true rfl)⟩ hK hS hZ hPc hDc hF 0 rfl rfl rfl hl.1 rfl (Nat.le_of_ble_eq_true rfl) dL_law_1689 ⟨(Nat.le_of_ble_eq_true rfl), (Nat.le_of_ble_eq_true rfl)⟩) (fun r6 u4 H locs w5 hP hD hS => ?_)
  subst w5
  have hP : va_P K.1 classes [(qo, zJ K 1 (fun _ => 0)), (qm, zO 10 83 (va_up (zc71 u v) 81 (.int 1)))] H := hP
  have hD : va_D A [(qo, zJ K 1 (fun _ => 0)), (qm, zO 10 83 (va_up (zc71 u v) 81 (.int 1)))] := hD
  refine lv_istore (lv' := [(6, .int 0), (5, .int 1), (4, .int 0), (3, .ref qo), (2, .ref qm), (1, .ref qx), (0, .ref b)]) hx hb dL_law_1692 hl (by decide) rfl (fun ls hl => ?_)
  refine lv_aload_n hx hb dL_law_1694 rfl (lv_at hl 4 rfl) ?_
  refine z_calli [(qm, zO 10 83 (va_up (zc71 u v) 81 (.int 1)))] [(qo, zJ K 1 (fun _ => 0))] [1] [0] hP hD hS hA rfl rfl (by decide +kernel) (by decide +kernel) (by decide +kernel) 125 1863522 rfl rfl (fun hPc hDc hF => z_runV (As := []) (rest := []) ⟨hx, hb, hml, hown, hg⟩ (cX12_thrown_2 l K H.size qm (va_up (zc71 u v) 81 (.int 1)) zu_eq) kV_RL_104 hd_X12_thrown rfl rfl ⟨(Nat.le_of_ble_eq_true rfl), (Nat.le_of_ble_eq_true rfl)⟩ hK hS hZ hPc hDc hF 0 rfl rfl rfl hl.1 rfl (Nat.le_of_ble_eq_true rfl) dL_law_1695 ⟨(Nat.le_of_ble_eq_true rfl), (Nat.le_of_ble_eq_true rfl)⟩) (fun r9 u7 H locs w8 hP hD hS => ?_)
  subst w8
  have hP : va_P K.1 classes [(qo, zJ K 1 (fun _ => 0)), (qm, zO 10 83 (va_up (zc71 u v) 81 (.int 1)))] H := hP
  have hD : va_D A [(qo, zJ K 1 (fun _ => 0)), (qm, zO 10 83 (va_up (zc71 u v) 81 (.int 1)))] := hD
  refine lv_iload hx hb dL_law_1698 (lv_at hl 1 rfl) ?_
  refine lv_icmp_eq (tgt := 1705) hx hb dL_law_1700 (by decide) (fun _ => ?_) (fun c => absurd (by decide) c)
  refine lv_iload hx hb dL_law_1705 (lv_at hl 1 rfl) ?_
  refine lv_if_ne (tgt := 1722) hx hb dL_law_1707 (by decide) (fun _ => ?_) (fun c => absurd c (by decide))
  refine lv_goto (tgt := 2026) hx hb dL_law_1722 (by decide) ?_
  exact law_back ⟨hx, hb, hr, hml, hown, hg, hX, hbl, hlocks, hK, hZ, hl9, hAA, hA, hbA⟩ (Nat.le_of_ble_eq_true rfl) (Nat.le_of_ble_eq_true rfl) hS (lv_sub hl [2, 6] rfl)
set_option maxHeartbeats 4000000 in
set_option maxRecDepth 100000 in
theorem lawS_20_2 {p : Program} {l : Launch} {e : Env} {s : State} {m : MethodId} {below : List Frame} {meth : Method} {c : Code} {b : Nat} {xs : Nat → Int32} {K : zK} {A : Nat → Prop} {H : Heap} {locs : List Loc} {ls : Array Slot} (C : zC p l s m meth c b xs K A) (qx qm qo : Nat) (u v : Nat → Nat) (h0 : xs 5 = 0) (h1 : 0 ≤ (xs 1).toInt) (h2 : (xs 1).toInt < 8) (h3 : 0 ≤ (xs 2).toInt) (h4 : (xs 2).toInt < 3) (h5 : (xs 2).toInt < 1) (hP : va_P K.1 classes (lwW K qx qm qo u v) H) (hD : va_D A (lwW K qx qm qo u v)) (hS : va_S A s.heap H locs) (hl : lv_has ls 7 [(4, .int 0), (3, .ref qo), (2, .ref qm), (1, .ref qx), (0, .ref b)]) : W p l e room_1 s m #[Value.ref b] below meth c H locs 124 1863516 (lw_Z below #[Value.ref b] s) (F0 m 1605 ls []) := by
  obtain ⟨hx, hb, hr, hml, hown, hg, hX, hbl, hlocks, hK, hZ, hl9, hAA, hA, hbA⟩ := C
  have hP : va_P K.1 classes [(qx, zO 9 9 (zc0 u v)), ((u 8), zO 4 6 (zc9 u v)), ((u 9), zO 7 6 (zc10 u v)), ((u 10), zI K 645 (fun _ => 0)), ((u 11), zI K 645 (fun _ => 0)), ((u 12), zI K 645 (fun _ => 0)), ((u 13), zI K 645 (fun _ => 0)), ((u 14), zI K 1935 (fun _ => 0)), ((u 15), zI K 8 (fun _ => 0)), ((u 16), zI K 8 (fun _ => 0)), ((u 20), zO 4 6 (zc21 u v)), ((u 28), zI K 8 (fun _ => 0)), ((u 59), zO 1 18 (zc60 u v)), ((u 60), zO 3 7 (zc61 u v)), ((u 61), zR K 512 (fun _ => none)), ((u 62), zO 2 6 (zc63 u v)), ((u 68), zI K 10 (fun _ => 0)), (qm, zO 10 83 (zc71 u v)), ((v 7), zI K 1290 (fun _ => 0)), ((v 8), zI K 1290 (fun _ => 0)), ((v 12), zI K 1290 (fun _ => 0)), ((v 13), zI K 16 (fun _ => 0)), ((v 25), zI K 60000 (fun _ => 0)), ((v 26), zI K 60000 (fun _ => 0)), ((v 27), zI K 60000 (fun _ => 0)), ((v 28), zI K 60000 (fun _ => 0)), ((v 29), zI K 60000 (fun _ => 0)), ((v 30), zI K 60000 (fun _ => 0)), ((v 31), zI K 60000 (fun _ => 0)), ((v 42), zI K 210000 (fun _ => 0)), ((v 43), zI K 210000 (fun _ => 0)), ((v 49), zI K 10 (fun _ => 0)), (qo, zJ K 1 (fun _ => 0))] H := hP.sub [0, 9, 10, 11, 12, 13, 14, 15, 16, 17, 21, 29, 60, 61, 62, 63, 69, 71, 79, 80, 84, 85, 97, 98, 99, 100, 101, 102, 103, 114, 115, 121, 123] rfl
  have hD : va_D A [(qx, zO 9 9 (zc0 u v)), ((u 8), zO 4 6 (zc9 u v)), ((u 9), zO 7 6 (zc10 u v)), ((u 10), zI K 645 (fun _ => 0)), ((u 11), zI K 645 (fun _ => 0)), ((u 12), zI K 645 (fun _ => 0)), ((u 13), zI K 645 (fun _ => 0)), ((u 14), zI K 1935 (fun _ => 0)), ((u 15), zI K 8 (fun _ => 0)), ((u 16), zI K 8 (fun _ => 0)), ((u 20), zO 4 6 (zc21 u v)), ((u 28), zI K 8 (fun _ => 0)), ((u 59), zO 1 18 (zc60 u v)), ((u 60), zO 3 7 (zc61 u v)), ((u 61), zR K 512 (fun _ => none)), ((u 62), zO 2 6 (zc63 u v)), ((u 68), zI K 10 (fun _ => 0)), (qm, zO 10 83 (zc71 u v)), ((v 7), zI K 1290 (fun _ => 0)), ((v 8), zI K 1290 (fun _ => 0)), ((v 12), zI K 1290 (fun _ => 0)), ((v 13), zI K 16 (fun _ => 0)), ((v 25), zI K 60000 (fun _ => 0)), ((v 26), zI K 60000 (fun _ => 0)), ((v 27), zI K 60000 (fun _ => 0)), ((v 28), zI K 60000 (fun _ => 0)), ((v 29), zI K 60000 (fun _ => 0)), ((v 30), zI K 60000 (fun _ => 0)), ((v 31), zI K 60000 (fun _ => 0)), ((v 42), zI K 210000 (fun _ => 0)), ((v 43), zI K 210000 (fun _ => 0)), ((v 49), zI K 10 (fun _ => 0)), (qo, zJ K 1 (fun _ => 0))] := hD.sub [0, 9, 10, 11, 12, 13, 14, 15, 16, 17, 21, 29, 60, 61, 62, 63, 69, 71, 79, 80, 84, 85, 97, 98, 99, 100, 101, 102, 103, 114, 115, 121, 123] (by decide +kernel) rfl
  obtain ⟨t1, ht1, v1⟩ : ∃ j : Nat, j < 8 ∧ xs 1 = nI j := z_nat (n := 8) (by omega) (by omega) (by decide)
  have v2 : xs 2 = 0 := z_lit (by rw [show (0 : Int32).toInt = 0 from by decide]; omega)
  refine lv_aload_n hx hb dL_law_1605 rfl (lv_at hl 3 rfl) ?_
  refine lv_aload_n hx hb dL_law_1606 rfl (lv_at hl 4 rfl) ?_
  refine lv_iload hx hb dL_law_1607 (lv_at hl 0 rfl) ?_
  refine lv_iconst (v := 1) hx hb dL_law_1609 (by decide) ?_
  refine lv_iadd hx hb dL_law_1610 ?_
  refine z_cst (v := 1) (by decide +kernel) ?_
  refine z_sld (v := (nI t1)) (j := 1) hx hb hX hbl hbA hS rfl (Nat.le_of_ble_eq_true rfl) v1 dL_law_1611 ?_
  refine lv_aload_n hx hb dL_law_1612 rfl (lv_at hl 4 rfl) ?_
  refine lv_iload hx hb dL_law_1613 (lv_at hl 0 rfl) ?_
  refine lv_iconst (v := 2) hx hb dL_law_1615 (by decide) ?_
  refine lv_iadd hx hb dL_law_1616 ?_
  refine z_cst (v := 2) (by decide +kernel) ?_
  refine z_sld (v := 0) (j := 2) hx hb hX hbl hbA hS rfl (Nat.le_of_ble_eq_true rfl) v2 dL_law_1617 ?_
  refine lv_aload_n hx hb dL_law_1618 rfl (lv_at hl 4 rfl) ?_
  refine lv_iload hx hb dL_law_1619 (lv_at hl 0 rfl) ?_
  refine lv_iconst (v := 3) hx hb dL_law_1621 (by decide) ?_
  refine lv_iadd hx hb dL_law_1622 ?_
  refine z_cst (v := 3) (by decide +kernel) ?_
  refine z_sld (v := (xs 3)) (j := 3) hx hb hX hbl hbA hS rfl (Nat.le_of_ble_eq_true rfl) rfl dL_law_1623 ?_
  refine lv_aload_n hx hb dL_law_1624 rfl (lv_at hl 4 rfl) ?_
  refine lv_iload hx hb dL_law_1625 (lv_at hl 0 rfl) ?_
  refine lv_iconst (v := 4) hx hb dL_law_1627 (by decide) ?_
  refine lv_iadd hx hb dL_law_1628 ?_
  refine z_cst (v := 4) (by decide +kernel) ?_
  refine z_sld (v := (xs 4)) (j := 4) hx hb hX hbl hbA hS rfl (Nat.le_of_ble_eq_true rfl) rfl dL_law_1629 ?_
  refine lv_aload_n hx hb dL_law_1630 rfl (lv_at hl 4 rfl) ?_
  refine lv_iload hx hb dL_law_1631 (lv_at hl 0 rfl) ?_
  refine lv_iconst (v := 5) hx hb dL_law_1633 (by decide) ?_
  refine lv_iadd hx hb dL_law_1634 ?_
  refine z_cst (v := 5) (by decide +kernel) ?_
  refine z_sld (v := 0) (j := 5) hx hb hX hbl hbA hS rfl (Nat.le_of_ble_eq_true rfl) h0 dL_law_1635 ?_
  refine lv_if_eq (tgt := 1643) hx hb dL_law_1636 (by decide) (fun _ => ?_) (fun c => absurd (by decide) c)
  refine lv_iconst (v := 0) hx hb dL_law_1643 (by decide) ?_
  refine lv_aload_n hx hb dL_law_1644 rfl (lv_at hl 1 rfl) ?_
  refine z_hcalli [(qx, zO 9 9 (zc0 u v)), ((u 8), zO 4 6 (zc9 u v)), ((u 9), zO 7 6 (zc10 u v)), ((u 10), zI K 645 (fun _ => 0)), ((u 11), zI K 645 (fun _ => 0)), ((u 12), zI K 645 (fun _ => 0)), ((u 13), zI K 645 (fun _ => 0)), ((u 14), zI K 1935 (fun _ => 0)), ((u 59), zO 1 18 (zc60 u v)), ((u 60), zO 3 7 (zc61 u v)), ((u 16), zI K 8 (fun _ => 0)), ((u 20), zO 4 6 (zc21 u v)), ((u 28), zI K 8 (fun _ => 0)), ((u 61), zR K 512 (fun _ => none)), ((u 62), zO 2 6 (zc63 u v)), ((u 68), zI K 10 (fun _ => 0)), ((u 15), zI K 8 (fun _ => 0)), (qo, zJ K 1 (fun _ => 0))] [(qm, zO 10 83 (zc71 u v)), ((v 7), zI K 1290 (fun _ => 0)), ((v 8), zI K 1290 (fun _ => 0)), ((v 12), zI K 1290 (fun _ => 0)), ((v 13), zI K 16 (fun _ => 0)), ((v 25), zI K 60000 (fun _ => 0)), ((v 26), zI K 60000 (fun _ => 0)), ((v 27), zI K 60000 (fun _ => 0)), ((v 28), zI K 60000 (fun _ => 0)), ((v 29), zI K 60000 (fun _ => 0)), ((v 30), zI K 60000 (fun _ => 0)), ((v 31), zI K 60000 (fun _ => 0)), ((v 42), zI K 210000 (fun _ => 0)), ((v 43), zI K 210000 (fun _ => 0)), ((v 49), zI K 10 (fun _ => 0))] [0, 1, 2, 3, 4, 5, 6, 7, 12, 13, 9, 10, 11, 14, 15, 16, 8, 32] [17, 18, 19, 20, 21, 22, 23, 24, 25, 26, 27, 28, 29, 30, 31] hP hD hS hA rfl rfl (by decide +kernel) (by decide +kernel) (by decide +kernel) 128 1867719 rfl rfl (fun hPc hDc hF => z_xrunH (As := [.ref qx, .int (nI t1), .int 0, .int (xs 3), .int (xs 4), .int 0, .ref qo]) (rest := []) ⟨hx, hb, hml, hown, hg⟩ (cL_plainly_3 l hl9 K H.size qx qo (u 8) (u 9) (u 10) (u 11) (u 12) (u 13) (u 14) (u 59) (u 60) (u 16) (u 20) (u 28) (u 61) (u 62) (u 68) (u 15) (zc0 u v) (zc9 u v) (zc10 u v) (fun _ => 0) (fun _ => 0) (fun _ => 0) (fun _ => 0) (fun _ => 0) (zc60 u v) (zc61 u v) (fun _ => 0) (zc21 u v) (fun _ => 0) (fun _ => none) (zc63 u v) (fun _ => 0) (fun _ => 0) (fun _ => 0) t1 ht1 (xs 3) (xs 4) (zc0_3 u v) (zc9_0 u v) (zc10_5 u v) (zc10_0 u v) (zc10_1 u v) (zc10_2 u v) (zc10_3 u v) (zc10_4 u v) (zc0_7 u v) (zc60_0 u v) (zc61_6 u v) (zc61_4 u v) (zc61_0 u v) (zc9_2 u v) rfl rfl rfl rfl rfl rfl rfl rfl (zc61_1 u v) (zc21_2 u v) rfl rfl rfl rfl rfl rfl rfl rfl (zc61_3 u v) (zc61_2 u v) (zc60_1 u v) (zc60_2 u v) (zc9_1 u v) (fun _ => rfl)) kS_RL_170 hd_L_plainly rfl rfl ⟨(Nat.le_of_ble_eq_true rfl), (Nat.le_of_ble_eq_true rfl)⟩ hK hS hZ hPc hDc hF rfl hl.1 rfl (Nat.le_of_ble_eq_true rfl) dL_law_1645 ⟨(Nat.le_of_ble_eq_true rfl), (Nat.le_of_ble_eq_true rfl)⟩) (fun r3 u1 H locs w2 hP hD hS => ?_)
  subst w2
  have hP : va_P K.1 classes [(qm, zO 10 83 (zc71 u v)), ((v 7), zI K 1290 (fun _ => 0)), ((v 8), zI K 1290 (fun _ => 0)), ((v 12), zI K 1290 (fun _ => 0)), ((v 13), zI K 16 (fun _ => 0)), ((v 25), zI K 60000 (fun _ => 0)), ((v 26), zI K 60000 (fun _ => 0)), ((v 27), zI K 60000 (fun _ => 0)), ((v 28), zI K 60000 (fun _ => 0)), ((v 29), zI K 60000 (fun _ => 0)), ((v 30), zI K 60000 (fun _ => 0)), ((v 31), zI K 60000 (fun _ => 0)), ((v 42), zI K 210000 (fun _ => 0)), ((v 43), zI K 210000 (fun _ => 0)), ((v 49), zI K 10 (fun _ => 0)), (qo, zJ K 1 (va_up (fun _ => 0) 0 5))] H := hP
  have hD : va_D A [(qm, zO 10 83 (zc71 u v)), ((v 7), zI K 1290 (fun _ => 0)), ((v 8), zI K 1290 (fun _ => 0)), ((v 12), zI K 1290 (fun _ => 0)), ((v 13), zI K 16 (fun _ => 0)), ((v 25), zI K 60000 (fun _ => 0)), ((v 26), zI K 60000 (fun _ => 0)), ((v 27), zI K 60000 (fun _ => 0)), ((v 28), zI K 60000 (fun _ => 0)), ((v 29), zI K 60000 (fun _ => 0)), ((v 30), zI K 60000 (fun _ => 0)), ((v 31), zI K 60000 (fun _ => 0)), ((v 42), zI K 210000 (fun _ => 0)), ((v 43), zI K 210000 (fun _ => 0)), ((v 49), zI K 10 (fun _ => 0)), (qo, zJ K 1 (va_up (fun _ => 0) 0 5))] := hD
  refine lv_istore (lv' := [(5, .int 0), (4, .int 0), (3, .ref qo), (2, .ref qm), (1, .ref qx), (0, .ref b)]) hx hb dL_law_1648 hl (by decide) rfl (fun ls hl => ?_)
  refine lv_aload_n hx hb dL_law_1650 rfl (lv_at hl 3 rfl) ?_
  refine lv_aload_n hx hb dL_law_1651 rfl (lv_at hl 5 rfl) ?_
  refine lv_iload hx hb dL_law_1652 (lv_at hl 1 rfl) ?_
  refine lv_iconst (v := 1) hx hb dL_law_1654 (by decide) ?_
  refine lv_iadd hx hb dL_law_1655 ?_
  refine z_cst (v := 1) (by decide +kernel) ?_
  refine z_sld (v := (nI t1)) (j := 1) hx hb hX hbl hbA hS rfl (Nat.le_of_ble_eq_true rfl) v1 dL_law_1656 ?_
  refine lv_aload_n hx hb dL_law_1657 rfl (lv_at hl 5 rfl) ?_
  refine lv_iload hx hb dL_law_1658 (lv_at hl 1 rfl) ?_
  refine lv_iconst (v := 2) hx hb dL_law_1660 (by decide) ?_
  refine lv_iadd hx hb dL_law_1661 ?_
  refine z_cst (v := 2) (by decide +kernel) ?_
  refine z_sld (v := 0) (j := 2) hx hb hX hbl hbA hS rfl (Nat.le_of_ble_eq_true rfl) v2 dL_law_1662 ?_
  refine lv_aload_n hx hb dL_law_1663 rfl (lv_at hl 5 rfl) ?_
  refine lv_iload hx hb dL_law_1664 (lv_at hl 1 rfl) ?_
  refine lv_iconst (v := 3) hx hb dL_law_1666 (by decide) ?_
  refine lv_iadd hx hb dL_law_1667 ?_
  refine z_cst (v := 3) (by decide +kernel) ?_
  refine z_sld (v := (xs 3)) (j := 3) hx hb hX hbl hbA hS rfl (Nat.le_of_ble_eq_true rfl) rfl dL_law_1668 ?_
  refine lv_aload_n hx hb dL_law_1669 rfl (lv_at hl 5 rfl) ?_
  refine lv_iload hx hb dL_law_1670 (lv_at hl 1 rfl) ?_
  refine lv_iconst (v := 4) hx hb dL_law_1672 (by decide) ?_
  refine lv_iadd hx hb dL_law_1673 ?_
  refine z_cst (v := 4) (by decide +kernel) ?_
  refine z_sld (v := (xs 4)) (j := 4) hx hb hX hbl hbA hS rfl (Nat.le_of_ble_eq_true rfl) rfl dL_law_1674 ?_
  refine lv_aload_n hx hb dL_law_1675 rfl (lv_at hl 5 rfl) ?_
  refine lv_iload hx hb dL_law_1676 (lv_at hl 1 rfl) ?_
  refine lv_iconst (v := 5) hx hb dL_law_1678 (by decide) ?_
  refine lv_iadd hx hb dL_law_1679 ?_
  refine z_cst (v := 5) (by decide +kernel) ?_
  refine z_sld (v := 0) (j := 5) hx hb hX hbl hbA hS rfl (Nat.le_of_ble_eq_true rfl) h0 dL_law_1680 ?_
  refine lv_if_eq (tgt := 1688) hx hb dL_law_1681 (by decide) (fun _ => ?_) (fun c => absurd (by decide) c)
  refine lv_iconst (v := 0) hx hb dL_law_1688 (by decide) ?_
  refine z_calli [(qm, zO 10 83 (zc71 u v)), ((v 49), zI K 10 (fun _ => 0)), ((v 7), zI K 1290 (fun _ => 0)), ((v 8), zI K 1290 (fun _ => 0)), ((v 12), zI K 1290 (fun _ => 0)), ((v 25), zI K 60000 (fun _ => 0)), ((v 13), zI K 16 (fun _ => 0)), ((v 42), zI K 210000 (fun _ => 0)), ((v 43), zI K 210000 (fun _ => 0)), ((v 26), zI K 60000 (fun _ => 0)), ((v 27), zI K 60000 (fun _ => 0)), ((v 28), zI K 60000 (fun _ => 0)), ((v 29), zI K 60000 (fun _ => 0)), ((v 30), zI K 60000 (fun _ => 0)), ((v 31), zI K 60000 (fun _ => 0))] [(qo, zJ K 1 (va_up (fun _ => 0) 0 5))] [0, 14, 1, 2, 3, 5, 4, 12, 13, 6, 7, 8, 9, 10, 11] [15] hP hD hS hA rfl rfl (by decide +kernel) (by decide +kernel) (by decide +kernel) 128 1867719 rfl rfl (fun hPc hDc hF => z_runV (As := [.int (nI t1), .int 0, .int (xs 3), .int (xs 4), .int 0]) (rest := []) ⟨hx, hb, hml, hown, hg⟩ (cX12_plainly_3 l K H.size qm (v 49) (v 7) (v 8) (v 12) (v 25) (v 13) (v 42) (v 43) (v 26) (v 27) (v 28) (v 29) (v 30) (v 31) (zc71 u v) (fun _ => 0) (fun _ => 0) (fun _ => 0) (fun _ => 0) (fun _ => 0) (fun _ => 0) (fun _ => 0) (fun _ => 0) (fun _ => 0) (fun _ => 0) (fun _ => 0) (fun _ => 0) (fun _ => 0) (fun _ => 0) t1 ht1 (xs 3) (xs 4) (zc71_80 u v) (zc71_8 u v) (zc71_9 u v) (zc71_13 u v) (zc71_57 u v) (zc71_33 u v) (fun _ => rfl) (zc71_14 u v) (fun _ => rfl) (zc71_32 u v) (zc71_52 u v) (zc71_40 u v) (zc71_46 u v) (zc71_53 u v) (zc71_34 u v) rfl (zc71_35 u v) (zc71_36 u v) (zc71_37 u v) rfl (zc71_38 u v) (zc71_39 u v) rfl rfl rfl rfl rfl rfl rfl rfl rfl rfl rfl rfl rfl rfl rfl rfl rfl rfl rfl rfl rfl rfl rfl rfl rfl rfl rfl rfl rfl rfl rfl rfl rfl rfl rfl rfl rfl rfl rfl rfl rfl rfl rfl rfl rfl rfl) kV_RL_173 hd_X12_plainly rfl rfl ⟨(Nat.le_of_ble_eq_true rfl), (Nat.le_of_ble_eq_true rfl)⟩ hK hS hZ hPc hDc hF 0 rfl rfl rfl hl.1 rfl (Nat.le_of_ble_eq_true rfl) dL_law_1689 ⟨(Nat.le_of_ble_eq_true rfl), (Nat.le_of_ble_eq_true rfl)⟩) (fun r6 u4 H locs w5 hP hD hS => ?_)
  subst w5
  have hP : va_P K.1 classes [(qo, zJ K 1 (va_up (fun _ => 0) 0 5)), (qm, zO 10 83 (va_up (va_up (va_up (va_up (va_up (va_up (va_up (va_up (va_up (va_up (va_up (va_up (va_up (va_up (va_up (va_up (va_up (va_up (va_up (va_up (va_up (va_up (va_up (va_up (va_up (va_up (va_up (va_up (va_up (va_up (va_up (va_up (va_up (va_up (va_up (va_up (va_up (va_up (va_up (va_up (va_up (va_up (va_up (va_up (va_up (va_up (va_up (va_up (va_up (va_up (va_up (va_up (zc71 u v) 81 (.int 0)) 56 (.int 1)) 60 (.int 0)) 79 (.int 0)) 55 (.int 0)) 58 (.int 0)) 59 (.int 600)) 72 (.int 0)) 77 (.int 0)) 62 (.int 1280)) 63 (.int (-1))) 64 (.int 0)) 65 (.int 0)) 61 (.int (-1))) 58 (.int 1)) 61 (.int 5)) 54 (.int 0)) 54 (.int 1)) 54 (.int 2)) 54 (.int 3)) 54 (.int 4)) 54 (.int 5)) 54 (.int 6)) 54 (.int 7)) 54 (.int 8)) 54 (.int 9)) 54 (.int 10)) 54 (.int 11)) 54 (.int 12)) 54 (.int 13)) 54 (.int 14)) 54 (.int 15)) 54 (.int 16)) 54 (.int 15)) 54 (.int 14)) 54 (.int 13)) 54 (.int 12)) 54 (.int 11)) 54 (.int 10)) 54 (.int 9)) 54 (.int 8)) 54 (.int 7)) 54 (.int 6)) 54 (.int 5)) 54 (.int 4)) 54 (.int 3)) 54 (.int 2)) 54 (.int 1)) 54 (.int 0)) 32 (.int 16)) 40 (.int 0)) 46 (.int 0)))] H := hP
  have hD : va_D A [(qo, zJ K 1 (va_up (fun _ => 0) 0 5)), (qm, zO 10 83 (va_up (va_up (va_up (va_up (va_up (va_up (va_up (va_up (va_up (va_up (va_up (va_up (va_up (va_up (va_up (va_up (va_up (va_up (va_up (va_up (va_up (va_up (va_up (va_up (va_up (va_up (va_up (va_up (va_up (va_up (va_up (va_up (va_up (va_up (va_up (va_up (va_up (va_up (va_up (va_up (va_up (va_up (va_up (va_up (va_up (va_up (va_up (va_up (va_up (va_up (va_up (va_up (zc71 u v) 81 (.int 0)) 56 (.int 1)) 60 (.int 0)) 79 (.int 0)) 55 (.int 0)) 58 (.int 0)) 59 (.int 600)) 72 (.int 0)) 77 (.int 0)) 62 (.int 1280)) 63 (.int (-1))) 64 (.int 0)) 65 (.int 0)) 61 (.int (-1))) 58 (.int 1)) 61 (.int 5)) 54 (.int 0)) 54 (.int 1)) 54 (.int 2)) 54 (.int 3)) 54 (.int 4)) 54 (.int 5)) 54 (.int 6)) 54 (.int 7)) 54 (.int 8)) 54 (.int 9)) 54 (.int 10)) 54 (.int 11)) 54 (.int 12)) 54 (.int 13)) 54 (.int 14)) 54 (.int 15)) 54 (.int 16)) 54 (.int 15)) 54 (.int 14)) 54 (.int 13)) 54 (.int 12)) 54 (.int 11)) 54 (.int 10)) 54 (.int 9)) 54 (.int 8)) 54 (.int 7)) 54 (.int 6)) 54 (.int 5)) 54 (.int 4)) 54 (.int 3)) 54 (.int 2)) 54 (.int 1)) 54 (.int 0)) 32 (.int 16)) 40 (.int 0)) 46 (.int 0)))] := hD
  refine lv_istore (lv' := [(6, .int 5), (5, .int 0), (4, .int 0), (3, .ref qo), (2, .ref qm), (1, .ref qx), (0, .ref b)]) hx hb dL_law_1692 hl (by decide) rfl (fun ls hl => ?_)
  refine lv_aload_n hx hb dL_law_1694 rfl (lv_at hl 4 rfl) ?_
  refine z_calli [(qm, zO 10 83 (va_up (va_up (va_up (va_up (va_up (va_up (va_up (va_up (va_up (va_up (va_up (va_up (va_up (va_up (va_up (va_up (va_up (va_up (va_up (va_up (va_up (va_up (va_up (va_up (va_up (va_up (va_up (va_up (va_up (va_up (va_up (va_up (va_up (va_up (va_up (va_up (va_up (va_up (va_up (va_up (va_up (va_up (va_up (va_up (va_up (va_up (va_up (va_up (va_up (va_up (va_up (va_up (zc71 u v) 81 (.int 0)) 56 (.int 1)) 60 (.int 0)) 79 (.int 0)) 55 (.int 0)) 58 (.int 0)) 59 (.int 600)) 72 (.int 0)) 77 (.int 0)) 62 (.int 1280)) 63 (.int (-1))) 64 (.int 0)) 65 (.int 0)) 61 (.int (-1))) 58 (.int 1)) 61 (.int 5)) 54 (.int 0)) 54 (.int 1)) 54 (.int 2)) 54 (.int 3)) 54 (.int 4)) 54 (.int 5)) 54 (.int 6)) 54 (.int 7)) 54 (.int 8)) 54 (.int 9)) 54 (.int 10)) 54 (.int 11)) 54 (.int 12)) 54 (.int 13)) 54 (.int 14)) 54 (.int 15)) 54 (.int 16)) 54 (.int 15)) 54 (.int 14)) 54 (.int 13)) 54 (.int 12)) 54 (.int 11)) 54 (.int 10)) 54 (.int 9)) 54 (.int 8)) 54 (.int 7)) 54 (.int 6)) 54 (.int 5)) 54 (.int 4)) 54 (.int 3)) 54 (.int 2)) 54 (.int 1)) 54 (.int 0)) 32 (.int 16)) 40 (.int 0)) 46 (.int 0)))] [(qo, zJ K 1 (va_up (fun _ => 0) 0 5))] [1] [0] hP hD hS hA rfl rfl (by decide +kernel) (by decide +kernel) (by decide +kernel) 128 1867719 rfl rfl (fun hPc hDc hF => z_runV (As := []) (rest := []) ⟨hx, hb, hml, hown, hg⟩ (cX12_thrown_1 l K H.size qm (va_up (va_up (va_up (va_up (va_up (va_up (va_up (va_up (va_up (va_up (va_up (va_up (va_up (va_up (va_up (va_up (va_up (va_up (va_up (va_up (va_up (va_up (va_up (va_up (va_up (va_up (va_up (va_up (va_up (va_up (va_up (va_up (va_up (va_up (va_up (va_up (va_up (va_up (va_up (va_up (va_up (va_up (va_up (va_up (va_up (va_up (va_up (va_up (va_up (va_up (va_up (va_up (zc71 u v) 81 (.int 0)) 56 (.int 1)) 60 (.int 0)) 79 (.int 0)) 55 (.int 0)) 58 (.int 0)) 59 (.int 600)) 72 (.int 0)) 77 (.int 0)) 62 (.int 1280)) 63 (.int (-1))) 64 (.int 0)) 65 (.int 0)) 61 (.int (-1))) 58 (.int 1)) 61 (.int 5)) 54 (.int 0)) 54 (.int 1)) 54 (.int 2)) 54 (.int 3)) 54 (.int 4)) 54 (.int 5)) 54 (.int 6)) 54 (.int 7)) 54 (.int 8)) 54 (.int 9)) 54 (.int 10)) 54 (.int 11)) 54 (.int 12)) 54 (.int 13)) 54 (.int 14)) 54 (.int 15)) 54 (.int 16)) 54 (.int 15)) 54 (.int 14)) 54 (.int 13)) 54 (.int 12)) 54 (.int 11)) 54 (.int 10)) 54 (.int 9)) 54 (.int 8)) 54 (.int 7)) 54 (.int 6)) 54 (.int 5)) 54 (.int 4)) 54 (.int 3)) 54 (.int 2)) 54 (.int 1)) 54 (.int 0)) 32 (.int 16)) 40 (.int 0)) 46 (.int 0)) (zu_ne (by decide) (zu_ne (by decide) (zu_ne (by decide) (zu_ne (by decide) (zu_ne (by decide) (zu_ne (by decide) (zu_ne (by decide) (zu_ne (by decide) (zu_ne (by decide) (zu_ne (by decide) (zu_ne (by decide) (zu_ne (by decide) (zu_ne (by decide) (zu_ne (by decide) (zu_ne (by decide) (zu_ne (by decide) (zu_ne (by decide) (zu_ne (by decide) (zu_ne (by decide) (zu_ne (by decide) (zu_ne (by decide) (zu_ne (by decide) (zu_ne (by decide) (zu_ne (by decide) (zu_ne (by decide) (zu_ne (by decide) (zu_ne (by decide) (zu_ne (by decide) (zu_ne (by decide) (zu_ne (by decide) (zu_ne (by decide) (zu_ne (by decide) (zu_ne (by decide) (zu_ne (by decide) (zu_ne (by decide) (zu_ne (by decide) (zu_ne (by decide) (zu_ne (by decide) (zu_ne (by decide) (zu_ne (by decide) (zu_ne (by decide) (zu_ne (by decide) (zu_ne (by decide) (zu_ne (by decide) (zu_ne (by decide) (zu_ne (by decide) (zu_ne (by decide) (zu_ne (by decide) (zu_ne (by decide) (zu_ne (by decide) (zu_ne (by decide) zu_eq)))))))))))))))))))))))))))))))))))))))))))))))))))) kV_RL_104 hd_X12_thrown rfl rfl ⟨(Nat.le_of_ble_eq_true rfl), (Nat.le_of_ble_eq_true rfl)⟩ hK hS hZ hPc hDc hF 0 rfl rfl rfl hl.1 rfl (Nat.le_of_ble_eq_true rfl) dL_law_1695 ⟨(Nat.le_of_ble_eq_true rfl), (Nat.le_of_ble_eq_true rfl)⟩) (fun r9 u7 H locs w8 hP hD hS => ?_)
  subst w8
  have hP : va_P K.1 classes [(qo, zJ K 1 (va_up (fun _ => 0) 0 5)), (qm, zO 10 83 (va_up (va_up (va_up (va_up (va_up (va_up (va_up (va_up (va_up (va_up (va_up (va_up (va_up (va_up (va_up (va_up (va_up (va_up (va_up (va_up (va_up (va_up (va_up (va_up (va_up (va_up (va_up (va_up (va_up (va_up (va_up (va_up (va_up (va_up (va_up (va_up (va_up (va_up (va_up (va_up (va_up (va_up (va_up (va_up (va_up (va_up (va_up (va_up (va_up (va_up (va_up (va_up (zc71 u v) 81 (.int 0)) 56 (.int 1)) 60 (.int 0)) 79 (.int 0)) 55 (.int 0)) 58 (.int 0)) 59 (.int 600)) 72 (.int 0)) 77 (.int 0)) 62 (.int 1280)) 63 (.int (-1))) 64 (.int 0)) 65 (.int 0)) 61 (.int (-1))) 58 (.int 1)) 61 (.int 5)) 54 (.int 0)) 54 (.int 1)) 54 (.int 2)) 54 (.int 3)) 54 (.int 4)) 54 (.int 5)) 54 (.int 6)) 54 (.int 7)) 54 (.int 8)) 54 (.int 9)) 54 (.int 10)) 54 (.int 11)) 54 (.int 12)) 54 (.int 13)) 54 (.int 14)) 54 (.int 15)) 54 (.int 16)) 54 (.int 15)) 54 (.int 14)) 54 (.int 13)) 54 (.int 12)) 54 (.int 11)) 54 (.int 10)) 54 (.int 9)) 54 (.int 8)) 54 (.int 7)) 54 (.int 6)) 54 (.int 5)) 54 (.int 4)) 54 (.int 3)) 54 (.int 2)) 54 (.int 1)) 54 (.int 0)) 32 (.int 16)) 40 (.int 0)) 46 (.int 0)))] H := hP
  have hD : va_D A [(qo, zJ K 1 (va_up (fun _ => 0) 0 5)), (qm, zO 10 83 (va_up (va_up (va_up (va_up (va_up (va_up (va_up (va_up (va_up (va_up (va_up (va_up (va_up (va_up (va_up (va_up (va_up (va_up (va_up (va_up (va_up (va_up (va_up (va_up (va_up (va_up (va_up (va_up (va_up (va_up (va_up (va_up (va_up (va_up (va_up (va_up (va_up (va_up (va_up (va_up (va_up (va_up (va_up (va_up (va_up (va_up (va_up (va_up (va_up (va_up (va_up (va_up (zc71 u v) 81 (.int 0)) 56 (.int 1)) 60 (.int 0)) 79 (.int 0)) 55 (.int 0)) 58 (.int 0)) 59 (.int 600)) 72 (.int 0)) 77 (.int 0)) 62 (.int 1280)) 63 (.int (-1))) 64 (.int 0)) 65 (.int 0)) 61 (.int (-1))) 58 (.int 1)) 61 (.int 5)) 54 (.int 0)) 54 (.int 1)) 54 (.int 2)) 54 (.int 3)) 54 (.int 4)) 54 (.int 5)) 54 (.int 6)) 54 (.int 7)) 54 (.int 8)) 54 (.int 9)) 54 (.int 10)) 54 (.int 11)) 54 (.int 12)) 54 (.int 13)) 54 (.int 14)) 54 (.int 15)) 54 (.int 16)) 54 (.int 15)) 54 (.int 14)) 54 (.int 13)) 54 (.int 12)) 54 (.int 11)) 54 (.int 10)) 54 (.int 9)) 54 (.int 8)) 54 (.int 7)) 54 (.int 6)) 54 (.int 5)) 54 (.int 4)) 54 (.int 3)) 54 (.int 2)) 54 (.int 1)) 54 (.int 0)) 32 (.int 16)) 40 (.int 0)) 46 (.int 0)))] := hD
  refine lv_iload hx hb dL_law_1698 (lv_at hl 1 rfl) ?_
  refine lv_icmp_eq (tgt := 1705) hx hb dL_law_1700 (by decide) (fun _ => ?_) (fun c => absurd (by decide) c)
  refine lv_iload hx hb dL_law_1705 (lv_at hl 1 rfl) ?_
  refine lv_if_ne (tgt := 1722) hx hb dL_law_1707 (by decide) (fun c => absurd (by decide) c) (fun _ => ?_)
  refine lv_aload_n hx hb dL_law_1710 rfl (lv_at hl 3 rfl) ?_
  refine lv_iconst (v := 0) hx hb dL_law_1711 (by decide) ?_
  refine z_lald (v := 5) (j := 0) hx hb hK hP 0 rfl rfl (Nat.le_of_ble_eq_true rfl) (Nat.le_of_ble_eq_true rfl) zu_eq dL_law_1712 ?_
  refine lv_iload hx hb dL_law_1713 (lv_at hl 0 rfl) ?_
  refine lv_i2l hx hb dL_law_1715 rfl ?_
  refine z_cstl (v := 5) (by decide +kernel) ?_
  refine W.lcmp hx hb dL_law_1716 ?_
  refine z_cst (v := 0) (by decide +kernel) ?_
  refine lv_if_eq (tgt := 1722) hx hb dL_law_1717 (by decide) (fun _ => ?_) (fun c => absurd (by decide) c)
  refine lv_goto (tgt := 2026) hx hb dL_law_1722 (by decide) ?_
  exact law_back ⟨hx, hb, hr, hml, hown, hg, hX, hbl, hlocks, hK, hZ, hl9, hAA, hA, hbA⟩ (Nat.le_of_ble_eq_true rfl) (Nat.le_of_ble_eq_true rfl) hS (lv_sub hl [2, 6] rfl)
set_option maxHeartbeats 4000000 in
set_option maxRecDepth 100000 in
theorem lawS_20_3 {p : Program} {l : Launch} {e : Env} {s : State} {m : MethodId} {below : List Frame} {meth : Method} {c : Code} {b : Nat} {xs : Nat → Int32} {K : zK} {A : Nat → Prop} {H : Heap} {locs : List Loc} {ls : Array Slot} (C : zC p l s m meth c b xs K A) (qx qm qo : Nat) (u v : Nat → Nat) (h0 : xs 5 = 0) (h1 : 0 ≤ (xs 1).toInt) (h2 : (xs 1).toInt < 8) (h3 : 0 ≤ (xs 2).toInt) (h4 : (xs 2).toInt < 3) (h5 : 1 ≤ (xs 2).toInt) (h6 : (xs 2).toInt < 2) (hP : va_P K.1 classes (lwW K qx qm qo u v) H) (hD : va_D A (lwW K qx qm qo u v)) (hS : va_S A s.heap H locs) (hl : lv_has ls 7 [(4, .int 0), (3, .ref qo), (2, .ref qm), (1, .ref qx), (0, .ref b)]) : W p l e room_1 s m #[Value.ref b] below meth c H locs 124 1863516 (lw_Z below #[Value.ref b] s) (F0 m 1605 ls []) := by
  obtain ⟨hx, hb, hr, hml, hown, hg, hX, hbl, hlocks, hK, hZ, hl9, hAA, hA, hbA⟩ := C
  have hP : va_P K.1 classes [(qx, zO 9 9 (zc0 u v)), ((u 8), zO 4 6 (zc9 u v)), ((u 9), zO 7 6 (zc10 u v)), ((u 10), zI K 645 (fun _ => 0)), ((u 11), zI K 645 (fun _ => 0)), ((u 12), zI K 645 (fun _ => 0)), ((u 13), zI K 645 (fun _ => 0)), ((u 14), zI K 1935 (fun _ => 0)), ((u 15), zI K 8 (fun _ => 0)), ((u 16), zI K 8 (fun _ => 0)), ((u 20), zO 4 6 (zc21 u v)), ((u 28), zI K 8 (fun _ => 0)), ((u 59), zO 1 18 (zc60 u v)), ((u 60), zO 3 7 (zc61 u v)), ((u 61), zR K 512 (fun _ => none)), ((u 62), zO 2 6 (zc63 u v)), ((u 63), zI K 608 (fun _ => 0)), ((u 64), zI K 608 (fun _ => 0)), ((u 65), zI K 608 (fun _ => 0)), ((u 66), zI K 608 (fun _ => 0)), ((u 67), zI K 608 (fun _ => 0)), ((u 68), zI K 10 (fun _ => 0)), (qm, zO 10 83 (zc71 u v)), ((v 7), zI K 1290 (fun _ => 0)), ((v 8), zI K 1290 (fun _ => 0)), ((v 12), zI K 1290 (fun _ => 0)), ((v 13), zI K 16 (fun _ => 0)), ((v 25), zI K 60000 (fun _ => 0)), ((v 26), zI K 60000 (fun _ => 0)), ((v 27), zI K 60000 (fun _ => 0)), ((v 28), zI K 60000 (fun _ => 0)), ((v 29), zI K 60000 (fun _ => 0)), ((v 30), zI K 60000 (fun _ => 0)), ((v 31), zI K 60000 (fun _ => 0)), ((v 42), zI K 210000 (fun _ => 0)), ((v 43), zI K 210000 (fun _ => 0)), ((v 44), zI K 900 (fun _ => 0)), ((v 45), zI K 900 (fun _ => 0)), ((v 46), zI K 900 (fun _ => 0)), ((v 47), zI K 900 (fun _ => 0)), ((v 49), zI K 10 (fun _ => 0)), (qo, zJ K 1 (fun _ => 0))] H := hP.sub [0, 9, 10, 11, 12, 13, 14, 15, 16, 17, 21, 29, 60, 61, 62, 63, 64, 65, 66, 67, 68, 69, 71, 79, 80, 84, 85, 97, 98, 99, 100, 101, 102, 103, 114, 115, 116, 117, 118, 119, 121, 123] rfl
  have hD : va_D A [(qx, zO 9 9 (zc0 u v)), ((u 8), zO 4 6 (zc9 u v)), ((u 9), zO 7 6 (zc10 u v)), ((u 10), zI K 645 (fun _ => 0)), ((u 11), zI K 645 (fun _ => 0)), ((u 12), zI K 645 (fun _ => 0)), ((u 13), zI K 645 (fun _ => 0)), ((u 14), zI K 1935 (fun _ => 0)), ((u 15), zI K 8 (fun _ => 0)), ((u 16), zI K 8 (fun _ => 0)), ((u 20), zO 4 6 (zc21 u v)), ((u 28), zI K 8 (fun _ => 0)), ((u 59), zO 1 18 (zc60 u v)), ((u 60), zO 3 7 (zc61 u v)), ((u 61), zR K 512 (fun _ => none)), ((u 62), zO 2 6 (zc63 u v)), ((u 63), zI K 608 (fun _ => 0)), ((u 64), zI K 608 (fun _ => 0)), ((u 65), zI K 608 (fun _ => 0)), ((u 66), zI K 608 (fun _ => 0)), ((u 67), zI K 608 (fun _ => 0)), ((u 68), zI K 10 (fun _ => 0)), (qm, zO 10 83 (zc71 u v)), ((v 7), zI K 1290 (fun _ => 0)), ((v 8), zI K 1290 (fun _ => 0)), ((v 12), zI K 1290 (fun _ => 0)), ((v 13), zI K 16 (fun _ => 0)), ((v 25), zI K 60000 (fun _ => 0)), ((v 26), zI K 60000 (fun _ => 0)), ((v 27), zI K 60000 (fun _ => 0)), ((v 28), zI K 60000 (fun _ => 0)), ((v 29), zI K 60000 (fun _ => 0)), ((v 30), zI K 60000 (fun _ => 0)), ((v 31), zI K 60000 (fun _ => 0)), ((v 42), zI K 210000 (fun _ => 0)), ((v 43), zI K 210000 (fun _ => 0)), ((v 44), zI K 900 (fun _ => 0)), ((v 45), zI K 900 (fun _ => 0)), ((v 46), zI K 900 (fun _ => 0)), ((v 47), zI K 900 (fun _ => 0)), ((v 49), zI K 10 (fun _ => 0)), (qo, zJ K 1 (fun _ => 0))] := hD.sub [0, 9, 10, 11, 12, 13, 14, 15, 16, 17, 21, 29, 60, 61, 62, 63, 64, 65, 66, 67, 68, 69, 71, 79, 80, 84, 85, 97, 98, 99, 100, 101, 102, 103, 114, 115, 116, 117, 118, 119, 121, 123] (by decide +kernel) rfl
  obtain ⟨t1, ht1, v1⟩ : ∃ j : Nat, j < 8 ∧ xs 1 = nI j := z_nat (n := 8) (by omega) (by omega) (by decide)
  have v2 : xs 2 = 1 := z_lit (by rw [show (1 : Int32).toInt = 1 from by decide]; omega)
  refine lv_aload_n hx hb dL_law_1605 rfl (lv_at hl 3 rfl) ?_
  refine lv_aload_n hx hb dL_law_1606 rfl (lv_at hl 4 rfl) ?_
  refine lv_iload hx hb dL_law_1607 (lv_at hl 0 rfl) ?_
  refine lv_iconst (v := 1) hx hb dL_law_1609 (by decide) ?_
  refine lv_iadd hx hb dL_law_1610 ?_
  refine z_cst (v := 1) (by decide +kernel) ?_
  refine z_sld (v := (nI t1)) (j := 1) hx hb hX hbl hbA hS rfl (Nat.le_of_ble_eq_true rfl) v1 dL_law_1611 ?_
  refine lv_aload_n hx hb dL_law_1612 rfl (lv_at hl 4 rfl) ?_
  refine lv_iload hx hb dL_law_1613 (lv_at hl 0 rfl) ?_
  refine lv_iconst (v := 2) hx hb dL_law_1615 (by decide) ?_
  refine lv_iadd hx hb dL_law_1616 ?_
  refine z_cst (v := 2) (by decide +kernel) ?_
  refine z_sld (v := 1) (j := 2) hx hb hX hbl hbA hS rfl (Nat.le_of_ble_eq_true rfl) v2 dL_law_1617 ?_
  refine lv_aload_n hx hb dL_law_1618 rfl (lv_at hl 4 rfl) ?_
  refine lv_iload hx hb dL_law_1619 (lv_at hl 0 rfl) ?_
  refine lv_iconst (v := 3) hx hb dL_law_1621 (by decide) ?_
  refine lv_iadd hx hb dL_law_1622 ?_
  refine z_cst (v := 3) (by decide +kernel) ?_
  refine z_sld (v := (xs 3)) (j := 3) hx hb hX hbl hbA hS rfl (Nat.le_of_ble_eq_true rfl) rfl dL_law_1623 ?_
  refine lv_aload_n hx hb dL_law_1624 rfl (lv_at hl 4 rfl) ?_
  refine lv_iload hx hb dL_law_1625 (lv_at hl 0 rfl) ?_
  refine lv_iconst (v := 4) hx hb dL_law_1627 (by decide) ?_
  refine lv_iadd hx hb dL_law_1628 ?_
  refine z_cst (v := 4) (by decide +kernel) ?_
  refine z_sld (v := (xs 4)) (j := 4) hx hb hX hbl hbA hS rfl (Nat.le_of_ble_eq_true rfl) rfl dL_law_1629 ?_
  refine lv_aload_n hx hb dL_law_1630 rfl (lv_at hl 4 rfl) ?_
  refine lv_iload hx hb dL_law_1631 (lv_at hl 0 rfl) ?_
  refine lv_iconst (v := 5) hx hb dL_law_1633 (by decide) ?_
  refine lv_iadd hx hb dL_law_1634 ?_
  refine z_cst (v := 5) (by decide +kernel) ?_
  refine z_sld (v := 0) (j := 5) hx hb hX hbl hbA hS rfl (Nat.le_of_ble_eq_true rfl) h0 dL_law_1635 ?_
  refine lv_if_eq (tgt := 1643) hx hb dL_law_1636 (by decide) (fun _ => ?_) (fun c => absurd (by decide) c)
  refine lv_iconst (v := 0) hx hb dL_law_1643 (by decide) ?_
  refine lv_aload_n hx hb dL_law_1644 rfl (lv_at hl 1 rfl) ?_
  refine z_hcalli [(qx, zO 9 9 (zc0 u v)), ((u 8), zO 4 6 (zc9 u v)), ((u 9), zO 7 6 (zc10 u v)), ((u 10), zI K 645 (fun _ => 0)), ((u 11), zI K 645 (fun _ => 0)), ((u 12), zI K 645 (fun _ => 0)), ((u 13), zI K 645 (fun _ => 0)), ((u 14), zI K 1935 (fun _ => 0)), ((u 59), zO 1 18 (zc60 u v)), ((u 60), zO 3 7 (zc61 u v)), ((u 16), zI K 8 (fun _ => 0)), ((u 20), zO 4 6 (zc21 u v)), ((u 28), zI K 8 (fun _ => 0)), ((u 61), zR K 512 (fun _ => none)), ((u 62), zO 2 6 (zc63 u v)), ((u 68), zI K 10 (fun _ => 0)), ((u 63), zI K 608 (fun _ => 0)), ((u 64), zI K 608 (fun _ => 0)), ((u 65), zI K 608 (fun _ => 0)), ((u 66), zI K 608 (fun _ => 0)), ((u 67), zI K 608 (fun _ => 0)), ((u 15), zI K 8 (fun _ => 0)), (qo, zJ K 1 (fun _ => 0))] [(qm, zO 10 83 (zc71 u v)), ((v 7), zI K 1290 (fun _ => 0)), ((v 8), zI K 1290 (fun _ => 0)), ((v 12), zI K 1290 (fun _ => 0)), ((v 13), zI K 16 (fun _ => 0)), ((v 25), zI K 60000 (fun _ => 0)), ((v 26), zI K 60000 (fun _ => 0)), ((v 27), zI K 60000 (fun _ => 0)), ((v 28), zI K 60000 (fun _ => 0)), ((v 29), zI K 60000 (fun _ => 0)), ((v 30), zI K 60000 (fun _ => 0)), ((v 31), zI K 60000 (fun _ => 0)), ((v 42), zI K 210000 (fun _ => 0)), ((v 43), zI K 210000 (fun _ => 0)), ((v 44), zI K 900 (fun _ => 0)), ((v 45), zI K 900 (fun _ => 0)), ((v 46), zI K 900 (fun _ => 0)), ((v 47), zI K 900 (fun _ => 0)), ((v 49), zI K 10 (fun _ => 0))] [0, 1, 2, 3, 4, 5, 6, 7, 12, 13, 9, 10, 11, 14, 15, 21, 16, 17, 18, 19, 20, 8, 41] [22, 23, 24, 25, 26, 27, 28, 29, 30, 31, 32, 33, 34, 35, 36, 37, 38, 39, 40] hP hD hS hA rfl rfl (by decide +kernel) (by decide +kernel) (by decide +kernel) 128 1867719 rfl rfl (fun hPc hDc hF => z_xrunH (As := [.ref qx, .int (nI t1), .int 1, .int (xs 3), .int (xs 4), .int 0, .ref qo]) (rest := []) ⟨hx, hb, hml, hown, hg⟩ (cL_plainly_4 l hl9 K H.size qx qo (u 8) (u 9) (u 10) (u 11) (u 12) (u 13) (u 14) (u 59) (u 60) (u 16) (u 20) (u 28) (u 61) (u 62) (u 68) (u 63) (u 64) (u 65) (u 66) (u 67) (u 15) (zc0 u v) (zc9 u v) (zc10 u v) (fun _ => 0) (fun _ => 0) (fun _ => 0) (fun _ => 0) (fun _ => 0) (zc60 u v) (zc61 u v) (fun _ => 0) (zc21 u v) (fun _ => 0) (fun _ => none) (zc63 u v) (fun _ => 0) (fun _ => 0) (fun _ => 0) (fun _ => 0) (fun _ => 0) (fun _ => 0) (fun _ => 0) (fun _ => 0) t1 ht1 (xs 3) (xs 4) (zc0_3 u v) (zc9_0 u v) (zc10_5 u v) (zc10_0 u v) (zc10_1 u v) (zc10_2 u v) (zc10_3 u v) (zc10_4 u v) (zc0_7 u v) (zc60_0 u v) (zc61_6 u v) (zc61_4 u v) (zc61_0 u v) (zc9_2 u v) rfl rfl rfl rfl rfl rfl rfl rfl (zc61_1 u v) (zc21_2 u v) rfl rfl rfl rfl rfl rfl rfl rfl (zc61_3 u v) (zc61_2 u v) (zc60_1 u v) (zc60_2 u v) (zc63_0 u v) (zc63_1 u v) (zc63_2 u v) (zc63_3 u v) (zc63_4 u v) (zc9_1 u v) (fun _ => rfl)) kS_RL_170 hd_L_plainly rfl rfl ⟨(Nat.le_of_ble_eq_true rfl), (Nat.le_of_ble_eq_true rfl)⟩ hK hS hZ hPc hDc hF rfl hl.1 rfl (Nat.le_of_ble_eq_true rfl) dL_law_1645 ⟨(Nat.le_of_ble_eq_true rfl), (Nat.le_of_ble_eq_true rfl)⟩) (fun r3 u1 H locs w2 hP hD hS => ?_)
  subst w2
  have hP : va_P K.1 classes [(qm, zO 10 83 (zc71 u v)), ((v 7), zI K 1290 (fun _ => 0)), ((v 8), zI K 1290 (fun _ => 0)), ((v 12), zI K 1290 (fun _ => 0)), ((v 13), zI K 16 (fun _ => 0)), ((v 25), zI K 60000 (fun _ => 0)), ((v 26), zI K 60000 (fun _ => 0)), ((v 27), zI K 60000 (fun _ => 0)), ((v 28), zI K 60000 (fun _ => 0)), ((v 29), zI K 60000 (fun _ => 0)), ((v 30), zI K 60000 (fun _ => 0)), ((v 31), zI K 60000 (fun _ => 0)), ((v 42), zI K 210000 (fun _ => 0)), ((v 43), zI K 210000 (fun _ => 0)), ((v 44), zI K 900 (fun _ => 0)), ((v 45), zI K 900 (fun _ => 0)), ((v 46), zI K 900 (fun _ => 0)), ((v 47), zI K 900 (fun _ => 0)), ((v 49), zI K 10 (fun _ => 0)), (qo, zJ K 1 (va_up (fun _ => 0) 0 5))] H := hP
  have hD : va_D A [(qm, zO 10 83 (zc71 u v)), ((v 7), zI K 1290 (fun _ => 0)), ((v 8), zI K 1290 (fun _ => 0)), ((v 12), zI K 1290 (fun _ => 0)), ((v 13), zI K 16 (fun _ => 0)), ((v 25), zI K 60000 (fun _ => 0)), ((v 26), zI K 60000 (fun _ => 0)), ((v 27), zI K 60000 (fun _ => 0)), ((v 28), zI K 60000 (fun _ => 0)), ((v 29), zI K 60000 (fun _ => 0)), ((v 30), zI K 60000 (fun _ => 0)), ((v 31), zI K 60000 (fun _ => 0)), ((v 42), zI K 210000 (fun _ => 0)), ((v 43), zI K 210000 (fun _ => 0)), ((v 44), zI K 900 (fun _ => 0)), ((v 45), zI K 900 (fun _ => 0)), ((v 46), zI K 900 (fun _ => 0)), ((v 47), zI K 900 (fun _ => 0)), ((v 49), zI K 10 (fun _ => 0)), (qo, zJ K 1 (va_up (fun _ => 0) 0 5))] := hD
  refine lv_istore (lv' := [(5, .int 0), (4, .int 0), (3, .ref qo), (2, .ref qm), (1, .ref qx), (0, .ref b)]) hx hb dL_law_1648 hl (by decide) rfl (fun ls hl => ?_)
  refine lv_aload_n hx hb dL_law_1650 rfl (lv_at hl 3 rfl) ?_
  refine lv_aload_n hx hb dL_law_1651 rfl (lv_at hl 5 rfl) ?_
  refine lv_iload hx hb dL_law_1652 (lv_at hl 1 rfl) ?_
  refine lv_iconst (v := 1) hx hb dL_law_1654 (by decide) ?_
  refine lv_iadd hx hb dL_law_1655 ?_
  refine z_cst (v := 1) (by decide +kernel) ?_
  refine z_sld (v := (nI t1)) (j := 1) hx hb hX hbl hbA hS rfl (Nat.le_of_ble_eq_true rfl) v1 dL_law_1656 ?_
  refine lv_aload_n hx hb dL_law_1657 rfl (lv_at hl 5 rfl) ?_
  refine lv_iload hx hb dL_law_1658 (lv_at hl 1 rfl) ?_
  refine lv_iconst (v := 2) hx hb dL_law_1660 (by decide) ?_
  refine lv_iadd hx hb dL_law_1661 ?_
  refine z_cst (v := 2) (by decide +kernel) ?_
  refine z_sld (v := 1) (j := 2) hx hb hX hbl hbA hS rfl (Nat.le_of_ble_eq_true rfl) v2 dL_law_1662 ?_
  refine lv_aload_n hx hb dL_law_1663 rfl (lv_at hl 5 rfl) ?_
  refine lv_iload hx hb dL_law_1664 (lv_at hl 1 rfl) ?_
  refine lv_iconst (v := 3) hx hb dL_law_1666 (by decide) ?_
  refine lv_iadd hx hb dL_law_1667 ?_
  refine z_cst (v := 3) (by decide +kernel) ?_
  refine z_sld (v := (xs 3)) (j := 3) hx hb hX hbl hbA hS rfl (Nat.le_of_ble_eq_true rfl) rfl dL_law_1668 ?_
  refine lv_aload_n hx hb dL_law_1669 rfl (lv_at hl 5 rfl) ?_
  refine lv_iload hx hb dL_law_1670 (lv_at hl 1 rfl) ?_
  refine lv_iconst (v := 4) hx hb dL_law_1672 (by decide) ?_
  refine lv_iadd hx hb dL_law_1673 ?_
  refine z_cst (v := 4) (by decide +kernel) ?_
  refine z_sld (v := (xs 4)) (j := 4) hx hb hX hbl hbA hS rfl (Nat.le_of_ble_eq_true rfl) rfl dL_law_1674 ?_
  refine lv_aload_n hx hb dL_law_1675 rfl (lv_at hl 5 rfl) ?_
  refine lv_iload hx hb dL_law_1676 (lv_at hl 1 rfl) ?_
  refine lv_iconst (v := 5) hx hb dL_law_1678 (by decide) ?_
  refine lv_iadd hx hb dL_law_1679 ?_
  refine z_cst (v := 5) (by decide +kernel) ?_
  refine z_sld (v := 0) (j := 5) hx hb hX hbl hbA hS rfl (Nat.le_of_ble_eq_true rfl) h0 dL_law_1680 ?_
  refine lv_if_eq (tgt := 1688) hx hb dL_law_1681 (by decide) (fun _ => ?_) (fun c => absurd (by decide) c)
  refine lv_iconst (v := 0) hx hb dL_law_1688 (by decide) ?_
  refine z_calli [(qm, zO 10 83 (zc71 u v)), ((v 49), zI K 10 (fun _ => 0)), ((v 7), zI K 1290 (fun _ => 0)), ((v 8), zI K 1290 (fun _ => 0)), ((v 12), zI K 1290 (fun _ => 0)), ((v 44), zI K 900 (fun _ => 0)), ((v 45), zI K 900 (fun _ => 0)), ((v 46), zI K 900 (fun _ => 0)), ((v 47), zI K 900 (fun _ => 0)), ((v 25), zI K 60000 (fun _ => 0)), ((v 13), zI K 16 (fun _ => 0)), ((v 42), zI K 210000 (fun _ => 0)), ((v 43), zI K 210000 (fun _ => 0)), ((v 26), zI K 60000 (fun _ => 0)), ((v 27), zI K 60000 (fun _ => 0)), ((v 28), zI K 60000 (fun _ => 0)), ((v 29), zI K 60000 (fun _ => 0)), ((v 30), zI K 60000 (fun _ => 0)), ((v 31), zI K 60000 (fun _ => 0))] [(qo, zJ K 1 (va_up (fun _ => 0) 0 5))] [0, 18, 1, 2, 3, 14, 15, 16, 17, 5, 4, 12, 13, 6, 7, 8, 9, 10, 11] [19] hP hD hS hA rfl rfl (by decide +kernel) (by decide +kernel) (by decide +kernel) 128 1867719 rfl rfl (fun hPc hDc hF => z_runV (As := [.int (nI t1), .int 1, .int (xs 3), .int (xs 4), .int 0]) (rest := []) ⟨hx, hb, hml, hown, hg⟩ (cX12_plainly_4 l K H.size qm (v 49) (v 7) (v 8) (v 12) (v 44) (v 45) (v 46) (v 47) (v 25) (v 13) (v 42) (v 43) (v 26) (v 27) (v 28) (v 29) (v 30) (v 31) (zc71 u v) (fun _ => 0) (fun _ => 0) (fun _ => 0) (fun _ => 0) (fun _ => 0) (fun _ => 0) (fun _ => 0) (fun _ => 0) (fun _ => 0) (fun _ => 0) (fun _ => 0) (fun _ => 0) (fun _ => 0) (fun _ => 0) (fun _ => 0) (fun _ => 0) (fun _ => 0) (fun _ => 0) t1 ht1 (xs 3) (xs 4) (zc71_80 u v) (zc71_8 u v) (zc71_9 u v) (zc71_13 u v) (zc71_57 u v) (zc71_73 u v) (zc71_74 u v) (zc71_75 u v) (zc71_76 u v) (zc71_33 u v) (fun _ => rfl) (zc71_14 u v) (fun _ => rfl) (zc71_32 u v) (zc71_52 u v) (zc71_40 u v) (zc71_46 u v) (zc71_53 u v) (zc71_34 u v) rfl (zc71_35 u v) (zc71_36 u v) (zc71_37 u v) rfl (zc71_38 u v) (zc71_39 u v) rfl rfl rfl rfl rfl rfl rfl rfl rfl rfl rfl rfl rfl rfl rfl rfl rfl rfl rfl rfl rfl rfl rfl rfl rfl rfl rfl rfl rfl rfl rfl rfl rfl rfl rfl rfl rfl rfl rfl rfl rfl rfl rfl rfl rfl rfl) kV_RL_173 hd_X12_plainly rfl rfl ⟨(Nat.le_of_ble_eq_true rfl), (Nat.le_of_ble_eq_true rfl)⟩ hK hS hZ hPc hDc hF 0 rfl rfl rfl hl.1 rfl (Nat.le_of_ble_eq_true rfl) dL_law_1689 ⟨(Nat.le_of_ble_eq_true rfl), (Nat.le_of_ble_eq_true rfl)⟩) (fun r6 u4 H locs w5 hP hD hS => ?_)
  subst w5
  have hP : va_P K.1 classes [(qo, zJ K 1 (va_up (fun _ => 0) 0 5)), (qm, zO 10 83 (va_up (va_up (va_up (va_up (va_up (va_up (va_up (va_up (va_up (va_up (va_up (va_up (va_up (va_up (va_up (va_up (va_up (va_up (va_up (va_up (va_up (va_up (va_up (va_up (va_up (va_up (va_up (va_up (va_up (va_up (va_up (va_up (va_up (va_up (va_up (va_up (va_up (va_up (va_up (va_up (va_up (va_up (va_up (va_up (va_up (va_up (va_up (va_up (va_up (va_up (va_up (va_up (va_up (va_up (va_up (va_up (va_up (va_up (va_up (zc71 u v) 81 (.int 0)) 56 (.int 1)) 60 (.int 0)) 79 (.int 0)) 55 (.int 0)) 58 (.int 0)) 59 (.int 600)) 72 (.int 0)) 77 (.int 0)) 62 (.int 1280)) 63 (.int (-1))) 64 (.int 0)) 65 (.int 0)) 61 (.int (-1))) 58 (.int 1)) 72 (.int 1)) 62 (.int 1281)) 63 (.int (-1))) 64 (.int 0)) 65 (.int 0)) 58 (.int 2)) 61 (.int 5)) 72 (.int 0)) 54 (.int 0)) 54 (.int 1)) 54 (.int 2)) 54 (.int 3)) 54 (.int 4)) 54 (.int 5)) 54 (.int 6)) 54 (.int 7)) 54 (.int 8)) 54 (.int 9)) 54 (.int 10)) 54 (.int 11)) 54 (.int 12)) 54 (.int 13)) 54 (.int 14)) 54 (.int 15)) 54 (.int 16)) 54 (.int 15)) 54 (.int 14)) 54 (.int 13)) 54 (.int 12)) 54 (.int 11)) 54 (.int 10)) 54 (.int 9)) 54 (.int 8)) 54 (.int 7)) 54 (.int 6)) 54 (.int 5)) 54 (.int 4)) 54 (.int 3)) 54 (.int 2)) 54 (.int 1)) 54 (.int 0)) 32 (.int 16)) 40 (.int 0)) 46 (.int 0)))] H := hP
  have hD : va_D A [(qo, zJ K 1 (va_up (fun _ => 0) 0 5)), (qm, zO 10 83 (va_up (va_up (va_up (va_up (va_up (va_up (va_up (va_up (va_up (va_up (va_up (va_up (va_up (va_up (va_up (va_up (va_up (va_up (va_up (va_up (va_up (va_up (va_up (va_up (va_up (va_up (va_up (va_up (va_up (va_up (va_up (va_up (va_up (va_up (va_up (va_up (va_up (va_up (va_up (va_up (va_up (va_up (va_up (va_up (va_up (va_up (va_up (va_up (va_up (va_up (va_up (va_up (va_up (va_up (va_up (va_up (va_up (va_up (va_up (zc71 u v) 81 (.int 0)) 56 (.int 1)) 60 (.int 0)) 79 (.int 0)) 55 (.int 0)) 58 (.int 0)) 59 (.int 600)) 72 (.int 0)) 77 (.int 0)) 62 (.int 1280)) 63 (.int (-1))) 64 (.int 0)) 65 (.int 0)) 61 (.int (-1))) 58 (.int 1)) 72 (.int 1)) 62 (.int 1281)) 63 (.int (-1))) 64 (.int 0)) 65 (.int 0)) 58 (.int 2)) 61 (.int 5)) 72 (.int 0)) 54 (.int 0)) 54 (.int 1)) 54 (.int 2)) 54 (.int 3)) 54 (.int 4)) 54 (.int 5)) 54 (.int 6)) 54 (.int 7)) 54 (.int 8)) 54 (.int 9)) 54 (.int 10)) 54 (.int 11)) 54 (.int 12)) 54 (.int 13)) 54 (.int 14)) 54 (.int 15)) 54 (.int 16)) 54 (.int 15)) 54 (.int 14)) 54 (.int 13)) 54 (.int 12)) 54 (.int 11)) 54 (.int 10)) 54 (.int 9)) 54 (.int 8)) 54 (.int 7)) 54 (.int 6)) 54 (.int 5)) 54 (.int 4)) 54 (.int 3)) 54 (.int 2)) 54 (.int 1)) 54 (.int 0)) 32 (.int 16)) 40 (.int 0)) 46 (.int 0)))] := hD
  refine lv_istore (lv' := [(6, .int 5), (5, .int 0), (4, .int 0), (3, .ref qo), (2, .ref qm), (1, .ref qx), (0, .ref b)]) hx hb dL_law_1692 hl (by decide) rfl (fun ls hl => ?_)
  refine lv_aload_n hx hb dL_law_1694 rfl (lv_at hl 4 rfl) ?_
  refine z_calli [(qm, zO 10 83 (va_up (va_up (va_up (va_up (va_up (va_up (va_up (va_up (va_up (va_up (va_up (va_up (va_up (va_up (va_up (va_up (va_up (va_up (va_up (va_up (va_up (va_up (va_up (va_up (va_up (va_up (va_up (va_up (va_up (va_up (va_up (va_up (va_up (va_up (va_up (va_up (va_up (va_up (va_up (va_up (va_up (va_up (va_up (va_up (va_up (va_up (va_up (va_up (va_up (va_up (va_up (va_up (va_up (va_up (va_up (va_up (va_up (va_up (va_up (zc71 u v) 81 (.int 0)) 56 (.int 1)) 60 (.int 0)) 79 (.int 0)) 55 (.int 0)) 58 (.int 0)) 59 (.int 600)) 72 (.int 0)) 77 (.int 0)) 62 (.int 1280)) 63 (.int (-1))) 64 (.int 0)) 65 (.int 0)) 61 (.int (-1))) 58 (.int 1)) 72 (.int 1)) 62 (.int 1281)) 63 (.int (-1))) 64 (.int 0)) 65 (.int 0)) 58 (.int 2)) 61 (.int 5)) 72 (.int 0)) 54 (.int 0)) 54 (.int 1)) 54 (.int 2)) 54 (.int 3)) 54 (.int 4)) 54 (.int 5)) 54 (.int 6)) 54 (.int 7)) 54 (.int 8)) 54 (.int 9)) 54 (.int 10)) 54 (.int 11)) 54 (.int 12)) 54 (.int 13)) 54 (.int 14)) 54 (.int 15)) 54 (.int 16)) 54 (.int 15)) 54 (.int 14)) 54 (.int 13)) 54 (.int 12)) 54 (.int 11)) 54 (.int 10)) 54 (.int 9)) 54 (.int 8)) 54 (.int 7)) 54 (.int 6)) 54 (.int 5)) 54 (.int 4)) 54 (.int 3)) 54 (.int 2)) 54 (.int 1)) 54 (.int 0)) 32 (.int 16)) 40 (.int 0)) 46 (.int 0)))] [(qo, zJ K 1 (va_up (fun _ => 0) 0 5))] [1] [0] hP hD hS hA rfl rfl (by decide +kernel) (by decide +kernel) (by decide +kernel) 128 1867719 rfl rfl (fun hPc hDc hF => z_runV (As := []) (rest := []) ⟨hx, hb, hml, hown, hg⟩ (cX12_thrown_1 l K H.size qm (va_up (va_up (va_up (va_up (va_up (va_up (va_up (va_up (va_up (va_up (va_up (va_up (va_up (va_up (va_up (va_up (va_up (va_up (va_up (va_up (va_up (va_up (va_up (va_up (va_up (va_up (va_up (va_up (va_up (va_up (va_up (va_up (va_up (va_up (va_up (va_up (va_up (va_up (va_up (va_up (va_up (va_up (va_up (va_up (va_up (va_up (va_up (va_up (va_up (va_up (va_up (va_up (va_up (va_up (va_up (va_up (va_up (va_up (va_up (zc71 u v) 81 (.int 0)) 56 (.int 1)) 60 (.int 0)) 79 (.int 0)) 55 (.int 0)) 58 (.int 0)) 59 (.int 600)) 72 (.int 0)) 77 (.int 0)) 62 (.int 1280)) 63 (.int (-1))) 64 (.int 0)) 65 (.int 0)) 61 (.int (-1))) 58 (.int 1)) 72 (.int 1)) 62 (.int 1281)) 63 (.int (-1))) 64 (.int 0)) 65 (.int 0)) 58 (.int 2)) 61 (.int 5)) 72 (.int 0)) 54 (.int 0)) 54 (.int 1)) 54 (.int 2)) 54 (.int 3)) 54 (.int 4)) 54 (.int 5)) 54 (.int 6)) 54 (.int 7)) 54 (.int 8)) 54 (.int 9)) 54 (.int 10)) 54 (.int 11)) 54 (.int 12)) 54 (.int 13)) 54 (.int 14)) 54 (.int 15)) 54 (.int 16)) 54 (.int 15)) 54 (.int 14)) 54 (.int 13)) 54 (.int 12)) 54 (.int 11)) 54 (.int 10)) 54 (.int 9)) 54 (.int 8)) 54 (.int 7)) 54 (.int 6)) 54 (.int 5)) 54 (.int 4)) 54 (.int 3)) 54 (.int 2)) 54 (.int 1)) 54 (.int 0)) 32 (.int 16)) 40 (.int 0)) 46 (.int 0)) (zu_ne (by decide) (zu_ne (by decide) (zu_ne (by decide) (zu_ne (by decide) (zu_ne (by decide) (zu_ne (by decide) (zu_ne (by decide) (zu_ne (by decide) (zu_ne (by decide) (zu_ne (by decide) (zu_ne (by decide) (zu_ne (by decide) (zu_ne (by decide) (zu_ne (by decide) (zu_ne (by decide) (zu_ne (by decide) (zu_ne (by decide) (zu_ne (by decide) (zu_ne (by decide) (zu_ne (by decide) (zu_ne (by decide) (zu_ne (by decide) (zu_ne (by decide) (zu_ne (by decide) (zu_ne (by decide) (zu_ne (by decide) (zu_ne (by decide) (zu_ne (by decide) (zu_ne (by decide) (zu_ne (by decide) (zu_ne (by decide) (zu_ne (by decide) (zu_ne (by decide) (zu_ne (by decide) (zu_ne (by decide) (zu_ne (by decide) (zu_ne (by decide) (zu_ne (by decide) (zu_ne (by decide) (zu_ne (by decide) (zu_ne (by decide) (zu_ne (by decide) (zu_ne (by decide) (zu_ne (by decide) (zu_ne (by decide) (zu_ne (by decide) (zu_ne (by decide) (zu_ne (by decide) (zu_ne (by decide) (zu_ne (by decide) (zu_ne (by decide) (zu_ne (by decide) (zu_ne (by decide) (zu_ne (by decide) (zu_ne (by decide) (zu_ne (by decide) (zu_ne (by decide) (zu_ne (by decide) zu_eq))))))))))))))))))))))))))))))))))))))))))))))))))))))))))) kV_RL_104 hd_X12_thrown rfl rfl ⟨(Nat.le_of_ble_eq_true rfl), (Nat.le_of_ble_eq_true rfl)⟩ hK hS hZ hPc hDc hF 0 rfl rfl rfl hl.1 rfl (Nat.le_of_ble_eq_true rfl) dL_law_1695 ⟨(Nat.le_of_ble_eq_true rfl), (Nat.le_of_ble_eq_true rfl)⟩) (fun r9 u7 H locs w8 hP hD hS => ?_)
  subst w8
  have hP : va_P K.1 classes [(qo, zJ K 1 (va_up (fun _ => 0) 0 5)), (qm, zO 10 83 (va_up (va_up (va_up (va_up (va_up (va_up (va_up (va_up (va_up (va_up (va_up (va_up (va_up (va_up (va_up (va_up (va_up (va_up (va_up (va_up (va_up (va_up (va_up (va_up (va_up (va_up (va_up (va_up (va_up (va_up (va_up (va_up (va_up (va_up (va_up (va_up (va_up (va_up (va_up (va_up (va_up (va_up (va_up (va_up (va_up (va_up (va_up (va_up (va_up (va_up (va_up (va_up (va_up (va_up (va_up (va_up (va_up (va_up (va_up (zc71 u v) 81 (.int 0)) 56 (.int 1)) 60 (.int 0)) 79 (.int 0)) 55 (.int 0)) 58 (.int 0)) 59 (.int 600)) 72 (.int 0)) 77 (.int 0)) 62 (.int 1280)) 63 (.int (-1))) 64 (.int 0)) 65 (.int 0)) 61 (.int (-1))) 58 (.int 1)) 72 (.int 1)) 62 (.int 1281)) 63 (.int (-1))) 64 (.int 0)) 65 (.int 0)) 58 (.int 2)) 61 (.int 5)) 72 (.int 0)) 54 (.int 0)) 54 (.int 1)) 54 (.int 2)) 54 (.int 3)) 54 (.int 4)) 54 (.int 5)) 54 (.int 6)) 54 (.int 7)) 54 (.int 8)) 54 (.int 9)) 54 (.int 10)) 54 (.int 11)) 54 (.int 12)) 54 (.int 13)) 54 (.int 14)) 54 (.int 15)) 54 (.int 16)) 54 (.int 15)) 54 (.int 14)) 54 (.int 13)) 54 (.int 12)) 54 (.int 11)) 54 (.int 10)) 54 (.int 9)) 54 (.int 8)) 54 (.int 7)) 54 (.int 6)) 54 (.int 5)) 54 (.int 4)) 54 (.int 3)) 54 (.int 2)) 54 (.int 1)) 54 (.int 0)) 32 (.int 16)) 40 (.int 0)) 46 (.int 0)))] H := hP
  have hD : va_D A [(qo, zJ K 1 (va_up (fun _ => 0) 0 5)), (qm, zO 10 83 (va_up (va_up (va_up (va_up (va_up (va_up (va_up (va_up (va_up (va_up (va_up (va_up (va_up (va_up (va_up (va_up (va_up (va_up (va_up (va_up (va_up (va_up (va_up (va_up (va_up (va_up (va_up (va_up (va_up (va_up (va_up (va_up (va_up (va_up (va_up (va_up (va_up (va_up (va_up (va_up (va_up (va_up (va_up (va_up (va_up (va_up (va_up (va_up (va_up (va_up (va_up (va_up (va_up (va_up (va_up (va_up (va_up (va_up (va_up (zc71 u v) 81 (.int 0)) 56 (.int 1)) 60 (.int 0)) 79 (.int 0)) 55 (.int 0)) 58 (.int 0)) 59 (.int 600)) 72 (.int 0)) 77 (.int 0)) 62 (.int 1280)) 63 (.int (-1))) 64 (.int 0)) 65 (.int 0)) 61 (.int (-1))) 58 (.int 1)) 72 (.int 1)) 62 (.int 1281)) 63 (.int (-1))) 64 (.int 0)) 65 (.int 0)) 58 (.int 2)) 61 (.int 5)) 72 (.int 0)) 54 (.int 0)) 54 (.int 1)) 54 (.int 2)) 54 (.int 3)) 54 (.int 4)) 54 (.int 5)) 54 (.int 6)) 54 (.int 7)) 54 (.int 8)) 54 (.int 9)) 54 (.int 10)) 54 (.int 11)) 54 (.int 12)) 54 (.int 13)) 54 (.int 14)) 54 (.int 15)) 54 (.int 16)) 54 (.int 15)) 54 (.int 14)) 54 (.int 13)) 54 (.int 12)) 54 (.int 11)) 54 (.int 10)) 54 (.int 9)) 54 (.int 8)) 54 (.int 7)) 54 (.int 6)) 54 (.int 5)) 54 (.int 4)) 54 (.int 3)) 54 (.int 2)) 54 (.int 1)) 54 (.int 0)) 32 (.int 16)) 40 (.int 0)) 46 (.int 0)))] := hD
  refine lv_iload hx hb dL_law_1698 (lv_at hl 1 rfl) ?_
  refine lv_icmp_eq (tgt := 1705) hx hb dL_law_1700 (by decide) (fun _ => ?_) (fun c => absurd (by decide) c)
  refine lv_iload hx hb dL_law_1705 (lv_at hl 1 rfl) ?_
  refine lv_if_ne (tgt := 1722) hx hb dL_law_1707 (by decide) (fun c => absurd (by decide) c) (fun _ => ?_)
  refine lv_aload_n hx hb dL_law_1710 rfl (lv_at hl 3 rfl) ?_
  refine lv_iconst (v := 0) hx hb dL_law_1711 (by decide) ?_
  refine z_lald (v := 5) (j := 0) hx hb hK hP 0 rfl rfl (Nat.le_of_ble_eq_true rfl) (Nat.le_of_ble_eq_true rfl) zu_eq dL_law_1712 ?_
  refine lv_iload hx hb dL_law_1713 (lv_at hl 0 rfl) ?_
  refine lv_i2l hx hb dL_law_1715 rfl ?_
  refine z_cstl (v := 5) (by decide +kernel) ?_
  refine W.lcmp hx hb dL_law_1716 ?_
  refine z_cst (v := 0) (by decide +kernel) ?_
  refine lv_if_eq (tgt := 1722) hx hb dL_law_1717 (by decide) (fun _ => ?_) (fun c => absurd (by decide) c)
  refine lv_goto (tgt := 2026) hx hb dL_law_1722 (by decide) ?_
  exact law_back ⟨hx, hb, hr, hml, hown, hg, hX, hbl, hlocks, hK, hZ, hl9, hAA, hA, hbA⟩ (Nat.le_of_ble_eq_true rfl) (Nat.le_of_ble_eq_true rfl) hS (lv_sub hl [2, 6] rfl)
set_option maxHeartbeats 4000000 in
set_option maxRecDepth 100000 in
theorem lawS_20_4 {p : Program} {l : Launch} {e : Env} {s : State} {m : MethodId} {below : List Frame} {meth : Method} {c : Code} {b : Nat} {xs : Nat → Int32} {K : zK} {A : Nat → Prop} {H : Heap} {locs : List Loc} {ls : Array Slot} (C : zC p l s m meth c b xs K A) (qx qm qo : Nat) (u v : Nat → Nat) (h0 : xs 5 = 0) (h1 : 0 ≤ (xs 1).toInt) (h2 : (xs 1).toInt < 8) (h3 : 0 ≤ (xs 2).toInt) (h4 : (xs 2).toInt < 3) (h5 : 1 ≤ (xs 2).toInt) (h6 : 2 ≤ (xs 2).toInt) (hP : va_P K.1 classes (lwW K qx qm qo u v) H) (hD : va_D A (lwW K qx qm qo u v)) (hS : va_S A s.heap H locs) (hl : lv_has ls 7 [(4, .int 0), (3, .ref qo), (2, .ref qm), (1, .ref qx), (0, .ref b)]) : W p l e room_1 s m #[Value.ref b] below meth c H locs 124 1863516 (lw_Z below #[Value.ref b] s) (F0 m 1605 ls []) := by
  obtain ⟨hx, hb, hr, hml, hown, hg, hX, hbl, hlocks, hK, hZ, hl9, hAA, hA, hbA⟩ := C
  have hP : va_P K.1 classes [(qx, zO 9 9 (zc0 u v)), ((u 8), zO 4 6 (zc9 u v)), ((u 9), zO 7 6 (zc10 u v)), ((u 10), zI K 645 (fun _ => 0)), ((u 11), zI K 645 (fun _ => 0)), ((u 12), zI K 645 (fun _ => 0)), ((u 13), zI K 645 (fun _ => 0)), ((u 14), zI K 1935 (fun _ => 0)), ((u 15), zI K 8 (fun _ => 0)), ((u 16), zI K 8 (fun _ => 0)), ((u 20), zO 4 6 (zc21 u v)), ((u 28), zI K 8 (fun _ => 0)), ((u 59), zO 1 18 (zc60 u v)), ((u 60), zO 3 7 (zc61 u v)), ((u 61), zR K 512 (fun _ => none)), ((u 62), zO 2 6 (zc63 u v)), ((u 63), zI K 608 (fun _ => 0)), ((u 64), zI K 608 (fun _ => 0)), ((u 65), zI K 608 (fun _ => 0)), ((u 66), zI K 608 (fun _ => 0)), ((u 67), zI K 608 (fun _ => 0)), ((u 68), zI K 10 (fun _ => 0)), (qm, zO 10 83 (zc71 u v)), ((v 7), zI K 1290 (fun _ => 0)), ((v 8), zI K 1290 (fun _ => 0)), ((v 12), zI K 1290 (fun _ => 0)), ((v 13), zI K 16 (fun _ => 0)), ((v 25), zI K 60000 (fun _ => 0)), ((v 26), zI K 60000 (fun _ => 0)), ((v 27), zI K 60000 (fun _ => 0)), ((v 28), zI K 60000 (fun _ => 0)), ((v 29), zI K 60000 (fun _ => 0)), ((v 30), zI K 60000 (fun _ => 0)), ((v 31), zI K 60000 (fun _ => 0)), ((v 42), zI K 210000 (fun _ => 0)), ((v 43), zI K 210000 (fun _ => 0)), ((v 44), zI K 900 (fun _ => 0)), ((v 45), zI K 900 (fun _ => 0)), ((v 46), zI K 900 (fun _ => 0)), ((v 47), zI K 900 (fun _ => 0)), ((v 49), zI K 10 (fun _ => 0)), (qo, zJ K 1 (fun _ => 0))] H := hP.sub [0, 9, 10, 11, 12, 13, 14, 15, 16, 17, 21, 29, 60, 61, 62, 63, 64, 65, 66, 67, 68, 69, 71, 79, 80, 84, 85, 97, 98, 99, 100, 101, 102, 103, 114, 115, 116, 117, 118, 119, 121, 123] rfl
  have hD : va_D A [(qx, zO 9 9 (zc0 u v)), ((u 8), zO 4 6 (zc9 u v)), ((u 9), zO 7 6 (zc10 u v)), ((u 10), zI K 645 (fun _ => 0)), ((u 11), zI K 645 (fun _ => 0)), ((u 12), zI K 645 (fun _ => 0)), ((u 13), zI K 645 (fun _ => 0)), ((u 14), zI K 1935 (fun _ => 0)), ((u 15), zI K 8 (fun _ => 0)), ((u 16), zI K 8 (fun _ => 0)), ((u 20), zO 4 6 (zc21 u v)), ((u 28), zI K 8 (fun _ => 0)), ((u 59), zO 1 18 (zc60 u v)), ((u 60), zO 3 7 (zc61 u v)), ((u 61), zR K 512 (fun _ => none)), ((u 62), zO 2 6 (zc63 u v)), ((u 63), zI K 608 (fun _ => 0)), ((u 64), zI K 608 (fun _ => 0)), ((u 65), zI K 608 (fun _ => 0)), ((u 66), zI K 608 (fun _ => 0)), ((u 67), zI K 608 (fun _ => 0)), ((u 68), zI K 10 (fun _ => 0)), (qm, zO 10 83 (zc71 u v)), ((v 7), zI K 1290 (fun _ => 0)), ((v 8), zI K 1290 (fun _ => 0)), ((v 12), zI K 1290 (fun _ => 0)), ((v 13), zI K 16 (fun _ => 0)), ((v 25), zI K 60000 (fun _ => 0)), ((v 26), zI K 60000 (fun _ => 0)), ((v 27), zI K 60000 (fun _ => 0)), ((v 28), zI K 60000 (fun _ => 0)), ((v 29), zI K 60000 (fun _ => 0)), ((v 30), zI K 60000 (fun _ => 0)), ((v 31), zI K 60000 (fun _ => 0)), ((v 42), zI K 210000 (fun _ => 0)), ((v 43), zI K 210000 (fun _ => 0)), ((v 44), zI K 900 (fun _ => 0)), ((v 45), zI K 900 (fun _ => 0)), ((v 46), zI K 900 (fun _ => 0)), ((v 47), zI K 900 (fun _ => 0)), ((v 49), zI K 10 (fun _ => 0)), (qo, zJ K 1 (fun _ => 0))] := hD.sub [0, 9, 10, 11, 12, 13, 14, 15, 16, 17, 21, 29, 60, 61, 62, 63, 64, 65, 66, 67, 68, 69, 71, 79, 80, 84, 85, 97, 98, 99, 100, 101, 102, 103, 114, 115, 116, 117, 118, 119, 121, 123] (by decide +kernel) rfl
  obtain ⟨t1, ht1, v1⟩ : ∃ j : Nat, j < 8 ∧ xs 1 = nI j := z_nat (n := 8) (by omega) (by omega) (by decide)
  have v2 : xs 2 = 2 := z_lit (by rw [show (2 : Int32).toInt = 2 from by decide]; omega)
  refine lv_aload_n hx hb dL_law_1605 rfl (lv_at hl 3 rfl) ?_
  refine lv_aload_n hx hb dL_law_1606 rfl (lv_at hl 4 rfl) ?_
  refine lv_iload hx hb dL_law_1607 (lv_at hl 0 rfl) ?_
  refine lv_iconst (v := 1) hx hb dL_law_1609 (by decide) ?_
  refine lv_iadd hx hb dL_law_1610 ?_
  refine z_cst (v := 1) (by decide +kernel) ?_
  refine z_sld (v := (nI t1)) (j := 1) hx hb hX hbl hbA hS rfl (Nat.le_of_ble_eq_true rfl) v1 dL_law_1611 ?_
  refine lv_aload_n hx hb dL_law_1612 rfl (lv_at hl 4 rfl) ?_
  refine lv_iload hx hb dL_law_1613 (lv_at hl 0 rfl) ?_
  refine lv_iconst (v := 2) hx hb dL_law_1615 (by decide) ?_
  refine lv_iadd hx hb dL_law_1616 ?_
  refine z_cst (v := 2) (by decide +kernel) ?_
  refine z_sld (v := 2) (j := 2) hx hb hX hbl hbA hS rfl (Nat.le_of_ble_eq_true rfl) v2 dL_law_1617 ?_
  refine lv_aload_n hx hb dL_law_1618 rfl (lv_at hl 4 rfl) ?_
  refine lv_iload hx hb dL_law_1619 (lv_at hl 0 rfl) ?_
  refine lv_iconst (v := 3) hx hb dL_law_1621 (by decide) ?_
  refine lv_iadd hx hb dL_law_1622 ?_
  refine z_cst (v := 3) (by decide +kernel) ?_
  refine z_sld (v := (xs 3)) (j := 3) hx hb hX hbl hbA hS rfl (Nat.le_of_ble_eq_true rfl) rfl dL_law_1623 ?_
  refine lv_aload_n hx hb dL_law_1624 rfl (lv_at hl 4 rfl) ?_
  refine lv_iload hx hb dL_law_1625 (lv_at hl 0 rfl) ?_
  refine lv_iconst (v := 4) hx hb dL_law_1627 (by decide) ?_
  refine lv_iadd hx hb dL_law_1628 ?_
  refine z_cst (v := 4) (by decide +kernel) ?_
  refine z_sld (v := (xs 4)) (j := 4) hx hb hX hbl hbA hS rfl (Nat.le_of_ble_eq_true rfl) rfl dL_law_1629 ?_
  refine lv_aload_n hx hb dL_law_1630 rfl (lv_at hl 4 rfl) ?_
  refine lv_iload hx hb dL_law_1631 (lv_at hl 0 rfl) ?_
  refine lv_iconst (v := 5) hx hb dL_law_1633 (by decide) ?_
  refine lv_iadd hx hb dL_law_1634 ?_
  refine z_cst (v := 5) (by decide +kernel) ?_
  refine z_sld (v := 0) (j := 5) hx hb hX hbl hbA hS rfl (Nat.le_of_ble_eq_true rfl) h0 dL_law_1635 ?_
  refine lv_if_eq (tgt := 1643) hx hb dL_law_1636 (by decide) (fun _ => ?_) (fun c => absurd (by decide) c)
  refine lv_iconst (v := 0) hx hb dL_law_1643 (by decide) ?_
  refine lv_aload_n hx hb dL_law_1644 rfl (lv_at hl 1 rfl) ?_
  refine z_hcalli [(qx, zO 9 9 (zc0 u v)), ((u 8), zO 4 6 (zc9 u v)), ((u 9), zO 7 6 (zc10 u v)), ((u 10), zI K 645 (fun _ => 0)), ((u 11), zI K 645 (fun _ => 0)), ((u 12), zI K 645 (fun _ => 0)), ((u 13), zI K 645 (fun _ => 0)), ((u 14), zI K 1935 (fun _ => 0)), ((u 59), zO 1 18 (zc60 u v)), ((u 60), zO 3 7 (zc61 u v)), ((u 16), zI K 8 (fun _ => 0)), ((u 20), zO 4 6 (zc21 u v)), ((u 28), zI K 8 (fun _ => 0)), ((u 61), zR K 512 (fun _ => none)), ((u 62), zO 2 6 (zc63 u v)), ((u 68), zI K 10 (fun _ => 0)), ((u 63), zI K 608 (fun _ => 0)), ((u 64), zI K 608 (fun _ => 0)), ((u 65), zI K 608 (fun _ => 0)), ((u 66), zI K 608 (fun _ => 0)), ((u 67), zI K 608 (fun _ => 0)), ((u 15), zI K 8 (fun _ => 0)), (qo, zJ K 1 (fun _ => 0))] [(qm, zO 10 83 (zc71 u v)), ((v 7), zI K 1290 (fun _ => 0)), ((v 8), zI K 1290 (fun _ => 0)), ((v 12), zI K 1290 (fun _ => 0)), ((v 13), zI K 16 (fun _ => 0)), ((v 25), zI K 60000 (fun _ => 0)), ((v 26), zI K 60000 (fun _ => 0)), ((v 27), zI K 60000 (fun _ => 0)), ((v 28), zI K 60000 (fun _ => 0)), ((v 29), zI K 60000 (fun _ => 0)), ((v 30), zI K 60000 (fun _ => 0)), ((v 31), zI K 60000 (fun _ => 0)), ((v 42), zI K 210000 (fun _ => 0)), ((v 43), zI K 210000 (fun _ => 0)), ((v 44), zI K 900 (fun _ => 0)), ((v 45), zI K 900 (fun _ => 0)), ((v 46), zI K 900 (fun _ => 0)), ((v 47), zI K 900 (fun _ => 0)), ((v 49), zI K 10 (fun _ => 0))] [0, 1, 2, 3, 4, 5, 6, 7, 12, 13, 9, 10, 11, 14, 15, 21, 16, 17, 18, 19, 20, 8, 41] [22, 23, 24, 25, 26, 27, 28, 29, 30, 31, 32, 33, 34, 35, 36, 37, 38, 39, 40] hP hD hS hA rfl rfl (by decide +kernel) (by decide +kernel) (by decide +kernel) 128 1867719 rfl rfl (fun hPc hDc hF => z_xrunH (As := [.ref qx, .int (nI t1), .int 2, .int (xs 3), .int (xs 4), .int 0, .ref qo]) (rest := []) ⟨hx, hb, hml, hown, hg⟩ (cL_plainly_5 l hl9 K H.size qx qo (u 8) (u 9) (u 10) (u 11) (u 12) (u 13) (u 14) (u 59) (u 60) (u 16) (u 20) (u 28) (u 61) (u 62) (u 68) (u 63) (u 64) (u 65) (u 66) (u 67) (u 15) (zc0 u v) (zc9 u v) (zc10 u v) (fun _ => 0) (fun _ => 0) (fun _ => 0) (fun _ => 0) (fun _ => 0) (zc60 u v) (zc61 u v) (fun _ => 0) (zc21 u v) (fun _ => 0) (fun _ => none) (zc63 u v) (fun _ => 0) (fun _ => 0) (fun _ => 0) (fun _ => 0) (fun _ => 0) (fun _ => 0) (fun _ => 0) (fun _ => 0) t1 ht1 (xs 3) (xs 4) (zc0_3 u v) (zc9_0 u v) (zc10_5 u v) (zc10_0 u v) (zc10_1 u v) (zc10_2 u v) (zc10_3 u v) (zc10_4 u v) (zc0_7 u v) (zc60_0 u v) (zc61_6 u v) (zc61_4 u v) (zc61_0 u v) (zc9_2 u v) rfl rfl rfl rfl rfl rfl rfl rfl (zc61_1 u v) (zc21_2 u v) rfl rfl rfl rfl rfl rfl rfl rfl (zc61_3 u v) (zc61_2 u v) (zc60_1 u v) (zc60_2 u v) (zc63_0 u v) (zc63_1 u v) (zc63_2 u v) (zc63_3 u v) (zc63_4 u v) (zc9_1 u v) (fun _ => rfl)) kS_RL_170 hd_L_plainly rfl rfl ⟨(Nat.le_of_ble_eq_true rfl), (Nat.le_of_ble_eq_true rfl)⟩ hK hS hZ hPc hDc hF rfl hl.1 rfl (Nat.le_of_ble_eq_true rfl) dL_law_1645 ⟨(Nat.le_of_ble_eq_true rfl), (Nat.le_of_ble_eq_true rfl)⟩) (fun r3 u1 H locs w2 hP hD hS => ?_)
  subst w2
  have hP : va_P K.1 classes [(qm, zO 10 83 (zc71 u v)), ((v 7), zI K 1290 (fun _ => 0)), ((v 8), zI K 1290 (fun _ => 0)), ((v 12), zI K 1290 (fun _ => 0)), ((v 13), zI K 16 (fun _ => 0)), ((v 25), zI K 60000 (fun _ => 0)), ((v 26), zI K 60000 (fun _ => 0)), ((v 27), zI K 60000 (fun _ => 0)), ((v 28), zI K 60000 (fun _ => 0)), ((v 29), zI K 60000 (fun _ => 0)), ((v 30), zI K 60000 (fun _ => 0)), ((v 31), zI K 60000 (fun _ => 0)), ((v 42), zI K 210000 (fun _ => 0)), ((v 43), zI K 210000 (fun _ => 0)), ((v 44), zI K 900 (fun _ => 0)), ((v 45), zI K 900 (fun _ => 0)), ((v 46), zI K 900 (fun _ => 0)), ((v 47), zI K 900 (fun _ => 0)), ((v 49), zI K 10 (fun _ => 0)), (qo, zJ K 1 (va_up (fun _ => 0) 0 5))] H := hP
  have hD : va_D A [(qm, zO 10 83 (zc71 u v)), ((v 7), zI K 1290 (fun _ => 0)), ((v 8), zI K 1290 (fun _ => 0)), ((v 12), zI K 1290 (fun _ => 0)), ((v 13), zI K 16 (fun _ => 0)), ((v 25), zI K 60000 (fun _ => 0)), ((v 26), zI K 60000 (fun _ => 0)), ((v 27), zI K 60000 (fun _ => 0)), ((v 28), zI K 60000 (fun _ => 0)), ((v 29), zI K 60000 (fun _ => 0)), ((v 30), zI K 60000 (fun _ => 0)), ((v 31), zI K 60000 (fun _ => 0)), ((v 42), zI K 210000 (fun _ => 0)), ((v 43), zI K 210000 (fun _ => 0)), ((v 44), zI K 900 (fun _ => 0)), ((v 45), zI K 900 (fun _ => 0)), ((v 46), zI K 900 (fun _ => 0)), ((v 47), zI K 900 (fun _ => 0)), ((v 49), zI K 10 (fun _ => 0)), (qo, zJ K 1 (va_up (fun _ => 0) 0 5))] := hD
  refine lv_istore (lv' := [(5, .int 0), (4, .int 0), (3, .ref qo), (2, .ref qm), (1, .ref qx), (0, .ref b)]) hx hb dL_law_1648 hl (by decide) rfl (fun ls hl => ?_)
  refine lv_aload_n hx hb dL_law_1650 rfl (lv_at hl 3 rfl) ?_
  refine lv_aload_n hx hb dL_law_1651 rfl (lv_at hl 5 rfl) ?_
  refine lv_iload hx hb dL_law_1652 (lv_at hl 1 rfl) ?_
  refine lv_iconst (v := 1) hx hb dL_law_1654 (by decide) ?_
  refine lv_iadd hx hb dL_law_1655 ?_
  refine z_cst (v := 1) (by decide +kernel) ?_
  refine z_sld (v := (nI t1)) (j := 1) hx hb hX hbl hbA hS rfl (Nat.le_of_ble_eq_true rfl) v1 dL_law_1656 ?_
  refine lv_aload_n hx hb dL_law_1657 rfl (lv_at hl 5 rfl) ?_
  refine lv_iload hx hb dL_law_1658 (lv_at hl 1 rfl) ?_
  refine lv_iconst (v := 2) hx hb dL_law_1660 (by decide) ?_
  refine lv_iadd hx hb dL_law_1661 ?_
  refine z_cst (v := 2) (by decide +kernel) ?_
  refine z_sld (v := 2) (j := 2) hx hb hX hbl hbA hS rfl (Nat.le_of_ble_eq_true rfl) v2 dL_law_1662 ?_
  refine lv_aload_n hx hb dL_law_1663 rfl (lv_at hl 5 rfl) ?_
  refine lv_iload hx hb dL_law_1664 (lv_at hl 1 rfl) ?_
  refine lv_iconst (v := 3) hx hb dL_law_1666 (by decide) ?_
  refine lv_iadd hx hb dL_law_1667 ?_
  refine z_cst (v := 3) (by decide +kernel) ?_
  refine z_sld (v := (xs 3)) (j := 3) hx hb hX hbl hbA hS rfl (Nat.le_of_ble_eq_true rfl) rfl dL_law_1668 ?_
  refine lv_aload_n hx hb dL_law_1669 rfl (lv_at hl 5 rfl) ?_
  refine lv_iload hx hb dL_law_1670 (lv_at hl 1 rfl) ?_
  refine lv_iconst (v := 4) hx hb dL_law_1672 (by decide) ?_
  refine lv_iadd hx hb dL_law_1673 ?_
  refine z_cst (v := 4) (by decide +kernel) ?_
  refine z_sld (v := (xs 4)) (j := 4) hx hb hX hbl hbA hS rfl (Nat.le_of_ble_eq_true rfl) rfl dL_law_1674 ?_
  refine lv_aload_n hx hb dL_law_1675 rfl (lv_at hl 5 rfl) ?_
  refine lv_iload hx hb dL_law_1676 (lv_at hl 1 rfl) ?_
  refine lv_iconst (v := 5) hx hb dL_law_1678 (by decide) ?_
  refine lv_iadd hx hb dL_law_1679 ?_
  refine z_cst (v := 5) (by decide +kernel) ?_
  refine z_sld (v := 0) (j := 5) hx hb hX hbl hbA hS rfl (Nat.le_of_ble_eq_true rfl) h0 dL_law_1680 ?_
  refine lv_if_eq (tgt := 1688) hx hb dL_law_1681 (by decide) (fun _ => ?_) (fun c => absurd (by decide) c)
  refine lv_iconst (v := 0) hx hb dL_law_1688 (by decide) ?_
  refine z_calli [(qm, zO 10 83 (zc71 u v)), ((v 49), zI K 10 (fun _ => 0)), ((v 7), zI K 1290 (fun _ => 0)), ((v 8), zI K 1290 (fun _ => 0)), ((v 12), zI K 1290 (fun _ => 0)), ((v 44), zI K 900 (fun _ => 0)), ((v 45), zI K 900 (fun _ => 0)), ((v 46), zI K 900 (fun _ => 0)), ((v 47), zI K 900 (fun _ => 0)), ((v 25), zI K 60000 (fun _ => 0)), ((v 13), zI K 16 (fun _ => 0)), ((v 42), zI K 210000 (fun _ => 0)), ((v 43), zI K 210000 (fun _ => 0)), ((v 26), zI K 60000 (fun _ => 0)), ((v 27), zI K 60000 (fun _ => 0)), ((v 28), zI K 60000 (fun _ => 0)), ((v 29), zI K 60000 (fun _ => 0)), ((v 30), zI K 60000 (fun _ => 0)), ((v 31), zI K 60000 (fun _ => 0))] [(qo, zJ K 1 (va_up (fun _ => 0) 0 5))] [0, 18, 1, 2, 3, 14, 15, 16, 17, 5, 4, 12, 13, 6, 7, 8, 9, 10, 11] [19] hP hD hS hA rfl rfl (by decide +kernel) (by decide +kernel) (by decide +kernel) 128 1867719 rfl rfl (fun hPc hDc hF => z_runV (As := [.int (nI t1), .int 2, .int (xs 3), .int (xs 4), .int 0]) (rest := []) ⟨hx, hb, hml, hown, hg⟩ (cX12_plainly_5 l K H.size qm (v 49) (v 7) (v 8) (v 12) (v 44) (v 45) (v 46) (v 47) (v 25) (v 13) (v 42) (v 43) (v 26) (v 27) (v 28) (v 29) (v 30) (v 31) (zc71 u v) (fun _ => 0) (fun _ => 0) (fun _ => 0) (fun _ => 0) (fun _ => 0) (fun _ => 0) (fun _ => 0) (fun _ => 0) (fun _ => 0) (fun _ => 0) (fun _ => 0) (fun _ => 0) (fun _ => 0) (fun _ => 0) (fun _ => 0) (fun _ => 0) (fun _ => 0) (fun _ => 0) t1 ht1 (xs 3) (xs 4) (zc71_80 u v) (zc71_8 u v) (zc71_9 u v) (zc71_13 u v) (zc71_57 u v) (zc71_73 u v) (zc71_74 u v) (zc71_75 u v) (zc71_76 u v) (zc71_33 u v) (fun _ => rfl) (zc71_14 u v) (fun _ => rfl) (zc71_32 u v) (zc71_52 u v) (zc71_40 u v) (zc71_46 u v) (zc71_53 u v) (zc71_34 u v) rfl (zc71_35 u v) (zc71_36 u v) (zc71_37 u v) rfl (zc71_38 u v) (zc71_39 u v) rfl rfl rfl rfl rfl rfl rfl rfl rfl rfl rfl rfl rfl rfl rfl rfl rfl rfl rfl rfl rfl rfl rfl rfl rfl rfl rfl rfl rfl rfl rfl rfl rfl rfl rfl rfl rfl rfl rfl rfl rfl rfl rfl rfl rfl rfl) kV_RL_173 hd_X12_plainly rfl rfl ⟨(Nat.le_of_ble_eq_true rfl), (Nat.le_of_ble_eq_true rfl)⟩ hK hS hZ hPc hDc hF 0 rfl rfl rfl hl.1 rfl (Nat.le_of_ble_eq_true rfl) dL_law_1689 ⟨(Nat.le_of_ble_eq_true rfl), (Nat.le_of_ble_eq_true rfl)⟩) (fun r6 u4 H locs w5 hP hD hS => ?_)
  subst w5
  have hP : va_P K.1 classes [(qo, zJ K 1 (va_up (fun _ => 0) 0 5)), (qm, zO 10 83 (va_up (va_up (va_up (va_up (va_up (va_up (va_up (va_up (va_up (va_up (va_up (va_up (va_up (va_up (va_up (va_up (va_up (va_up (va_up (va_up (va_up (va_up (va_up (va_up (va_up (va_up (va_up (va_up (va_up (va_up (va_up (va_up (va_up (va_up (va_up (va_up (va_up (va_up (va_up (va_up (va_up (va_up (va_up (va_up (va_up (va_up (va_up (va_up (va_up (va_up (va_up (va_up (va_up (va_up (va_up (va_up (va_up (va_up (va_up (va_up (va_up (va_up (va_up (va_up (va_up (va_up (zc71 u v) 81 (.int 0)) 56 (.int 1)) 60 (.int 0)) 79 (.int 0)) 55 (.int 0)) 58 (.int 0)) 59 (.int 600)) 72 (.int 0)) 77 (.int 0)) 62 (.int 1280)) 63 (.int (-1))) 64 (.int 0)) 65 (.int 0)) 61 (.int (-1))) 58 (.int 1)) 72 (.int 1)) 62 (.int 1281)) 63 (.int (-1))) 64 (.int 0)) 65 (.int 0)) 58 (.int 2)) 72 (.int 2)) 62 (.int 1282)) 63 (.int (-1))) 64 (.int 0)) 65 (.int 0)) 58 (.int 3)) 61 (.int 5)) 72 (.int 1)) 72 (.int 0)) 54 (.int 0)) 54 (.int 1)) 54 (.int 2)) 54 (.int 3)) 54 (.int 4)) 54 (.int 5)) 54 (.int 6)) 54 (.int 7)) 54 (.int 8)) 54 (.int 9)) 54 (.int 10)) 54 (.int 11)) 54 (.int 12)) 54 (.int 13)) 54 (.int 14)) 54 (.int 15)) 54 (.int 16)) 54 (.int 15)) 54 (.int 14)) 54 (.int 13)) 54 (.int 12)) 54 (.int 11)) 54 (.int 10)) 54 (.int 9)) 54 (.int 8)) 54 (.int 7)) 54 (.int 6)) 54 (.int 5)) 54 (.int 4)) 54 (.int 3)) 54 (.int 2)) 54 (.int 1)) 54 (.int 0)) 32 (.int 16)) 40 (.int 0)) 46 (.int 0)))] H := hP
  have hD : va_D A [(qo, zJ K 1 (va_up (fun _ => 0) 0 5)), (qm, zO 10 83 (va_up (va_up (va_up (va_up (va_up (va_up (va_up (va_up (va_up (va_up (va_up (va_up (va_up (va_up (va_up (va_up (va_up (va_up (va_up (va_up (va_up (va_up (va_up (va_up (va_up (va_up (va_up (va_up (va_up (va_up (va_up (va_up (va_up (va_up (va_up (va_up (va_up (va_up (va_up (va_up (va_up (va_up (va_up (va_up (va_up (va_up (va_up (va_up (va_up (va_up (va_up (va_up (va_up (va_up (va_up (va_up (va_up (va_up (va_up (va_up (va_up (va_up (va_up (va_up (va_up (va_up (zc71 u v) 81 (.int 0)) 56 (.int 1)) 60 (.int 0)) 79 (.int 0)) 55 (.int 0)) 58 (.int 0)) 59 (.int 600)) 72 (.int 0)) 77 (.int 0)) 62 (.int 1280)) 63 (.int (-1))) 64 (.int 0)) 65 (.int 0)) 61 (.int (-1))) 58 (.int 1)) 72 (.int 1)) 62 (.int 1281)) 63 (.int (-1))) 64 (.int 0)) 65 (.int 0)) 58 (.int 2)) 72 (.int 2)) 62 (.int 1282)) 63 (.int (-1))) 64 (.int 0)) 65 (.int 0)) 58 (.int 3)) 61 (.int 5)) 72 (.int 1)) 72 (.int 0)) 54 (.int 0)) 54 (.int 1)) 54 (.int 2)) 54 (.int 3)) 54 (.int 4)) 54 (.int 5)) 54 (.int 6)) 54 (.int 7)) 54 (.int 8)) 54 (.int 9)) 54 (.int 10)) 54 (.int 11)) 54 (.int 12)) 54 (.int 13)) 54 (.int 14)) 54 (.int 15)) 54 (.int 16)) 54 (.int 15)) 54 (.int 14)) 54 (.int 13)) 54 (.int 12)) 54 (.int 11)) 54 (.int 10)) 54 (.int 9)) 54 (.int 8)) 54 (.int 7)) 54 (.int 6)) 54 (.int 5)) 54 (.int 4)) 54 (.int 3)) 54 (.int 2)) 54 (.int 1)) 54 (.int 0)) 32 (.int 16)) 40 (.int 0)) 46 (.int 0)))] := hD
  refine lv_istore (lv' := [(6, .int 5), (5, .int 0), (4, .int 0), (3, .ref qo), (2, .ref qm), (1, .ref qx), (0, .ref b)]) hx hb dL_law_1692 hl (by decide) rfl (fun ls hl => ?_)
  refine lv_aload_n hx hb dL_law_1694 rfl (lv_at hl 4 rfl) ?_
  refine z_calli [(qm, zO 10 83 (va_up (va_up (va_up (va_up (va_up (va_up (va_up (va_up (va_up (va_up (va_up (va_up (va_up (va_up (va_up (va_up (va_up (va_up (va_up (va_up (va_up (va_up (va_up (va_up (va_up (va_up (va_up (va_up (va_up (va_up (va_up (va_up (va_up (va_up (va_up (va_up (va_up (va_up (va_up (va_up (va_up (va_up (va_up (va_up (va_up (va_up (va_up (va_up (va_up (va_up (va_up (va_up (va_up (va_up (va_up (va_up (va_up (va_up (va_up (va_up (va_up (va_up (va_up (va_up (va_up (va_up (zc71 u v) 81 (.int 0)) 56 (.int 1)) 60 (.int 0)) 79 (.int 0)) 55 (.int 0)) 58 (.int 0)) 59 (.int 600)) 72 (.int 0)) 77 (.int 0)) 62 (.int 1280)) 63 (.int (-1))) 64 (.int 0)) 65 (.int 0)) 61 (.int (-1))) 58 (.int 1)) 72 (.int 1)) 62 (.int 1281)) 63 (.int (-1))) 64 (.int 0)) 65 (.int 0)) 58 (.int 2)) 72 (.int 2)) 62 (.int 1282)) 63 (.int (-1))) 64 (.int 0)) 65 (.int 0)) 58 (.int 3)) 61 (.int 5)) 72 (.int 1)) 72 (.int 0)) 54 (.int 0)) 54 (.int 1)) 54 (.int 2)) 54 (.int 3)) 54 (.int 4)) 54 (.int 5)) 54 (.int 6)) 54 (.int 7)) 54 (.int 8)) 54 (.int 9)) 54 (.int 10)) 54 (.int 11)) 54 (.int 12)) 54 (.int 13)) 54 (.int 14)) 54 (.int 15)) 54 (.int 16)) 54 (.int 15)) 54 (.int 14)) 54 (.int 13)) 54 (.int 12)) 54 (.int 11)) 54 (.int 10)) 54 (.int 9)) 54 (.int 8)) 54 (.int 7)) 54 (.int 6)) 54 (.int 5)) 54 (.int 4)) 54 (.int 3)) 54 (.int 2)) 54 (.int 1)) 54 (.int 0)) 32 (.int 16)) 40 (.int 0)) 46 (.int 0)))] [(qo, zJ K 1 (va_up (fun _ => 0) 0 5))] [1] [0] hP hD hS hA rfl rfl (by decide +kernel) (by decide +kernel) (by decide +kernel) 128 1867719 rfl rfl (fun hPc hDc hF => z_runV (As := []) (rest := []) ⟨hx, hb, hml, hown, hg⟩ (cX12_thrown_1 l K H.size qm (va_up (va_up (va_up (va_up (va_up (va_up (va_up (va_up (va_up (va_up (va_up (va_up (va_up (va_up (va_up (va_up (va_up (va_up (va_up (va_up (va_up (va_up (va_up (va_up (va_up (va_up (va_up (va_up (va_up (va_up (va_up (va_up (va_up (va_up (va_up (va_up (va_up (va_up (va_up (va_up (va_up (va_up (va_up (va_up (va_up (va_up (va_up (va_up (va_up (va_up (va_up (va_up (va_up (va_up (va_up (va_up (va_up (va_up (va_up (va_up (va_up (va_up (va_up (va_up (va_up (va_up (zc71 u v) 81 (.int 0)) 56 (.int 1)) 60 (.int 0)) 79 (.int 0)) 55 (.int 0)) 58 (.int 0)) 59 (.int 600)) 72 (.int 0)) 77 (.int 0)) 62 (.int 1280)) 63 (.int (-1))) 64 (.int 0)) 65 (.int 0)) 61 (.int (-1))) 58 (.int 1)) 72 (.int 1)) 62 (.int 1281)) 63 (.int (-1))) 64 (.int 0)) 65 (.int 0)) 58 (.int 2)) 72 (.int 2)) 62 (.int 1282)) 63 (.int (-1))) 64 (.int 0)) 65 (.int 0)) 58 (.int 3)) 61 (.int 5)) 72 (.int 1)) 72 (.int 0)) 54 (.int 0)) 54 (.int 1)) 54 (.int 2)) 54 (.int 3)) 54 (.int 4)) 54 (.int 5)) 54 (.int 6)) 54 (.int 7)) 54 (.int 8)) 54 (.int 9)) 54 (.int 10)) 54 (.int 11)) 54 (.int 12)) 54 (.int 13)) 54 (.int 14)) 54 (.int 15)) 54 (.int 16)) 54 (.int 15)) 54 (.int 14)) 54 (.int 13)) 54 (.int 12)) 54 (.int 11)) 54 (.int 10)) 54 (.int 9)) 54 (.int 8)) 54 (.int 7)) 54 (.int 6)) 54 (.int 5)) 54 (.int 4)) 54 (.int 3)) 54 (.int 2)) 54 (.int 1)) 54 (.int 0)) 32 (.int 16)) 40 (.int 0)) 46 (.int 0)) (zu_ne (by decide) (zu_ne (by decide) (zu_ne (by decide) (zu_ne (by decide) (zu_ne (by decide) (zu_ne (by decide) (zu_ne (by decide) (zu_ne (by decide) (zu_ne (by decide) (zu_ne (by decide) (zu_ne (by decide) (zu_ne (by decide) (zu_ne (by decide) (zu_ne (by decide) (zu_ne (by decide) (zu_ne (by decide) (zu_ne (by decide) (zu_ne (by decide) (zu_ne (by decide) (zu_ne (by decide) (zu_ne (by decide) (zu_ne (by decide) (zu_ne (by decide) (zu_ne (by decide) (zu_ne (by decide) (zu_ne (by decide) (zu_ne (by decide) (zu_ne (by decide) (zu_ne (by decide) (zu_ne (by decide) (zu_ne (by decide) (zu_ne (by decide) (zu_ne (by decide) (zu_ne (by decide) (zu_ne (by decide) (zu_ne (by decide) (zu_ne (by decide) (zu_ne (by decide) (zu_ne (by decide) (zu_ne (by decide) (zu_ne (by decide) (zu_ne (by decide) (zu_ne (by decide) (zu_ne (by decide) (zu_ne (by decide) (zu_ne (by decide) (zu_ne (by decide) (zu_ne (by decide) (zu_ne (by decide) (zu_ne (by decide) (zu_ne (by decide) (zu_ne (by decide) (zu_ne (by decide) (zu_ne (by decide) (zu_ne (by decide) (zu_ne (by decide) (zu_ne (by decide) (zu_ne (by decide) (zu_ne (by decide) (zu_ne (by decide) (zu_ne (by decide) (zu_ne (by decide) (zu_ne (by decide) (zu_ne (by decide) (zu_ne (by decide) zu_eq)))))))))))))))))))))))))))))))))))))))))))))))))))))))))))))))))) kV_RL_104 hd_X12_thrown rfl rfl ⟨(Nat.le_of_ble_eq_true rfl), (Nat.le_of_ble_eq_true rfl)⟩ hK hS hZ hPc hDc hF 0 rfl rfl rfl hl.1 rfl (Nat.le_of_ble_eq_true rfl) dL_law_1695 ⟨(Nat.le_of_ble_eq_true rfl), (Nat.le_of_ble_eq_true rfl)⟩) (fun r9 u7 H locs w8 hP hD hS => ?_)
  subst w8
  have hP : va_P K.1 classes [(qo, zJ K 1 (va_up (fun _ => 0) 0 5)), (qm, zO 10 83 (va_up (va_up (va_up (va_up (va_up (va_up (va_up (va_up (va_up (va_up (va_up (va_up (va_up (va_up (va_up (va_up (va_up (va_up (va_up (va_up (va_up (va_up (va_up (va_up (va_up (va_up (va_up (va_up (va_up (va_up (va_up (va_up (va_up (va_up (va_up (va_up (va_up (va_up (va_up (va_up (va_up (va_up (va_up (va_up (va_up (va_up (va_up (va_up (va_up (va_up (va_up (va_up (va_up (va_up (va_up (va_up (va_up (va_up (va_up (va_up (va_up (va_up (va_up (va_up (va_up (va_up (zc71 u v) 81 (.int 0)) 56 (.int 1)) 60 (.int 0)) 79 (.int 0)) 55 (.int 0)) 58 (.int 0)) 59 (.int 600)) 72 (.int 0)) 77 (.int 0)) 62 (.int 1280)) 63 (.int (-1))) 64 (.int 0)) 65 (.int 0)) 61 (.int (-1))) 58 (.int 1)) 72 (.int 1)) 62 (.int 1281)) 63 (.int (-1))) 64 (.int 0)) 65 (.int 0)) 58 (.int 2)) 72 (.int 2)) 62 (.int 1282)) 63 (.int (-1))) 64 (.int 0)) 65 (.int 0)) 58 (.int 3)) 61 (.int 5)) 72 (.int 1)) 72 (.int 0)) 54 (.int 0)) 54 (.int 1)) 54 (.int 2)) 54 (.int 3)) 54 (.int 4)) 54 (.int 5)) 54 (.int 6)) 54 (.int 7)) 54 (.int 8)) 54 (.int 9)) 54 (.int 10)) 54 (.int 11)) 54 (.int 12)) 54 (.int 13)) 54 (.int 14)) 54 (.int 15)) 54 (.int 16)) 54 (.int 15)) 54 (.int 14)) 54 (.int 13)) 54 (.int 12)) 54 (.int 11)) 54 (.int 10)) 54 (.int 9)) 54 (.int 8)) 54 (.int 7)) 54 (.int 6)) 54 (.int 5)) 54 (.int 4)) 54 (.int 3)) 54 (.int 2)) 54 (.int 1)) 54 (.int 0)) 32 (.int 16)) 40 (.int 0)) 46 (.int 0)))] H := hP
  have hD : va_D A [(qo, zJ K 1 (va_up (fun _ => 0) 0 5)), (qm, zO 10 83 (va_up (va_up (va_up (va_up (va_up (va_up (va_up (va_up (va_up (va_up (va_up (va_up (va_up (va_up (va_up (va_up (va_up (va_up (va_up (va_up (va_up (va_up (va_up (va_up (va_up (va_up (va_up (va_up (va_up (va_up (va_up (va_up (va_up (va_up (va_up (va_up (va_up (va_up (va_up (va_up (va_up (va_up (va_up (va_up (va_up (va_up (va_up (va_up (va_up (va_up (va_up (va_up (va_up (va_up (va_up (va_up (va_up (va_up (va_up (va_up (va_up (va_up (va_up (va_up (va_up (va_up (zc71 u v) 81 (.int 0)) 56 (.int 1)) 60 (.int 0)) 79 (.int 0)) 55 (.int 0)) 58 (.int 0)) 59 (.int 600)) 72 (.int 0)) 77 (.int 0)) 62 (.int 1280)) 63 (.int (-1))) 64 (.int 0)) 65 (.int 0)) 61 (.int (-1))) 58 (.int 1)) 72 (.int 1)) 62 (.int 1281)) 63 (.int (-1))) 64 (.int 0)) 65 (.int 0)) 58 (.int 2)) 72 (.int 2)) 62 (.int 1282)) 63 (.int (-1))) 64 (.int 0)) 65 (.int 0)) 58 (.int 3)) 61 (.int 5)) 72 (.int 1)) 72 (.int 0)) 54 (.int 0)) 54 (.int 1)) 54 (.int 2)) 54 (.int 3)) 54 (.int 4)) 54 (.int 5)) 54 (.int 6)) 54 (.int 7)) 54 (.int 8)) 54 (.int 9)) 54 (.int 10)) 54 (.int 11)) 54 (.int 12)) 54 (.int 13)) 54 (.int 14)) 54 (.int 15)) 54 (.int 16)) 54 (.int 15)) 54 (.int 14)) 54 (.int 13)) 54 (.int 12)) 54 (.int 11)) 54 (.int 10)) 54 (.int 9)) 54 (.int 8)) 54 (.int 7)) 54 (.int 6)) 54 (.int 5)) 54 (.int 4)) 54 (.int 3)) 54 (.int 2)) 54 (.int 1)) 54 (.int 0)) 32 (.int 16)) 40 (.int 0)) 46 (.int 0)))] := hD
  refine lv_iload hx hb dL_law_1698 (lv_at hl 1 rfl) ?_
  refine lv_icmp_eq (tgt := 1705) hx hb dL_law_1700 (by decide) (fun _ => ?_) (fun c => absurd (by decide) c)
  refine lv_iload hx hb dL_law_1705 (lv_at hl 1 rfl) ?_
  refine lv_if_ne (tgt := 1722) hx hb dL_law_1707 (by decide) (fun c => absurd (by decide) c) (fun _ => ?_)
  refine lv_aload_n hx hb dL_law_1710 rfl (lv_at hl 3 rfl) ?_
  refine lv_iconst (v := 0) hx hb dL_law_1711 (by decide) ?_
  refine z_lald (v := 5) (j := 0) hx hb hK hP 0 rfl rfl (Nat.le_of_ble_eq_true rfl) (Nat.le_of_ble_eq_true rfl) zu_eq dL_law_1712 ?_
  refine lv_iload hx hb dL_law_1713 (lv_at hl 0 rfl) ?_
  refine lv_i2l hx hb dL_law_1715 rfl ?_
  refine z_cstl (v := 5) (by decide +kernel) ?_
  refine W.lcmp hx hb dL_law_1716 ?_
  refine z_cst (v := 0) (by decide +kernel) ?_
  refine lv_if_eq (tgt := 1722) hx hb dL_law_1717 (by decide) (fun _ => ?_) (fun c => absurd (by decide) c)
  refine lv_goto (tgt := 2026) hx hb dL_law_1722 (by decide) ?_
  exact law_back ⟨hx, hb, hr, hml, hown, hg, hX, hbl, hlocks, hK, hZ, hl9, hAA, hA, hbA⟩ (Nat.le_of_ble_eq_true rfl) (Nat.le_of_ble_eq_true rfl) hS (lv_sub hl [2, 6] rfl)
set_option maxHeartbeats 4000000 in
set_option maxRecDepth 100000 in
theorem lawS_20_5 {p : Program} {l : Launch} {e : Env} {s : State} {m : MethodId} {below : List Frame} {meth : Method} {c : Code} {b : Nat} {xs : Nat → Int32} {K : zK} {A : Nat → Prop} {H : Heap} {locs : List Loc} {ls : Array Slot} (C : zC p l s m meth c b xs K A) (qx qm qo : Nat) (u v : Nat → Nat) (h0 : xs 5 = 0) (h1 : 0 ≤ (xs 1).toInt) (h2 : (xs 1).toInt < 8) (h3 : 0 ≤ (xs 2).toInt) (h4 : 3 ≤ (xs 2).toInt) (hP : va_P K.1 classes (lwW K qx qm qo u v) H) (hD : va_D A (lwW K qx qm qo u v)) (hS : va_S A s.heap H locs) (hl : lv_has ls 7 [(4, .int 0), (3, .ref qo), (2, .ref qm), (1, .ref qx), (0, .ref b)]) : W p l e room_1 s m #[Value.ref b] below meth c H locs 124 1863516 (lw_Z below #[Value.ref b] s) (F0 m 1605 ls []) := by
  obtain ⟨hx, hb, hr, hml, hown, hg, hX, hbl, hlocks, hK, hZ, hl9, hAA, hA, hbA⟩ := C
  have hP : va_P K.1 classes [(qx, zO 9 9 (zc0 u v)), (qm, zO 10 83 (zc71 u v)), (qo, zJ K 1 (fun _ => 0))] H := hP.sub [0, 71, 123] rfl
  have hD : va_D A [(qx, zO 9 9 (zc0 u v)), (qm, zO 10 83 (zc71 u v)), (qo, zJ K 1 (fun _ => 0))] := hD.sub [0, 71, 123] (by decide +kernel) rfl
  obtain ⟨t1, ht1, v1⟩ : ∃ j : Nat, j < 8 ∧ xs 1 = nI j := z_nat (n := 8) (by omega) (by omega) (by decide)
  refine lv_aload_n hx hb dL_law_1605 rfl (lv_at hl 3 rfl) ?_
  refine lv_aload_n hx hb dL_law_1606 rfl (lv_at hl 4 rfl) ?_
  refine lv_iload hx hb dL_law_1607 (lv_at hl 0 rfl) ?_
  refine lv_iconst (v := 1) hx hb dL_law_1609 (by decide) ?_
  refine lv_iadd hx hb dL_law_1610 ?_
  refine z_cst (v := 1) (by decide +kernel) ?_
  refine z_sld (v := (nI t1)) (j := 1) hx hb hX hbl hbA hS rfl (Nat.le_of_ble_eq_true rfl) v1 dL_law_1611 ?_
  refine lv_aload_n hx hb dL_law_1612 rfl (lv_at hl 4 rfl) ?_
  refine lv_iload hx hb dL_law_1613 (lv_at hl 0 rfl) ?_
  refine lv_iconst (v := 2) hx hb dL_law_1615 (by decide) ?_
  refine lv_iadd hx hb dL_law_1616 ?_
  refine z_cst (v := 2) (by decide +kernel) ?_
  refine z_sld (v := (xs 2)) (j := 2) hx hb hX hbl hbA hS rfl (Nat.le_of_ble_eq_true rfl) rfl dL_law_1617 ?_
  refine lv_aload_n hx hb dL_law_1618 rfl (lv_at hl 4 rfl) ?_
  refine lv_iload hx hb dL_law_1619 (lv_at hl 0 rfl) ?_
  refine lv_iconst (v := 3) hx hb dL_law_1621 (by decide) ?_
  refine lv_iadd hx hb dL_law_1622 ?_
  refine z_cst (v := 3) (by decide +kernel) ?_
  refine z_sld (v := (xs 3)) (j := 3) hx hb hX hbl hbA hS rfl (Nat.le_of_ble_eq_true rfl) rfl dL_law_1623 ?_
  refine lv_aload_n hx hb dL_law_1624 rfl (lv_at hl 4 rfl) ?_
  refine lv_iload hx hb dL_law_1625 (lv_at hl 0 rfl) ?_
  refine lv_iconst (v := 4) hx hb dL_law_1627 (by decide) ?_
  refine lv_iadd hx hb dL_law_1628 ?_
  refine z_cst (v := 4) (by decide +kernel) ?_
  refine z_sld (v := (xs 4)) (j := 4) hx hb hX hbl hbA hS rfl (Nat.le_of_ble_eq_true rfl) rfl dL_law_1629 ?_
  refine lv_aload_n hx hb dL_law_1630 rfl (lv_at hl 4 rfl) ?_
  refine lv_iload hx hb dL_law_1631 (lv_at hl 0 rfl) ?_
  refine lv_iconst (v := 5) hx hb dL_law_1633 (by decide) ?_
  refine lv_iadd hx hb dL_law_1634 ?_
  refine z_cst (v := 5) (by decide +kernel) ?_
  refine z_sld (v := 0) (j := 5) hx hb hX hbl hbA hS rfl (Nat.le_of_ble_eq_true rfl) h0 dL_law_1635 ?_
  refine lv_if_eq (tgt := 1643) hx hb dL_law_1636 (by decide) (fun _ => ?_) (fun c => absurd (by decide) c)
  refine lv_iconst (v := 0) hx hb dL_law_1643 (by decide) ?_
  refine lv_aload_n hx hb dL_law_1644 rfl (lv_at hl 1 rfl) ?_
  refine z_hcalli [(qx, zO 9 9 (zc0 u v))] [(qm, zO 10 83 (zc71 u v)), (qo, zJ K 1 (fun _ => 0))] [0] [1, 2] hP hD hS hA rfl rfl (by decide +kernel) (by decide +kernel) (by decide +kernel) 125 1863522 rfl rfl (fun hPc hDc hF => z_xrunH (As := [.ref qx, .int (nI t1), .int (xs 2), .int (xs 3), .int (xs 4), .int 0, .ref qo]) (rest := []) ⟨hx, hb, hml, hown, hg⟩ (cL_plainly_6 l hl9 K H.size qx qo (zc0 u v) t1 ht1 (xs 2) (xs 3) (xs 4) (by rw [Int32.lt_iff_toInt_lt, show (0 : Int32).toInt = 0 from by decide]; omega) (by rw [Int32.lt_iff_toInt_lt, show (3 : Int32).toInt = 3 from by decide]; omega)) kS_RL_170 hd_L_plainly rfl rfl ⟨(Nat.le_of_ble_eq_true rfl), (Nat.le_of_ble_eq_true rfl)⟩ hK hS hZ hPc hDc hF rfl hl.1 rfl (Nat.le_of_ble_eq_true rfl) dL_law_1645 ⟨(Nat.le_of_ble_eq_true rfl), (Nat.le_of_ble_eq_true rfl)⟩) (fun r3 u1 H locs w2 hP hD hS => ?_)
  subst w2
  have hP : va_P K.1 classes [(qm, zO 10 83 (zc71 u v)), (qo, zJ K 1 (fun _ => 0))] H := hP
  have hD : va_D A [(qm, zO 10 83 (zc71 u v)), (qo, zJ K 1 (fun _ => 0))] := hD
  refine lv_istore (lv' := [(5, .int 1), (4, .int 0), (3, .ref qo), (2, .ref qm), (1, .ref qx), (0, .ref b)]) hx hb dL_law_1648 hl (by decide) rfl (fun ls hl => ?_)
  refine lv_aload_n hx hb dL_law_1650 rfl (lv_at hl 3 rfl) ?_
  refine lv_aload_n hx hb dL_law_1651 rfl (lv_at hl 5 rfl) ?_
  refine lv_iload hx hb dL_law_1652 (lv_at hl 1 rfl) ?_
  refine lv_iconst (v := 1) hx hb dL_law_1654 (by decide) ?_
  refine lv_iadd hx hb dL_law_1655 ?_
  refine z_cst (v := 1) (by decide +kernel) ?_
  refine z_sld (v := (nI t1)) (j := 1) hx hb hX hbl hbA hS rfl (Nat.le_of_ble_eq_true rfl) v1 dL_law_1656 ?_
  refine lv_aload_n hx hb dL_law_1657 rfl (lv_at hl 5 rfl) ?_
  refine lv_iload hx hb dL_law_1658 (lv_at hl 1 rfl) ?_
  refine lv_iconst (v := 2) hx hb dL_law_1660 (by decide) ?_
  refine lv_iadd hx hb dL_law_1661 ?_
  refine z_cst (v := 2) (by decide +kernel) ?_
  refine z_sld (v := (xs 2)) (j := 2) hx hb hX hbl hbA hS rfl (Nat.le_of_ble_eq_true rfl) rfl dL_law_1662 ?_
  refine lv_aload_n hx hb dL_law_1663 rfl (lv_at hl 5 rfl) ?_
  refine lv_iload hx hb dL_law_1664 (lv_at hl 1 rfl) ?_
  refine lv_iconst (v := 3) hx hb dL_law_1666 (by decide) ?_
  refine lv_iadd hx hb dL_law_1667 ?_
  refine z_cst (v := 3) (by decide +kernel) ?_
  refine z_sld (v := (xs 3)) (j := 3) hx hb hX hbl hbA hS rfl (Nat.le_of_ble_eq_true rfl) rfl dL_law_1668 ?_
  refine lv_aload_n hx hb dL_law_1669 rfl (lv_at hl 5 rfl) ?_
  refine lv_iload hx hb dL_law_1670 (lv_at hl 1 rfl) ?_
  refine lv_iconst (v := 4) hx hb dL_law_1672 (by decide) ?_
  refine lv_iadd hx hb dL_law_1673 ?_
  refine z_cst (v := 4) (by decide +kernel) ?_
  refine z_sld (v := (xs 4)) (j := 4) hx hb hX hbl hbA hS rfl (Nat.le_of_ble_eq_true rfl) rfl dL_law_1674 ?_
  refine lv_aload_n hx hb dL_law_1675 rfl (lv_at hl 5 rfl) ?_
  refine lv_iload hx hb dL_law_1676 (lv_at hl 1 rfl) ?_
  refine lv_iconst (v := 5) hx hb dL_law_1678 (by decide) ?_
  refine lv_iadd hx hb dL_law_1679 ?_
  refine z_cst (v := 5) (by decide +kernel) ?_
  refine z_sld (v := 0) (j := 5) hx hb hX hbl hbA hS rfl (Nat.le_of_ble_eq_true rfl) h0 dL_law_1680 ?_
  refine lv_if_eq (tgt := 1688) hx hb dL_law_1681 (by decide) (fun _ => ?_) (fun c => absurd (by decide) c)
  refine lv_iconst (v := 0) hx hb dL_law_1688 (by decide) ?_
  refine z_calli [(qm, zO 10 83 (zc71 u v))] [(qo, zJ K 1 (fun _ => 0))] [0] [1] hP hD hS hA rfl rfl (by decide +kernel) (by decide +kernel) (by decide +kernel) 125 1863522 rfl rfl (fun hPc hDc hF => z_runV (As := [.int (nI t1), .int (xs 2), .int (xs 3), .int (xs 4), .int 0]) (rest := []) ⟨hx, hb, hml, hown, hg⟩ (cX12_plainly_6 l K H.size qm (zc71 u v) t1 ht1 (xs 2) (xs 3) (xs 4) (by rw [Int32.lt_iff_toInt_lt, show (0 : Int32).toInt = 0 from by decide]; omega) (by rw [Int32.lt_iff_toInt_lt, show (2 : Int32).toInt = 2 from by decide]; omega)) kV_RL_173 hd_X12_plainly rfl rfl ⟨(Nat.le_of_ble_eq_true rfl), (Nat.le_of_ble_eq_true rfl)⟩ hK hS hZ hPc hDc hF 0 rfl rfl rfl hl.1 rfl (Nat.le_of_ble_eq_true rfl) dL_law_1689 ⟨(Nat.le_of_ble_eq_true rfl), (Nat.le_of_ble_eq_true rfl)⟩) (fun r6 u4 H locs w5 hP hD hS => ?_)
  subst w5
  have hP : va_P K.1 classes [(qo, zJ K 1 (fun _ => 0)), (qm, zO 10 83 (va_up (zc71 u v) 81 (.int 1)))] H := hP
  have hD : va_D A [(qo, zJ K 1 (fun _ => 0)), (qm, zO 10 83 (va_up (zc71 u v) 81 (.int 1)))] := hD
  refine lv_istore (lv' := [(6, .int 0), (5, .int 1), (4, .int 0), (3, .ref qo), (2, .ref qm), (1, .ref qx), (0, .ref b)]) hx hb dL_law_1692 hl (by decide) rfl (fun ls hl => ?_)
  refine lv_aload_n hx hb dL_law_1694 rfl (lv_at hl 4 rfl) ?_
  refine z_calli [(qm, zO 10 83 (va_up (zc71 u v) 81 (.int 1)))] [(qo, zJ K 1 (fun _ => 0))] [1] [0] hP hD hS hA rfl rfl (by decide +kernel) (by decide +kernel) (by decide +kernel) 125 1863522 rfl rfl (fun hPc hDc hF => z_runV (As := []) (rest := []) ⟨hx, hb, hml, hown, hg⟩ (cX12_thrown_2 l K H.size qm (va_up (zc71 u v) 81 (.int 1)) zu_eq) kV_RL_104 hd_X12_thrown rfl rfl ⟨(Nat.le_of_ble_eq_true rfl), (Nat.le_of_ble_eq_true rfl)⟩ hK hS hZ hPc hDc hF 0 rfl rfl rfl hl.1 rfl (Nat.le_of_ble_eq_true rfl) dL_law_1695 ⟨(Nat.le_of_ble_eq_true rfl), (Nat.le_of_ble_eq_true rfl)⟩) (fun r9 u7 H locs w8 hP hD hS => ?_)
  subst w8
  have hP : va_P K.1 classes [(qo, zJ K 1 (fun _ => 0)), (qm, zO 10 83 (va_up (zc71 u v) 81 (.int 1)))] H := hP
  have hD : va_D A [(qo, zJ K 1 (fun _ => 0)), (qm, zO 10 83 (va_up (zc71 u v) 81 (.int 1)))] := hD
  refine lv_iload hx hb dL_law_1698 (lv_at hl 1 rfl) ?_
  refine lv_icmp_eq (tgt := 1705) hx hb dL_law_1700 (by decide) (fun _ => ?_) (fun c => absurd (by decide) c)
  refine lv_iload hx hb dL_law_1705 (lv_at hl 1 rfl) ?_
  refine lv_if_ne (tgt := 1722) hx hb dL_law_1707 (by decide) (fun _ => ?_) (fun c => absurd c (by decide))
  refine lv_goto (tgt := 2026) hx hb dL_law_1722 (by decide) ?_
  exact law_back ⟨hx, hb, hr, hml, hown, hg, hX, hbl, hlocks, hK, hZ, hl9, hAA, hA, hbA⟩ (Nat.le_of_ble_eq_true rfl) (Nat.le_of_ble_eq_true rfl) hS (lv_sub hl [2, 6] rfl)
set_option maxHeartbeats 4000000 in
set_option maxRecDepth 100000 in
theorem lawS_20_6 {p : Program} {l : Launch} {e : Env} {s : State} {m : MethodId} {below : List Frame} {meth : Method} {c : Code} {b : Nat} {xs : Nat → Int32} {K : zK} {A : Nat → Prop} {H : Heap} {locs : List Loc} {ls : Array Slot} (C : zC p l s m meth c b xs K A) (qx qm qo : Nat) (u v : Nat → Nat) (h0 : xs 5 = 0) (h1 : 0 ≤ (xs 1).toInt) (h2 : 8 ≤ (xs 1).toInt) (hP : va_P K.1 classes (lwW K qx qm qo u v) H) (hD : va_D A (lwW K qx qm qo u v)) (hS : va_S A s.heap H locs) (hl : lv_has ls 7 [(4, .int 0), (3, .ref qo), (2, .ref qm), (1, .ref qx), (0, .ref b)]) : W p l e room_1 s m #[Value.ref b] below meth c H locs 124 1863516 (lw_Z below #[Value.ref b] s) (F0 m 1605 ls []) := by
  obtain ⟨hx, hb, hr, hml, hown, hg, hX, hbl, hlocks, hK, hZ, hl9, hAA, hA, hbA⟩ := C
  have hP : va_P K.1 classes [(qx, zO 9 9 (zc0 u v)), (qm, zO 10 83 (zc71 u v)), (qo, zJ K 1 (fun _ => 0))] H := hP.sub [0, 71, 123] rfl
  have hD : va_D A [(qx, zO 9 9 (zc0 u v)), (qm, zO 10 83 (zc71 u v)), (qo, zJ K 1 (fun _ => 0))] := hD.sub [0, 71, 123] (by decide +kernel) rfl
  refine lv_aload_n hx hb dL_law_1605 rfl (lv_at hl 3 rfl) ?_
  refine lv_aload_n hx hb dL_law_1606 rfl (lv_at hl 4 rfl) ?_
  refine lv_iload hx hb dL_law_1607 (lv_at hl 0 rfl) ?_
  refine lv_iconst (v := 1) hx hb dL_law_1609 (by decide) ?_
  refine lv_iadd hx hb dL_law_1610 ?_
  refine z_cst (v := 1) (by decide +kernel) ?_
  refine z_sld (v := (xs 1)) (j := 1) hx hb hX hbl hbA hS rfl (Nat.le_of_ble_eq_true rfl) rfl dL_law_1611 ?_
  refine lv_aload_n hx hb dL_law_1612 rfl (lv_at hl 4 rfl) ?_
  refine lv_iload hx hb dL_law_1613 (lv_at hl 0 rfl) ?_
  refine lv_iconst (v := 2) hx hb dL_law_1615 (by decide) ?_
  refine lv_iadd hx hb dL_law_1616 ?_
  refine z_cst (v := 2) (by decide +kernel) ?_
  refine z_sld (v := (xs 2)) (j := 2) hx hb hX hbl hbA hS rfl (Nat.le_of_ble_eq_true rfl) rfl dL_law_1617 ?_
  refine lv_aload_n hx hb dL_law_1618 rfl (lv_at hl 4 rfl) ?_
  refine lv_iload hx hb dL_law_1619 (lv_at hl 0 rfl) ?_
  refine lv_iconst (v := 3) hx hb dL_law_1621 (by decide) ?_
  refine lv_iadd hx hb dL_law_1622 ?_
  refine z_cst (v := 3) (by decide +kernel) ?_
  refine z_sld (v := (xs 3)) (j := 3) hx hb hX hbl hbA hS rfl (Nat.le_of_ble_eq_true rfl) rfl dL_law_1623 ?_
  refine lv_aload_n hx hb dL_law_1624 rfl (lv_at hl 4 rfl) ?_
  refine lv_iload hx hb dL_law_1625 (lv_at hl 0 rfl) ?_
  refine lv_iconst (v := 4) hx hb dL_law_1627 (by decide) ?_
  refine lv_iadd hx hb dL_law_1628 ?_
  refine z_cst (v := 4) (by decide +kernel) ?_
  refine z_sld (v := (xs 4)) (j := 4) hx hb hX hbl hbA hS rfl (Nat.le_of_ble_eq_true rfl) rfl dL_law_1629 ?_
  refine lv_aload_n hx hb dL_law_1630 rfl (lv_at hl 4 rfl) ?_
  refine lv_iload hx hb dL_law_1631 (lv_at hl 0 rfl) ?_
  refine lv_iconst (v := 5) hx hb dL_law_1633 (by decide) ?_
  refine lv_iadd hx hb dL_law_1634 ?_
  refine z_cst (v := 5) (by decide +kernel) ?_
  refine z_sld (v := 0) (j := 5) hx hb hX hbl hbA hS rfl (Nat.le_of_ble_eq_true rfl) h0 dL_law_1635 ?_
  refine lv_if_eq (tgt := 1643) hx hb dL_law_1636 (by decide) (fun _ => ?_) (fun c => absurd (by decide) c)
  refine lv_iconst (v := 0) hx hb dL_law_1643 (by decide) ?_
  refine lv_aload_n hx hb dL_law_1644 rfl (lv_at hl 1 rfl) ?_
  refine z_hcalli [(qx, zO 9 9 (zc0 u v))] [(qm, zO 10 83 (zc71 u v)), (qo, zJ K 1 (fun _ => 0))] [0] [1, 2] hP hD hS hA rfl rfl (by decide +kernel) (by decide +kernel) (by decide +kernel) 125 1863522 rfl rfl (fun hPc hDc hF => z_xrunH (As := [.ref qx, .int (xs 1), .int (xs 2), .int (xs 3), .int (xs 4), .int 0, .ref qo]) (rest := []) ⟨hx, hb, hml, hown, hg⟩ (cL_plainly_7 l hl9 K H.size qx qo (zc0 u v) (xs 1) (xs 2) (xs 3) (xs 4) (by rw [Int32.lt_iff_toInt_lt, show (0 : Int32).toInt = 0 from by decide]; omega) (by rw [Int32.lt_iff_toInt_lt, show (8 : Int32).toInt = 8 from by decide]; omega)) kS_RL_170 hd_L_plainly rfl rfl ⟨(Nat.le_of_ble_eq_true rfl), (Nat.le_of_ble_eq_true rfl)⟩ hK hS hZ hPc hDc hF rfl hl.1 rfl (Nat.le_of_ble_eq_true rfl) dL_law_1645 ⟨(Nat.le_of_ble_eq_true rfl), (Nat.le_of_ble_eq_true rfl)⟩) (fun r3 u1 H locs w2 hP hD hS => ?_)
  subst w2
  have hP : va_P K.1 classes [(qm, zO 10 83 (zc71 u v)), (qo, zJ K 1 (fun _ => 0))] H := hP
  have hD : va_D A [(qm, zO 10 83 (zc71 u v)), (qo, zJ K 1 (fun _ => 0))] := hD
  refine lv_istore (lv' := [(5, .int 1), (4, .int 0), (3, .ref qo), (2, .ref qm), (1, .ref qx), (0, .ref b)]) hx hb dL_law_1648 hl (by decide) rfl (fun ls hl => ?_)
  refine lv_aload_n hx hb dL_law_1650 rfl (lv_at hl 3 rfl) ?_
  refine lv_aload_n hx hb dL_law_1651 rfl (lv_at hl 5 rfl) ?_
  refine lv_iload hx hb dL_law_1652 (lv_at hl 1 rfl) ?_
  refine lv_iconst (v := 1) hx hb dL_law_1654 (by decide) ?_
  refine lv_iadd hx hb dL_law_1655 ?_
  refine z_cst (v := 1) (by decide +kernel) ?_
  refine z_sld (v := (xs 1)) (j := 1) hx hb hX hbl hbA hS rfl (Nat.le_of_ble_eq_true rfl) rfl dL_law_1656 ?_
  refine lv_aload_n hx hb dL_law_1657 rfl (lv_at hl 5 rfl) ?_
  refine lv_iload hx hb dL_law_1658 (lv_at hl 1 rfl) ?_
  refine lv_iconst (v := 2) hx hb dL_law_1660 (by decide) ?_
  refine lv_iadd hx hb dL_law_1661 ?_
  refine z_cst (v := 2) (by decide +kernel) ?_
  refine z_sld (v := (xs 2)) (j := 2) hx hb hX hbl hbA hS rfl (Nat.le_of_ble_eq_true rfl) rfl dL_law_1662 ?_
  refine lv_aload_n hx hb dL_law_1663 rfl (lv_at hl 5 rfl) ?_
  refine lv_iload hx hb dL_law_1664 (lv_at hl 1 rfl) ?_
  refine lv_iconst (v := 3) hx hb dL_law_1666 (by decide) ?_
  refine lv_iadd hx hb dL_law_1667 ?_
  refine z_cst (v := 3) (by decide +kernel) ?_
  refine z_sld (v := (xs 3)) (j := 3) hx hb hX hbl hbA hS rfl (Nat.le_of_ble_eq_true rfl) rfl dL_law_1668 ?_
  refine lv_aload_n hx hb dL_law_1669 rfl (lv_at hl 5 rfl) ?_
  refine lv_iload hx hb dL_law_1670 (lv_at hl 1 rfl) ?_
  refine lv_iconst (v := 4) hx hb dL_law_1672 (by decide) ?_
  refine lv_iadd hx hb dL_law_1673 ?_
  refine z_cst (v := 4) (by decide +kernel) ?_
  refine z_sld (v := (xs 4)) (j := 4) hx hb hX hbl hbA hS rfl (Nat.le_of_ble_eq_true rfl) rfl dL_law_1674 ?_
  refine lv_aload_n hx hb dL_law_1675 rfl (lv_at hl 5 rfl) ?_
  refine lv_iload hx hb dL_law_1676 (lv_at hl 1 rfl) ?_
  refine lv_iconst (v := 5) hx hb dL_law_1678 (by decide) ?_
  refine lv_iadd hx hb dL_law_1679 ?_
  refine z_cst (v := 5) (by decide +kernel) ?_
  refine z_sld (v := 0) (j := 5) hx hb hX hbl hbA hS rfl (Nat.le_of_ble_eq_true rfl) h0 dL_law_1680 ?_
  refine lv_if_eq (tgt := 1688) hx hb dL_law_1681 (by decide) (fun _ => ?_) (fun c => absurd (by decide) c)
  refine lv_iconst (v := 0) hx hb dL_law_1688 (by decide) ?_
  refine z_calli [(qm, zO 10 83 (zc71 u v))] [(qo, zJ K 1 (fun _ => 0))] [0] [1] hP hD hS hA rfl rfl (by decide +kernel) (by decide +kernel) (by decide +kernel) 125 1863522 rfl rfl (fun hPc hDc hF => z_runV (As := [.int (xs 1), .int (xs 2), .int (xs 3), .int (xs 4), .int 0]) (rest := []) ⟨hx, hb, hml, hown, hg⟩ (cX12_plainly_7 l K H.size qm (zc71 u v) (xs 1) (xs 2) (xs 3) (xs 4) (by rw [Int32.lt_iff_toInt_lt, show (0 : Int32).toInt = 0 from by decide]; omega) (by rw [Int32.lt_iff_toInt_lt, show (7 : Int32).toInt = 7 from by decide]; omega)) kV_RL_173 hd_X12_plainly rfl rfl ⟨(Nat.le_of_ble_eq_true rfl), (Nat.le_of_ble_eq_true rfl)⟩ hK hS hZ hPc hDc hF 0 rfl rfl rfl hl.1 rfl (Nat.le_of_ble_eq_true rfl) dL_law_1689 ⟨(Nat.le_of_ble_eq_true rfl), (Nat.le_of_ble_eq_true rfl)⟩) (fun r6 u4 H locs w5 hP hD hS => ?_)
  subst w5
  have hP : va_P K.1 classes [(qo, zJ K 1 (fun _ => 0)), (qm, zO 10 83 (va_up (zc71 u v) 81 (.int 1)))] H := hP
  have hD : va_D A [(qo, zJ K 1 (fun _ => 0)), (qm, zO 10 83 (va_up (zc71 u v) 81 (.int 1)))] := hD
  refine lv_istore (lv' := [(6, .int 0), (5, .int 1), (4, .int 0), (3, .ref qo), (2, .ref qm), (1, .ref qx), (0, .ref b)]) hx hb dL_law_1692 hl (by decide) rfl (fun ls hl => ?_)
  refine lv_aload_n hx hb dL_law_1694 rfl (lv_at hl 4 rfl) ?_
  refine z_calli [(qm, zO 10 83 (va_up (zc71 u v) 81 (.int 1)))] [(qo, zJ K 1 (fun _ => 0))] [1] [0] hP hD hS hA rfl rfl (by decide +kernel) (by decide +kernel) (by decide +kernel) 125 1863522 rfl rfl (fun hPc hDc hF => z_runV (As := []) (rest := []) ⟨hx, hb, hml, hown, hg⟩ (cX12_thrown_2 l K H.size qm (va_up (zc71 u v) 81 (.int 1)) zu_eq) kV_RL_104 hd_X12_thrown rfl rfl ⟨(Nat.le_of_ble_eq_true rfl), (Nat.le_of_ble_eq_true rfl)⟩ hK hS hZ hPc hDc hF 0 rfl rfl rfl hl.1 rfl (Nat.le_of_ble_eq_true rfl) dL_law_1695 ⟨(Nat.le_of_ble_eq_true rfl), (Nat.le_of_ble_eq_true rfl)⟩) (fun r9 u7 H locs w8 hP hD hS => ?_)
  subst w8
  have hP : va_P K.1 classes [(qo, zJ K 1 (fun _ => 0)), (qm, zO 10 83 (va_up (zc71 u v) 81 (.int 1)))] H := hP
  have hD : va_D A [(qo, zJ K 1 (fun _ => 0)), (qm, zO 10 83 (va_up (zc71 u v) 81 (.int 1)))] := hD
  refine lv_iload hx hb dL_law_1698 (lv_at hl 1 rfl) ?_
  refine lv_icmp_eq (tgt := 1705) hx hb dL_law_1700 (by decide) (fun _ => ?_) (fun c => absurd (by decide) c)
  refine lv_iload hx hb dL_law_1705 (lv_at hl 1 rfl) ?_
  refine lv_if_ne (tgt := 1722) hx hb dL_law_1707 (by decide) (fun _ => ?_) (fun c => absurd c (by decide))
  refine lv_goto (tgt := 2026) hx hb dL_law_1722 (by decide) ?_
  exact law_back ⟨hx, hb, hr, hml, hown, hg, hX, hbl, hlocks, hK, hZ, hl9, hAA, hA, hbA⟩ (Nat.le_of_ble_eq_true rfl) (Nat.le_of_ble_eq_true rfl) hS (lv_sub hl [2, 6] rfl)
set_option maxHeartbeats 4000000 in
set_option maxRecDepth 100000 in
theorem lawS_20_7 {p : Program} {l : Launch} {e : Env} {s : State} {m : MethodId} {below : List Frame} {meth : Method} {c : Code} {b : Nat} {xs : Nat → Int32} {K : zK} {A : Nat → Prop} {H : Heap} {locs : List Loc} {ls : Array Slot} (C : zC p l s m meth c b xs K A) (qx qm qo : Nat) (u v : Nat → Nat) (h0 : ¬ xs 5 = 0) (h1 : (xs 1).toInt < 0) (hP : va_P K.1 classes (lwW K qx qm qo u v) H) (hD : va_D A (lwW K qx qm qo u v)) (hS : va_S A s.heap H locs) (hl : lv_has ls 7 [(4, .int 0), (3, .ref qo), (2, .ref qm), (1, .ref qx), (0, .ref b)]) : W p l e room_1 s m #[Value.ref b] below meth c H locs 124 1863516 (lw_Z below #[Value.ref b] s) (F0 m 1605 ls []) := by
  obtain ⟨hx, hb, hr, hml, hown, hg, hX, hbl, hlocks, hK, hZ, hl9, hAA, hA, hbA⟩ := C
  have hP : va_P K.1 classes [(qx, zO 9 9 (zc0 u v)), (qm, zO 10 83 (zc71 u v)), (qo, zJ K 1 (fun _ => 0))] H := hP.sub [0, 71, 123] rfl
  have hD : va_D A [(qx, zO 9 9 (zc0 u v)), (qm, zO 10 83 (zc71 u v)), (qo, zJ K 1 (fun _ => 0))] := hD.sub [0, 71, 123] (by decide +kernel) rfl
  refine lv_aload_n hx hb dL_law_1605 rfl (lv_at hl 3 rfl) ?_
  refine lv_aload_n hx hb dL_law_1606 rfl (lv_at hl 4 rfl) ?_
  refine lv_iload hx hb dL_law_1607 (lv_at hl 0 rfl) ?_
  refine lv_iconst (v := 1) hx hb dL_law_1609 (by decide) ?_
  refine lv_iadd hx hb dL_law_1610 ?_
  refine z_cst (v := 1) (by decide +kernel) ?_
  refine z_sld (v := (xs 1)) (j := 1) hx hb hX hbl hbA hS rfl (Nat.le_of_ble_eq_true rfl) rfl dL_law_1611 ?_
  refine lv_aload_n hx hb dL_law_1612 rfl (lv_at hl 4 rfl) ?_
  refine lv_iload hx hb dL_law_1613 (lv_at hl 0 rfl) ?_
  refine lv_iconst (v := 2) hx hb dL_law_1615 (by decide) ?_
  refine lv_iadd hx hb dL_law_1616 ?_
  refine z_cst (v := 2) (by decide +kernel) ?_
  refine z_sld (v := (xs 2)) (j := 2) hx hb hX hbl hbA hS rfl (Nat.le_of_ble_eq_true rfl) rfl dL_law_1617 ?_
  refine lv_aload_n hx hb dL_law_1618 rfl (lv_at hl 4 rfl) ?_
  refine lv_iload hx hb dL_law_1619 (lv_at hl 0 rfl) ?_
  refine lv_iconst (v := 3) hx hb dL_law_1621 (by decide) ?_
  refine lv_iadd hx hb dL_law_1622 ?_
  refine z_cst (v := 3) (by decide +kernel) ?_
  refine z_sld (v := (xs 3)) (j := 3) hx hb hX hbl hbA hS rfl (Nat.le_of_ble_eq_true rfl) rfl dL_law_1623 ?_
  refine lv_aload_n hx hb dL_law_1624 rfl (lv_at hl 4 rfl) ?_
  refine lv_iload hx hb dL_law_1625 (lv_at hl 0 rfl) ?_
  refine lv_iconst (v := 4) hx hb dL_law_1627 (by decide) ?_
  refine lv_iadd hx hb dL_law_1628 ?_
  refine z_cst (v := 4) (by decide +kernel) ?_
  refine z_sld (v := (xs 4)) (j := 4) hx hb hX hbl hbA hS rfl (Nat.le_of_ble_eq_true rfl) rfl dL_law_1629 ?_
  refine lv_aload_n hx hb dL_law_1630 rfl (lv_at hl 4 rfl) ?_
  refine lv_iload hx hb dL_law_1631 (lv_at hl 0 rfl) ?_
  refine lv_iconst (v := 5) hx hb dL_law_1633 (by decide) ?_
  refine lv_iadd hx hb dL_law_1634 ?_
  refine z_cst (v := 5) (by decide +kernel) ?_
  refine z_sld (v := (xs 5)) (j := 5) hx hb hX hbl hbA hS rfl (Nat.le_of_ble_eq_true rfl) rfl dL_law_1635 ?_
  refine lv_if_eq (tgt := 1643) hx hb dL_law_1636 (by decide) (fun c => absurd c h0) (fun _ => ?_)
  refine lv_iconst (v := 1) hx hb dL_law_1639 (by decide) ?_
  refine lv_goto (tgt := 1644) hx hb dL_law_1640 (by decide) ?_
  refine lv_aload_n hx hb dL_law_1644 rfl (lv_at hl 1 rfl) ?_
  refine z_hcalli [(qx, zO 9 9 (zc0 u v))] [(qm, zO 10 83 (zc71 u v)), (qo, zJ K 1 (fun _ => 0))] [0] [1, 2] hP hD hS hA rfl rfl (by decide +kernel) (by decide +kernel) (by decide +kernel) 125 1863522 rfl rfl (fun hPc hDc hF => z_xrunH (As := [.ref qx, .int (xs 1), .int (xs 2), .int (xs 3), .int (xs 4), .int 1, .ref qo]) (rest := []) ⟨hx, hb, hml, hown, hg⟩ (cL_plainly_8 l hl9 K H.size qx qo (zc0 u v) (xs 1) (xs 2) (xs 3) (xs 4) (by rw [Int32.lt_iff_toInt_lt, show (0 : Int32).toInt = 0 from by decide]; omega)) kS_RL_170 hd_L_plainly rfl rfl ⟨(Nat.le_of_ble_eq_true rfl), (Nat.le_of_ble_eq_true rfl)⟩ hK hS hZ hPc hDc hF rfl hl.1 rfl (Nat.le_of_ble_eq_true rfl) dL_law_1645 ⟨(Nat.le_of_ble_eq_true rfl), (Nat.le_of_ble_eq_true rfl)⟩) (fun r3 u1 H locs w2 hP hD hS => ?_)
  subst w2
  have hP : va_P K.1 classes [(qm, zO 10 83 (zc71 u v)), (qo, zJ K 1 (fun _ => 0))] H := hP
  have hD : va_D A [(qm, zO 10 83 (zc71 u v)), (qo, zJ K 1 (fun _ => 0))] := hD
  refine lv_istore (lv' := [(5, .int 1), (4, .int 0), (3, .ref qo), (2, .ref qm), (1, .ref qx), (0, .ref b)]) hx hb dL_law_1648 hl (by decide) rfl (fun ls hl => ?_)
  refine lv_aload_n hx hb dL_law_1650 rfl (lv_at hl 3 rfl) ?_
  refine lv_aload_n hx hb dL_law_1651 rfl (lv_at hl 5 rfl) ?_
  refine lv_iload hx hb dL_law_1652 (lv_at hl 1 rfl) ?_
  refine lv_iconst (v := 1) hx hb dL_law_1654 (by decide) ?_
  refine lv_iadd hx hb dL_law_1655 ?_
  refine z_cst (v := 1) (by decide +kernel) ?_
  refine z_sld (v := (xs 1)) (j := 1) hx hb hX hbl hbA hS rfl (Nat.le_of_ble_eq_true rfl) rfl dL_law_1656 ?_
  refine lv_aload_n hx hb dL_law_1657 rfl (lv_at hl 5 rfl) ?_
  refine lv_iload hx hb dL_law_1658 (lv_at hl 1 rfl) ?_
  refine lv_iconst (v := 2) hx hb dL_law_1660 (by decide) ?_
  refine lv_iadd hx hb dL_law_1661 ?_
  refine z_cst (v := 2) (by decide +kernel) ?_
  refine z_sld (v := (xs 2)) (j := 2) hx hb hX hbl hbA hS rfl (Nat.le_of_ble_eq_true rfl) rfl dL_law_1662 ?_
  refine lv_aload_n hx hb dL_law_1663 rfl (lv_at hl 5 rfl) ?_
  refine lv_iload hx hb dL_law_1664 (lv_at hl 1 rfl) ?_
  refine lv_iconst (v := 3) hx hb dL_law_1666 (by decide) ?_
  refine lv_iadd hx hb dL_law_1667 ?_
  refine z_cst (v := 3) (by decide +kernel) ?_
  refine z_sld (v := (xs 3)) (j := 3) hx hb hX hbl hbA hS rfl (Nat.le_of_ble_eq_true rfl) rfl dL_law_1668 ?_
  refine lv_aload_n hx hb dL_law_1669 rfl (lv_at hl 5 rfl) ?_
  refine lv_iload hx hb dL_law_1670 (lv_at hl 1 rfl) ?_
  refine lv_iconst (v := 4) hx hb dL_law_1672 (by decide) ?_
  refine lv_iadd hx hb dL_law_1673 ?_
  refine z_cst (v := 4) (by decide +kernel) ?_
  refine z_sld (v := (xs 4)) (j := 4) hx hb hX hbl hbA hS rfl (Nat.le_of_ble_eq_true rfl) rfl dL_law_1674 ?_
  refine lv_aload_n hx hb dL_law_1675 rfl (lv_at hl 5 rfl) ?_
  refine lv_iload hx hb dL_law_1676 (lv_at hl 1 rfl) ?_
  refine lv_iconst (v := 5) hx hb dL_law_1678 (by decide) ?_
  refine lv_iadd hx hb dL_law_1679 ?_
  refine z_cst (v := 5) (by decide +kernel) ?_
  refine z_sld (v := (xs 5)) (j := 5) hx hb hX hbl hbA hS rfl (Nat.le_of_ble_eq_true rfl) rfl dL_law_1680 ?_
  refine lv_if_eq (tgt := 1688) hx hb dL_law_1681 (by decide) (fun c => absurd c h0) (fun _ => ?_)
  refine lv_iconst (v := 1) hx hb dL_law_1684 (by decide) ?_
  refine lv_goto (tgt := 1689) hx hb dL_law_1685 (by decide) ?_
  refine z_calli [(qm, zO 10 83 (zc71 u v))] [(qo, zJ K 1 (fun _ => 0))] [0] [1] hP hD hS hA rfl rfl (by decide +kernel) (by decide +kernel) (by decide +kernel) 125 1863522 rfl rfl (fun hPc hDc hF => z_runV (As := [.int (xs 1), .int (xs 2), .int (xs 3), .int (xs 4), .int 1]) (rest := []) ⟨hx, hb, hml, hown, hg⟩ (cX12_plainly_8 l K H.size qm (zc71 u v) (xs 1) (xs 2) (xs 3) (xs 4) (by rw [Int32.lt_iff_toInt_lt, show (0 : Int32).toInt = 0 from by decide]; omega)) kV_RL_173 hd_X12_plainly rfl rfl ⟨(Nat.le_of_ble_eq_true rfl), (Nat.le_of_ble_eq_true rfl)⟩ hK hS hZ hPc hDc hF 0 rfl rfl rfl hl.1 rfl (Nat.le_of_ble_eq_true rfl) dL_law_1689 ⟨(Nat.le_of_ble_eq_true rfl), (Nat.le_of_ble_eq_true rfl)⟩) (fun r6 u4 H locs w5 hP hD hS => ?_)
  subst w5
  have hP : va_P K.1 classes [(qo, zJ K 1 (fun _ => 0)), (qm, zO 10 83 (va_up (zc71 u v) 81 (.int 1)))] H := hP
  have hD : va_D A [(qo, zJ K 1 (fun _ => 0)), (qm, zO 10 83 (va_up (zc71 u v) 81 (.int 1)))] := hD
  refine lv_istore (lv' := [(6, .int 0), (5, .int 1), (4, .int 0), (3, .ref qo), (2, .ref qm), (1, .ref qx), (0, .ref b)]) hx hb dL_law_1692 hl (by decide) rfl (fun ls hl => ?_)
  refine lv_aload_n hx hb dL_law_1694 rfl (lv_at hl 4 rfl) ?_
  refine z_calli [(qm, zO 10 83 (va_up (zc71 u v) 81 (.int 1)))] [(qo, zJ K 1 (fun _ => 0))] [1] [0] hP hD hS hA rfl rfl (by decide +kernel) (by decide +kernel) (by decide +kernel) 125 1863522 rfl rfl (fun hPc hDc hF => z_runV (As := []) (rest := []) ⟨hx, hb, hml, hown, hg⟩ (cX12_thrown_2 l K H.size qm (va_up (zc71 u v) 81 (.int 1)) zu_eq) kV_RL_104 hd_X12_thrown rfl rfl ⟨(Nat.le_of_ble_eq_true rfl), (Nat.le_of_ble_eq_true rfl)⟩ hK hS hZ hPc hDc hF 0 rfl rfl rfl hl.1 rfl (Nat.le_of_ble_eq_true rfl) dL_law_1695 ⟨(Nat.le_of_ble_eq_true rfl), (Nat.le_of_ble_eq_true rfl)⟩) (fun r9 u7 H locs w8 hP hD hS => ?_)
  subst w8
  have hP : va_P K.1 classes [(qo, zJ K 1 (fun _ => 0)), (qm, zO 10 83 (va_up (zc71 u v) 81 (.int 1)))] H := hP
  have hD : va_D A [(qo, zJ K 1 (fun _ => 0)), (qm, zO 10 83 (va_up (zc71 u v) 81 (.int 1)))] := hD
  refine lv_iload hx hb dL_law_1698 (lv_at hl 1 rfl) ?_
  refine lv_icmp_eq (tgt := 1705) hx hb dL_law_1700 (by decide) (fun _ => ?_) (fun c => absurd (by decide) c)
  refine lv_iload hx hb dL_law_1705 (lv_at hl 1 rfl) ?_
  refine lv_if_ne (tgt := 1722) hx hb dL_law_1707 (by decide) (fun _ => ?_) (fun c => absurd c (by decide))
  refine lv_goto (tgt := 2026) hx hb dL_law_1722 (by decide) ?_
  exact law_back ⟨hx, hb, hr, hml, hown, hg, hX, hbl, hlocks, hK, hZ, hl9, hAA, hA, hbA⟩ (Nat.le_of_ble_eq_true rfl) (Nat.le_of_ble_eq_true rfl) hS (lv_sub hl [2, 6] rfl)
set_option maxHeartbeats 4000000 in
set_option maxRecDepth 100000 in
theorem lawS_20_8 {p : Program} {l : Launch} {e : Env} {s : State} {m : MethodId} {below : List Frame} {meth : Method} {c : Code} {b : Nat} {xs : Nat → Int32} {K : zK} {A : Nat → Prop} {H : Heap} {locs : List Loc} {ls : Array Slot} (C : zC p l s m meth c b xs K A) (qx qm qo : Nat) (u v : Nat → Nat) (h0 : ¬ xs 5 = 0) (h1 : 0 ≤ (xs 1).toInt) (h2 : (xs 1).toInt < 8) (h3 : (xs 2).toInt < 0) (hP : va_P K.1 classes (lwW K qx qm qo u v) H) (hD : va_D A (lwW K qx qm qo u v)) (hS : va_S A s.heap H locs) (hl : lv_has ls 7 [(4, .int 0), (3, .ref qo), (2, .ref qm), (1, .ref qx), (0, .ref b)]) : W p l e room_1 s m #[Value.ref b] below meth c H locs 124 1863516 (lw_Z below #[Value.ref b] s) (F0 m 1605 ls []) := by
  obtain ⟨hx, hb, hr, hml, hown, hg, hX, hbl, hlocks, hK, hZ, hl9, hAA, hA, hbA⟩ := C
  have hP : va_P K.1 classes [(qx, zO 9 9 (zc0 u v)), (qm, zO 10 83 (zc71 u v)), (qo, zJ K 1 (fun _ => 0))] H := hP.sub [0, 71, 123] rfl
  have hD : va_D A [(qx, zO 9 9 (zc0 u v)), (qm, zO 10 83 (zc71 u v)), (qo, zJ K 1 (fun _ => 0))] := hD.sub [0, 71, 123] (by decide +kernel) rfl
  obtain ⟨t1, ht1, v1⟩ : ∃ j : Nat, j < 8 ∧ xs 1 = nI j := z_nat (n := 8) (by omega) (by omega) (by decide)
  refine lv_aload_n hx hb dL_law_1605 rfl (lv_at hl 3 rfl) ?_
  refine lv_aload_n hx hb dL_law_1606 rfl (lv_at hl 4 rfl) ?_
  refine lv_iload hx hb dL_law_1607 (lv_at hl 0 rfl) ?_
  refine lv_iconst (v := 1) hx hb dL_law_1609 (by decide) ?_
  refine lv_iadd hx hb dL_law_1610 ?_
  refine z_cst (v := 1) (by decide +kernel) ?_
  refine z_sld (v := (nI t1)) (j := 1) hx hb hX hbl hbA hS rfl (Nat.le_of_ble_eq_true rfl) v1 dL_law_1611 ?_
  refine lv_aload_n hx hb dL_law_1612 rfl (lv_at hl 4 rfl) ?_
  refine lv_iload hx hb dL_law_1613 (lv_at hl 0 rfl) ?_
  refine lv_iconst (v := 2) hx hb dL_law_1615 (by decide) ?_
  refine lv_iadd hx hb dL_law_1616 ?_
  refine z_cst (v := 2) (by decide +kernel) ?_
  refine z_sld (v := (xs 2)) (j := 2) hx hb hX hbl hbA hS rfl (Nat.le_of_ble_eq_true rfl) rfl dL_law_1617 ?_
  refine lv_aload_n hx hb dL_law_1618 rfl (lv_at hl 4 rfl) ?_
  refine lv_iload hx hb dL_law_1619 (lv_at hl 0 rfl) ?_
  refine lv_iconst (v := 3) hx hb dL_law_1621 (by decide) ?_
  refine lv_iadd hx hb dL_law_1622 ?_
  refine z_cst (v := 3) (by decide +kernel) ?_
  refine z_sld (v := (xs 3)) (j := 3) hx hb hX hbl hbA hS rfl (Nat.le_of_ble_eq_true rfl) rfl dL_law_1623 ?_
  refine lv_aload_n hx hb dL_law_1624 rfl (lv_at hl 4 rfl) ?_
  refine lv_iload hx hb dL_law_1625 (lv_at hl 0 rfl) ?_
  refine lv_iconst (v := 4) hx hb dL_law_1627 (by decide) ?_
  refine lv_iadd hx hb dL_law_1628 ?_
  refine z_cst (v := 4) (by decide +kernel) ?_
  refine z_sld (v := (xs 4)) (j := 4) hx hb hX hbl hbA hS rfl (Nat.le_of_ble_eq_true rfl) rfl dL_law_1629 ?_
  refine lv_aload_n hx hb dL_law_1630 rfl (lv_at hl 4 rfl) ?_
  refine lv_iload hx hb dL_law_1631 (lv_at hl 0 rfl) ?_
  refine lv_iconst (v := 5) hx hb dL_law_1633 (by decide) ?_
  refine lv_iadd hx hb dL_law_1634 ?_
  refine z_cst (v := 5) (by decide +kernel) ?_
  refine z_sld (v := (xs 5)) (j := 5) hx hb hX hbl hbA hS rfl (Nat.le_of_ble_eq_true rfl) rfl dL_law_1635 ?_
  refine lv_if_eq (tgt := 1643) hx hb dL_law_1636 (by decide) (fun c => absurd c h0) (fun _ => ?_)
  refine lv_iconst (v := 1) hx hb dL_law_1639 (by decide) ?_
  refine lv_goto (tgt := 1644) hx hb dL_law_1640 (by decide) ?_
  refine lv_aload_n hx hb dL_law_1644 rfl (lv_at hl 1 rfl) ?_
  refine z_hcalli [(qx, zO 9 9 (zc0 u v))] [(qm, zO 10 83 (zc71 u v)), (qo, zJ K 1 (fun _ => 0))] [0] [1, 2] hP hD hS hA rfl rfl (by decide +kernel) (by decide +kernel) (by decide +kernel) 125 1863522 rfl rfl (fun hPc hDc hF => z_xrunH (As := [.ref qx, .int (nI t1), .int (xs 2), .int (xs 3), .int (xs 4), .int 1, .ref qo]) (rest := []) ⟨hx, hb, hml, hown, hg⟩ (cL_plainly_9 l hl9 K H.size qx qo (zc0 u v) t1 ht1 (xs 2) (xs 3) (xs 4) (by rw [Int32.lt_iff_toInt_lt, show (0 : Int32).toInt = 0 from by decide]; omega)) kS_RL_170 hd_L_plainly rfl rfl ⟨(Nat.le_of_ble_eq_true rfl), (Nat.le_of_ble_eq_true rfl)⟩ hK hS hZ hPc hDc hF rfl hl.1 rfl (Nat.le_of_ble_eq_true rfl) dL_law_1645 ⟨(Nat.le_of_ble_eq_true rfl), (Nat.le_of_ble_eq_true rfl)⟩) (fun r3 u1 H locs w2 hP hD hS => ?_)
  subst w2
  have hP : va_P K.1 classes [(qm, zO 10 83 (zc71 u v)), (qo, zJ K 1 (fun _ => 0))] H := hP
  have hD : va_D A [(qm, zO 10 83 (zc71 u v)), (qo, zJ K 1 (fun _ => 0))] := hD
  refine lv_istore (lv' := [(5, .int 1), (4, .int 0), (3, .ref qo), (2, .ref qm), (1, .ref qx), (0, .ref b)]) hx hb dL_law_1648 hl (by decide) rfl (fun ls hl => ?_)
  refine lv_aload_n hx hb dL_law_1650 rfl (lv_at hl 3 rfl) ?_
  refine lv_aload_n hx hb dL_law_1651 rfl (lv_at hl 5 rfl) ?_
  refine lv_iload hx hb dL_law_1652 (lv_at hl 1 rfl) ?_
  refine lv_iconst (v := 1) hx hb dL_law_1654 (by decide) ?_
  refine lv_iadd hx hb dL_law_1655 ?_
  refine z_cst (v := 1) (by decide +kernel) ?_
  refine z_sld (v := (nI t1)) (j := 1) hx hb hX hbl hbA hS rfl (Nat.le_of_ble_eq_true rfl) v1 dL_law_1656 ?_
  refine lv_aload_n hx hb dL_law_1657 rfl (lv_at hl 5 rfl) ?_
  refine lv_iload hx hb dL_law_1658 (lv_at hl 1 rfl) ?_
  refine lv_iconst (v := 2) hx hb dL_law_1660 (by decide) ?_
  refine lv_iadd hx hb dL_law_1661 ?_
  refine z_cst (v := 2) (by decide +kernel) ?_
  refine z_sld (v := (xs 2)) (j := 2) hx hb hX hbl hbA hS rfl (Nat.le_of_ble_eq_true rfl) rfl dL_law_1662 ?_
  refine lv_aload_n hx hb dL_law_1663 rfl (lv_at hl 5 rfl) ?_
  refine lv_iload hx hb dL_law_1664 (lv_at hl 1 rfl) ?_
  refine lv_iconst (v := 3) hx hb dL_law_1666 (by decide) ?_
  refine lv_iadd hx hb dL_law_1667 ?_
  refine z_cst (v := 3) (by decide +kernel) ?_
  refine z_sld (v := (xs 3)) (j := 3) hx hb hX hbl hbA hS rfl (Nat.le_of_ble_eq_true rfl) rfl dL_law_1668 ?_
  refine lv_aload_n hx hb dL_law_1669 rfl (lv_at hl 5 rfl) ?_
  refine lv_iload hx hb dL_law_1670 (lv_at hl 1 rfl) ?_
  refine lv_iconst (v := 4) hx hb dL_law_1672 (by decide) ?_
  refine lv_iadd hx hb dL_law_1673 ?_
  refine z_cst (v := 4) (by decide +kernel) ?_
  refine z_sld (v := (xs 4)) (j := 4) hx hb hX hbl hbA hS rfl (Nat.le_of_ble_eq_true rfl) rfl dL_law_1674 ?_
  refine lv_aload_n hx hb dL_law_1675 rfl (lv_at hl 5 rfl) ?_
  refine lv_iload hx hb dL_law_1676 (lv_at hl 1 rfl) ?_
  refine lv_iconst (v := 5) hx hb dL_law_1678 (by decide) ?_
  refine lv_iadd hx hb dL_law_1679 ?_
  refine z_cst (v := 5) (by decide +kernel) ?_
  refine z_sld (v := (xs 5)) (j := 5) hx hb hX hbl hbA hS rfl (Nat.le_of_ble_eq_true rfl) rfl dL_law_1680 ?_
  refine lv_if_eq (tgt := 1688) hx hb dL_law_1681 (by decide) (fun c => absurd c h0) (fun _ => ?_)
  refine lv_iconst (v := 1) hx hb dL_law_1684 (by decide) ?_
  refine lv_goto (tgt := 1689) hx hb dL_law_1685 (by decide) ?_
  refine z_calli [(qm, zO 10 83 (zc71 u v))] [(qo, zJ K 1 (fun _ => 0))] [0] [1] hP hD hS hA rfl rfl (by decide +kernel) (by decide +kernel) (by decide +kernel) 125 1863522 rfl rfl (fun hPc hDc hF => z_runV (As := [.int (nI t1), .int (xs 2), .int (xs 3), .int (xs 4), .int 1]) (rest := []) ⟨hx, hb, hml, hown, hg⟩ (cX12_plainly_9 l K H.size qm (zc71 u v) t1 ht1 (xs 2) (xs 3) (xs 4) (by rw [Int32.lt_iff_toInt_lt, show (0 : Int32).toInt = 0 from by decide]; omega)) kV_RL_173 hd_X12_plainly rfl rfl ⟨(Nat.le_of_ble_eq_true rfl), (Nat.le_of_ble_eq_true rfl)⟩ hK hS hZ hPc hDc hF 0 rfl rfl rfl hl.1 rfl (Nat.le_of_ble_eq_true rfl) dL_law_1689 ⟨(Nat.le_of_ble_eq_true rfl), (Nat.le_of_ble_eq_true rfl)⟩) (fun r6 u4 H locs w5 hP hD hS => ?_)
  subst w5
  have hP : va_P K.1 classes [(qo, zJ K 1 (fun _ => 0)), (qm, zO 10 83 (va_up (zc71 u v) 81 (.int 1)))] H := hP
  have hD : va_D A [(qo, zJ K 1 (fun _ => 0)), (qm, zO 10 83 (va_up (zc71 u v) 81 (.int 1)))] := hD
  refine lv_istore (lv' := [(6, .int 0), (5, .int 1), (4, .int 0), (3, .ref qo), (2, .ref qm), (1, .ref qx), (0, .ref b)]) hx hb dL_law_1692 hl (by decide) rfl (fun ls hl => ?_)
  refine lv_aload_n hx hb dL_law_1694 rfl (lv_at hl 4 rfl) ?_
  refine z_calli [(qm, zO 10 83 (va_up (zc71 u v) 81 (.int 1)))] [(qo, zJ K 1 (fun _ => 0))] [1] [0] hP hD hS hA rfl rfl (by decide +kernel) (by decide +kernel) (by decide +kernel) 125 1863522 rfl rfl (fun hPc hDc hF => z_runV (As := []) (rest := []) ⟨hx, hb, hml, hown, hg⟩ (cX12_thrown_2 l K H.size qm (va_up (zc71 u v) 81 (.int 1)) zu_eq) kV_RL_104 hd_X12_thrown rfl rfl ⟨(Nat.le_of_ble_eq_true rfl), (Nat.le_of_ble_eq_true rfl)⟩ hK hS hZ hPc hDc hF 0 rfl rfl rfl hl.1 rfl (Nat.le_of_ble_eq_true rfl) dL_law_1695 ⟨(Nat.le_of_ble_eq_true rfl), (Nat.le_of_ble_eq_true rfl)⟩) (fun r9 u7 H locs w8 hP hD hS => ?_)
  subst w8
  have hP : va_P K.1 classes [(qo, zJ K 1 (fun _ => 0)), (qm, zO 10 83 (va_up (zc71 u v) 81 (.int 1)))] H := hP
  have hD : va_D A [(qo, zJ K 1 (fun _ => 0)), (qm, zO 10 83 (va_up (zc71 u v) 81 (.int 1)))] := hD
  refine lv_iload hx hb dL_law_1698 (lv_at hl 1 rfl) ?_
  refine lv_icmp_eq (tgt := 1705) hx hb dL_law_1700 (by decide) (fun _ => ?_) (fun c => absurd (by decide) c)
  refine lv_iload hx hb dL_law_1705 (lv_at hl 1 rfl) ?_
  refine lv_if_ne (tgt := 1722) hx hb dL_law_1707 (by decide) (fun _ => ?_) (fun c => absurd c (by decide))
  refine lv_goto (tgt := 2026) hx hb dL_law_1722 (by decide) ?_
  exact law_back ⟨hx, hb, hr, hml, hown, hg, hX, hbl, hlocks, hK, hZ, hl9, hAA, hA, hbA⟩ (Nat.le_of_ble_eq_true rfl) (Nat.le_of_ble_eq_true rfl) hS (lv_sub hl [2, 6] rfl)
set_option maxHeartbeats 4000000 in
set_option maxRecDepth 100000 in
theorem lawS_20_9 {p : Program} {l : Launch} {e : Env} {s : State} {m : MethodId} {below : List Frame} {meth : Method} {c : Code} {b : Nat} {xs : Nat → Int32} {K : zK} {A : Nat → Prop} {H : Heap} {locs : List Loc} {ls : Array Slot} (C : zC p l s m meth c b xs K A) (qx qm qo : Nat) (u v : Nat → Nat) (h0 : ¬ xs 5 = 0) (h1 : 0 ≤ (xs 1).toInt) (h2 : (xs 1).toInt < 8) (h3 : 0 ≤ (xs 2).toInt) (h4 : (xs 2).toInt < 3) (hP : va_P K.1 classes (lwW K qx qm qo u v) H) (hD : va_D A (lwW K qx qm qo u v)) (hS : va_S A s.heap H locs) (hl : lv_has ls 7 [(4, .int 0), (3, .ref qo), (2, .ref qm), (1, .ref qx), (0, .ref b)]) : W p l e room_1 s m #[Value.ref b] below meth c H locs 124 1863516 (lw_Z below #[Value.ref b] s) (F0 m 1605 ls []) := by
  obtain ⟨hx, hb, hr, hml, hown, hg, hX, hbl, hlocks, hK, hZ, hl9, hAA, hA, hbA⟩ := C
  have hP : va_P K.1 classes [(qx, zO 9 9 (zc0 u v)), (qm, zO 10 83 (zc71 u v)), (qo, zJ K 1 (fun _ => 0))] H := hP.sub [0, 71, 123] rfl
  have hD : va_D A [(qx, zO 9 9 (zc0 u v)), (qm, zO 10 83 (zc71 u v)), (qo, zJ K 1 (fun _ => 0))] := hD.sub [0, 71, 123] (by decide +kernel) rfl
  obtain ⟨t1, ht1, v1⟩ : ∃ j : Nat, j < 8 ∧ xs 1 = nI j := z_nat (n := 8) (by omega) (by omega) (by decide)
  obtain ⟨t2, ht2, v2⟩ : ∃ j : Nat, j < 3 ∧ xs 2 = nI j := z_nat (n := 3) (by omega) (by omega) (by decide)
  refine lv_aload_n hx hb dL_law_1605 rfl (lv_at hl 3 rfl) ?_
  refine lv_aload_n hx hb dL_law_1606 rfl (lv_at hl 4 rfl) ?_
  refine lv_iload hx hb dL_law_1607 (lv_at hl 0 rfl) ?_
  refine lv_iconst (v := 1) hx hb dL_law_1609 (by decide) ?_
  refine lv_iadd hx hb dL_law_1610 ?_
  refine z_cst (v := 1) (by decide +kernel) ?_
  refine z_sld (v := (nI t1)) (j := 1) hx hb hX hbl hbA hS rfl (Nat.le_of_ble_eq_true rfl) v1 dL_law_1611 ?_
  refine lv_aload_n hx hb dL_law_1612 rfl (lv_at hl 4 rfl) ?_
  refine lv_iload hx hb dL_law_1613 (lv_at hl 0 rfl) ?_
  refine lv_iconst (v := 2) hx hb dL_law_1615 (by decide) ?_
  refine lv_iadd hx hb dL_law_1616 ?_
  refine z_cst (v := 2) (by decide +kernel) ?_
  refine z_sld (v := (nI t2)) (j := 2) hx hb hX hbl hbA hS rfl (Nat.le_of_ble_eq_true rfl) v2 dL_law_1617 ?_
  refine lv_aload_n hx hb dL_law_1618 rfl (lv_at hl 4 rfl) ?_
  refine lv_iload hx hb dL_law_1619 (lv_at hl 0 rfl) ?_
  refine lv_iconst (v := 3) hx hb dL_law_1621 (by decide) ?_
  refine lv_iadd hx hb dL_law_1622 ?_
  refine z_cst (v := 3) (by decide +kernel) ?_
  refine z_sld (v := (xs 3)) (j := 3) hx hb hX hbl hbA hS rfl (Nat.le_of_ble_eq_true rfl) rfl dL_law_1623 ?_
  refine lv_aload_n hx hb dL_law_1624 rfl (lv_at hl 4 rfl) ?_
  refine lv_iload hx hb dL_law_1625 (lv_at hl 0 rfl) ?_
  refine lv_iconst (v := 4) hx hb dL_law_1627 (by decide) ?_
  refine lv_iadd hx hb dL_law_1628 ?_
  refine z_cst (v := 4) (by decide +kernel) ?_
  refine z_sld (v := (xs 4)) (j := 4) hx hb hX hbl hbA hS rfl (Nat.le_of_ble_eq_true rfl) rfl dL_law_1629 ?_
  refine lv_aload_n hx hb dL_law_1630 rfl (lv_at hl 4 rfl) ?_
  refine lv_iload hx hb dL_law_1631 (lv_at hl 0 rfl) ?_
  refine lv_iconst (v := 5) hx hb dL_law_1633 (by decide) ?_
  refine lv_iadd hx hb dL_law_1634 ?_
  refine z_cst (v := 5) (by decide +kernel) ?_
  refine z_sld (v := (xs 5)) (j := 5) hx hb hX hbl hbA hS rfl (Nat.le_of_ble_eq_true rfl) rfl dL_law_1635 ?_
  refine lv_if_eq (tgt := 1643) hx hb dL_law_1636 (by decide) (fun c => absurd c h0) (fun _ => ?_)
  refine lv_iconst (v := 1) hx hb dL_law_1639 (by decide) ?_
  refine lv_goto (tgt := 1644) hx hb dL_law_1640 (by decide) ?_
  refine lv_aload_n hx hb dL_law_1644 rfl (lv_at hl 1 rfl) ?_
  refine z_hcalli [(qx, zO 9 9 (zc0 u v))] [(qm, zO 10 83 (zc71 u v)), (qo, zJ K 1 (fun _ => 0))] [0] [1, 2] hP hD hS hA rfl rfl (by decide +kernel) (by decide +kernel) (by decide +kernel) 125 1863522 rfl rfl (fun hPc hDc hF => z_xrunH (As := [.ref qx, .int (nI t1), .int (nI t2), .int (xs 3), .int (xs 4), .int 1, .ref qo]) (rest := []) ⟨hx, hb, hml, hown, hg⟩ (cL_plainly_10 l hl9 K H.size qx qo (zc0 u v) t1 ht1 t2 ht2 (xs 3) (xs 4) (zc0_8 u v)) kS_RL_170 hd_L_plainly rfl rfl ⟨(Nat.le_of_ble_eq_true rfl), (Nat.le_of_ble_eq_true rfl)⟩ hK hS hZ hPc hDc hF rfl hl.1 rfl (Nat.le_of_ble_eq_true rfl) dL_law_1645 ⟨(Nat.le_of_ble_eq_true rfl), (Nat.le_of_ble_eq_true rfl)⟩) (fun r3 u1 H locs w2 hP hD hS => ?_)
  subst w2
  have hP : va_P K.1 classes [(qm, zO 10 83 (zc71 u v)), (qo, zJ K 1 (fun _ => 0))] H := hP
  have hD : va_D A [(qm, zO 10 83 (zc71 u v)), (qo, zJ K 1 (fun _ => 0))] := hD
  refine lv_istore (lv' := [(5, .int 2), (4, .int 0), (3, .ref qo), (2, .ref qm), (1, .ref qx), (0, .ref b)]) hx hb dL_law_1648 hl (by decide) rfl (fun ls hl => ?_)
  refine lv_aload_n hx hb dL_law_1650 rfl (lv_at hl 3 rfl) ?_
  refine lv_aload_n hx hb dL_law_1651 rfl (lv_at hl 5 rfl) ?_
  refine lv_iload hx hb dL_law_1652 (lv_at hl 1 rfl) ?_
  refine lv_iconst (v := 1) hx hb dL_law_1654 (by decide) ?_
  refine lv_iadd hx hb dL_law_1655 ?_
  refine z_cst (v := 1) (by decide +kernel) ?_
  refine z_sld (v := (nI t1)) (j := 1) hx hb hX hbl hbA hS rfl (Nat.le_of_ble_eq_true rfl) v1 dL_law_1656 ?_
  refine lv_aload_n hx hb dL_law_1657 rfl (lv_at hl 5 rfl) ?_
  refine lv_iload hx hb dL_law_1658 (lv_at hl 1 rfl) ?_
  refine lv_iconst (v := 2) hx hb dL_law_1660 (by decide) ?_
  refine lv_iadd hx hb dL_law_1661 ?_
  refine z_cst (v := 2) (by decide +kernel) ?_
  refine z_sld (v := (nI t2)) (j := 2) hx hb hX hbl hbA hS rfl (Nat.le_of_ble_eq_true rfl) v2 dL_law_1662 ?_
  refine lv_aload_n hx hb dL_law_1663 rfl (lv_at hl 5 rfl) ?_
  refine lv_iload hx hb dL_law_1664 (lv_at hl 1 rfl) ?_
  refine lv_iconst (v := 3) hx hb dL_law_1666 (by decide) ?_
  refine lv_iadd hx hb dL_law_1667 ?_
  refine z_cst (v := 3) (by decide +kernel) ?_
  refine z_sld (v := (xs 3)) (j := 3) hx hb hX hbl hbA hS rfl (Nat.le_of_ble_eq_true rfl) rfl dL_law_1668 ?_
  refine lv_aload_n hx hb dL_law_1669 rfl (lv_at hl 5 rfl) ?_
  refine lv_iload hx hb dL_law_1670 (lv_at hl 1 rfl) ?_
  refine lv_iconst (v := 4) hx hb dL_law_1672 (by decide) ?_
  refine lv_iadd hx hb dL_law_1673 ?_
  refine z_cst (v := 4) (by decide +kernel) ?_
  refine z_sld (v := (xs 4)) (j := 4) hx hb hX hbl hbA hS rfl (Nat.le_of_ble_eq_true rfl) rfl dL_law_1674 ?_
  refine lv_aload_n hx hb dL_law_1675 rfl (lv_at hl 5 rfl) ?_
  refine lv_iload hx hb dL_law_1676 (lv_at hl 1 rfl) ?_
  refine lv_iconst (v := 5) hx hb dL_law_1678 (by decide) ?_
  refine lv_iadd hx hb dL_law_1679 ?_
  refine z_cst (v := 5) (by decide +kernel) ?_
  refine z_sld (v := (xs 5)) (j := 5) hx hb hX hbl hbA hS rfl (Nat.le_of_ble_eq_true rfl) rfl dL_law_1680 ?_
  refine lv_if_eq (tgt := 1688) hx hb dL_law_1681 (by decide) (fun c => absurd c h0) (fun _ => ?_)
  refine lv_iconst (v := 1) hx hb dL_law_1684 (by decide) ?_
  refine lv_goto (tgt := 1689) hx hb dL_law_1685 (by decide) ?_
  refine z_calli [(qm, zO 10 83 (zc71 u v))] [(qo, zJ K 1 (fun _ => 0))] [0] [1] hP hD hS hA rfl rfl (by decide +kernel) (by decide +kernel) (by decide +kernel) 125 1863522 rfl rfl (fun hPc hDc hF => z_runV (As := [.int (nI t1), .int (nI t2), .int (xs 3), .int (xs 4), .int 1]) (rest := []) ⟨hx, hb, hml, hown, hg⟩ (cX12_plainly_10 l K H.size qm (zc71 u v) t1 ht1 t2 ht2 (xs 3) (xs 4) (zc71_15 u v)) kV_RL_173 hd_X12_plainly rfl rfl ⟨(Nat.le_of_ble_eq_true rfl), (Nat.le_of_ble_eq_true rfl)⟩ hK hS hZ hPc hDc hF 0 rfl rfl rfl hl.1 rfl (Nat.le_of_ble_eq_true rfl) dL_law_1689 ⟨(Nat.le_of_ble_eq_true rfl), (Nat.le_of_ble_eq_true rfl)⟩) (fun r6 u4 H locs w5 hP hD hS => ?_)
  subst w5
  have hP : va_P K.1 classes [(qo, zJ K 1 (fun _ => 0)), (qm, zO 10 83 (va_up (zc71 u v) 81 (.int 2)))] H := hP
  have hD : va_D A [(qo, zJ K 1 (fun _ => 0)), (qm, zO 10 83 (va_up (zc71 u v) 81 (.int 2)))] := hD
  refine lv_istore (lv' := [(6, .int 0), (5, .int 2), (4, .int 0), (3, .ref qo), (2, .ref qm), (1, .ref qx), (0, .ref b)]) hx hb dL_law_1692 hl (by decide) rfl (fun ls hl => ?_)
  refine lv_aload_n hx hb dL_law_1694 rfl (lv_at hl 4 rfl) ?_
  refine z_calli [(qm, zO 10 83 (va_up (zc71 u v) 81 (.int 2)))] [(qo, zJ K 1 (fun _ => 0))] [1] [0] hP hD hS hA rfl rfl (by decide +kernel) (by decide +kernel) (by decide +kernel) 125 1863522 rfl rfl (fun hPc hDc hF => z_runV (As := []) (rest := []) ⟨hx, hb, hml, hown, hg⟩ (cX12_thrown_3 l K H.size qm (va_up (zc71 u v) 81 (.int 2)) zu_eq) kV_RL_104 hd_X12_thrown rfl rfl ⟨(Nat.le_of_ble_eq_true rfl), (Nat.le_of_ble_eq_true rfl)⟩ hK hS hZ hPc hDc hF 0 rfl rfl rfl hl.1 rfl (Nat.le_of_ble_eq_true rfl) dL_law_1695 ⟨(Nat.le_of_ble_eq_true rfl), (Nat.le_of_ble_eq_true rfl)⟩) (fun r9 u7 H locs w8 hP hD hS => ?_)
  subst w8
  have hP : va_P K.1 classes [(qo, zJ K 1 (fun _ => 0)), (qm, zO 10 83 (va_up (zc71 u v) 81 (.int 2)))] H := hP
  have hD : va_D A [(qo, zJ K 1 (fun _ => 0)), (qm, zO 10 83 (va_up (zc71 u v) 81 (.int 2)))] := hD
  refine lv_iload hx hb dL_law_1698 (lv_at hl 1 rfl) ?_
  refine lv_icmp_eq (tgt := 1705) hx hb dL_law_1700 (by decide) (fun _ => ?_) (fun c => absurd (by decide) c)
  refine lv_iload hx hb dL_law_1705 (lv_at hl 1 rfl) ?_
  refine lv_if_ne (tgt := 1722) hx hb dL_law_1707 (by decide) (fun _ => ?_) (fun c => absurd c (by decide))
  refine lv_goto (tgt := 2026) hx hb dL_law_1722 (by decide) ?_
  exact law_back ⟨hx, hb, hr, hml, hown, hg, hX, hbl, hlocks, hK, hZ, hl9, hAA, hA, hbA⟩ (Nat.le_of_ble_eq_true rfl) (Nat.le_of_ble_eq_true rfl) hS (lv_sub hl [2, 6] rfl)
set_option maxHeartbeats 4000000 in
set_option maxRecDepth 100000 in
theorem lawS_20_10 {p : Program} {l : Launch} {e : Env} {s : State} {m : MethodId} {below : List Frame} {meth : Method} {c : Code} {b : Nat} {xs : Nat → Int32} {K : zK} {A : Nat → Prop} {H : Heap} {locs : List Loc} {ls : Array Slot} (C : zC p l s m meth c b xs K A) (qx qm qo : Nat) (u v : Nat → Nat) (h0 : ¬ xs 5 = 0) (h1 : 0 ≤ (xs 1).toInt) (h2 : (xs 1).toInt < 8) (h3 : 0 ≤ (xs 2).toInt) (h4 : 3 ≤ (xs 2).toInt) (hP : va_P K.1 classes (lwW K qx qm qo u v) H) (hD : va_D A (lwW K qx qm qo u v)) (hS : va_S A s.heap H locs) (hl : lv_has ls 7 [(4, .int 0), (3, .ref qo), (2, .ref qm), (1, .ref qx), (0, .ref b)]) : W p l e room_1 s m #[Value.ref b] below meth c H locs 124 1863516 (lw_Z below #[Value.ref b] s) (F0 m 1605 ls []) := by
  obtain ⟨hx, hb, hr, hml, hown, hg, hX, hbl, hlocks, hK, hZ, hl9, hAA, hA, hbA⟩ := C
  have hP : va_P K.1 classes [(qx, zO 9 9 (zc0 u v)), (qm, zO 10 83 (zc71 u v)), (qo, zJ K 1 (fun _ => 0))] H := hP.sub [0, 71, 123] rfl
  have hD : va_D A [(qx, zO 9 9 (zc0 u v)), (qm, zO 10 83 (zc71 u v)), (qo, zJ K 1 (fun _ => 0))] := hD.sub [0, 71, 123] (by decide +kernel) rfl
  obtain ⟨t1, ht1, v1⟩ : ∃ j : Nat, j < 8 ∧ xs 1 = nI j := z_nat (n := 8) (by omega) (by omega) (by decide)
  refine lv_aload_n hx hb dL_law_1605 rfl (lv_at hl 3 rfl) ?_
  refine lv_aload_n hx hb dL_law_1606 rfl (lv_at hl 4 rfl) ?_
  refine lv_iload hx hb dL_law_1607 (lv_at hl 0 rfl) ?_
  refine lv_iconst (v := 1) hx hb dL_law_1609 (by decide) ?_
  refine lv_iadd hx hb dL_law_1610 ?_
  refine z_cst (v := 1) (by decide +kernel) ?_
  refine z_sld (v := (nI t1)) (j := 1) hx hb hX hbl hbA hS rfl (Nat.le_of_ble_eq_true rfl) v1 dL_law_1611 ?_
  refine lv_aload_n hx hb dL_law_1612 rfl (lv_at hl 4 rfl) ?_
  refine lv_iload hx hb dL_law_1613 (lv_at hl 0 rfl) ?_
  refine lv_iconst (v := 2) hx hb dL_law_1615 (by decide) ?_
  refine lv_iadd hx hb dL_law_1616 ?_
  refine z_cst (v := 2) (by decide +kernel) ?_
  refine z_sld (v := (xs 2)) (j := 2) hx hb hX hbl hbA hS rfl (Nat.le_of_ble_eq_true rfl) rfl dL_law_1617 ?_
  refine lv_aload_n hx hb dL_law_1618 rfl (lv_at hl 4 rfl) ?_
  refine lv_iload hx hb dL_law_1619 (lv_at hl 0 rfl) ?_
  refine lv_iconst (v := 3) hx hb dL_law_1621 (by decide) ?_
  refine lv_iadd hx hb dL_law_1622 ?_
  refine z_cst (v := 3) (by decide +kernel) ?_
  refine z_sld (v := (xs 3)) (j := 3) hx hb hX hbl hbA hS rfl (Nat.le_of_ble_eq_true rfl) rfl dL_law_1623 ?_
  refine lv_aload_n hx hb dL_law_1624 rfl (lv_at hl 4 rfl) ?_
  refine lv_iload hx hb dL_law_1625 (lv_at hl 0 rfl) ?_
  refine lv_iconst (v := 4) hx hb dL_law_1627 (by decide) ?_
  refine lv_iadd hx hb dL_law_1628 ?_
  refine z_cst (v := 4) (by decide +kernel) ?_
  refine z_sld (v := (xs 4)) (j := 4) hx hb hX hbl hbA hS rfl (Nat.le_of_ble_eq_true rfl) rfl dL_law_1629 ?_
  refine lv_aload_n hx hb dL_law_1630 rfl (lv_at hl 4 rfl) ?_
  refine lv_iload hx hb dL_law_1631 (lv_at hl 0 rfl) ?_
  refine lv_iconst (v := 5) hx hb dL_law_1633 (by decide) ?_
  refine lv_iadd hx hb dL_law_1634 ?_
  refine z_cst (v := 5) (by decide +kernel) ?_
  refine z_sld (v := (xs 5)) (j := 5) hx hb hX hbl hbA hS rfl (Nat.le_of_ble_eq_true rfl) rfl dL_law_1635 ?_
  refine lv_if_eq (tgt := 1643) hx hb dL_law_1636 (by decide) (fun c => absurd c h0) (fun _ => ?_)
  refine lv_iconst (v := 1) hx hb dL_law_1639 (by decide) ?_
  refine lv_goto (tgt := 1644) hx hb dL_law_1640 (by decide) ?_
  refine lv_aload_n hx hb dL_law_1644 rfl (lv_at hl 1 rfl) ?_
  refine z_hcalli [(qx, zO 9 9 (zc0 u v))] [(qm, zO 10 83 (zc71 u v)), (qo, zJ K 1 (fun _ => 0))] [0] [1, 2] hP hD hS hA rfl rfl (by decide +kernel) (by decide +kernel) (by decide +kernel) 125 1863522 rfl rfl (fun hPc hDc hF => z_xrunH (As := [.ref qx, .int (nI t1), .int (xs 2), .int (xs 3), .int (xs 4), .int 1, .ref qo]) (rest := []) ⟨hx, hb, hml, hown, hg⟩ (cL_plainly_11 l hl9 K H.size qx qo (zc0 u v) t1 ht1 (xs 2) (xs 3) (xs 4) (by rw [Int32.lt_iff_toInt_lt, show (0 : Int32).toInt = 0 from by decide]; omega) (by rw [Int32.lt_iff_toInt_lt, show (3 : Int32).toInt = 3 from by decide]; omega)) kS_RL_170 hd_L_plainly rfl rfl ⟨(Nat.le_of_ble_eq_true rfl), (Nat.le_of_ble_eq_true rfl)⟩ hK hS hZ hPc hDc hF rfl hl.1 rfl (Nat.le_of_ble_eq_true rfl) dL_law_1645 ⟨(Nat.le_of_ble_eq_true rfl), (Nat.le_of_ble_eq_true rfl)⟩) (fun r3 u1 H locs w2 hP hD hS => ?_)
  subst w2
  have hP : va_P K.1 classes [(qm, zO 10 83 (zc71 u v)), (qo, zJ K 1 (fun _ => 0))] H := hP
  have hD : va_D A [(qm, zO 10 83 (zc71 u v)), (qo, zJ K 1 (fun _ => 0))] := hD
  refine lv_istore (lv' := [(5, .int 1), (4, .int 0), (3, .ref qo), (2, .ref qm), (1, .ref qx), (0, .ref b)]) hx hb dL_law_1648 hl (by decide) rfl (fun ls hl => ?_)
  refine lv_aload_n hx hb dL_law_1650 rfl (lv_at hl 3 rfl) ?_
  refine lv_aload_n hx hb dL_law_1651 rfl (lv_at hl 5 rfl) ?_
  refine lv_iload hx hb dL_law_1652 (lv_at hl 1 rfl) ?_
  refine lv_iconst (v := 1) hx hb dL_law_1654 (by decide) ?_
  refine lv_iadd hx hb dL_law_1655 ?_
  refine z_cst (v := 1) (by decide +kernel) ?_
  refine z_sld (v := (nI t1)) (j := 1) hx hb hX hbl hbA hS rfl (Nat.le_of_ble_eq_true rfl) v1 dL_law_1656 ?_
  refine lv_aload_n hx hb dL_law_1657 rfl (lv_at hl 5 rfl) ?_
  refine lv_iload hx hb dL_law_1658 (lv_at hl 1 rfl) ?_
  refine lv_iconst (v := 2) hx hb dL_law_1660 (by decide) ?_
  refine lv_iadd hx hb dL_law_1661 ?_
  refine z_cst (v := 2) (by decide +kernel) ?_
  refine z_sld (v := (xs 2)) (j := 2) hx hb hX hbl hbA hS rfl (Nat.le_of_ble_eq_true rfl) rfl dL_law_1662 ?_
  refine lv_aload_n hx hb dL_law_1663 rfl (lv_at hl 5 rfl) ?_
  refine lv_iload hx hb dL_law_1664 (lv_at hl 1 rfl) ?_
  refine lv_iconst (v := 3) hx hb dL_law_1666 (by decide) ?_
  refine lv_iadd hx hb dL_law_1667 ?_
  refine z_cst (v := 3) (by decide +kernel) ?_
  refine z_sld (v := (xs 3)) (j := 3) hx hb hX hbl hbA hS rfl (Nat.le_of_ble_eq_true rfl) rfl dL_law_1668 ?_
  refine lv_aload_n hx hb dL_law_1669 rfl (lv_at hl 5 rfl) ?_
  refine lv_iload hx hb dL_law_1670 (lv_at hl 1 rfl) ?_
  refine lv_iconst (v := 4) hx hb dL_law_1672 (by decide) ?_
  refine lv_iadd hx hb dL_law_1673 ?_
  refine z_cst (v := 4) (by decide +kernel) ?_
  refine z_sld (v := (xs 4)) (j := 4) hx hb hX hbl hbA hS rfl (Nat.le_of_ble_eq_true rfl) rfl dL_law_1674 ?_
  refine lv_aload_n hx hb dL_law_1675 rfl (lv_at hl 5 rfl) ?_
  refine lv_iload hx hb dL_law_1676 (lv_at hl 1 rfl) ?_
  refine lv_iconst (v := 5) hx hb dL_law_1678 (by decide) ?_
  refine lv_iadd hx hb dL_law_1679 ?_
  refine z_cst (v := 5) (by decide +kernel) ?_
  refine z_sld (v := (xs 5)) (j := 5) hx hb hX hbl hbA hS rfl (Nat.le_of_ble_eq_true rfl) rfl dL_law_1680 ?_
  refine lv_if_eq (tgt := 1688) hx hb dL_law_1681 (by decide) (fun c => absurd c h0) (fun _ => ?_)
  refine lv_iconst (v := 1) hx hb dL_law_1684 (by decide) ?_
  refine lv_goto (tgt := 1689) hx hb dL_law_1685 (by decide) ?_
  refine z_calli [(qm, zO 10 83 (zc71 u v))] [(qo, zJ K 1 (fun _ => 0))] [0] [1] hP hD hS hA rfl rfl (by decide +kernel) (by decide +kernel) (by decide +kernel) 125 1863522 rfl rfl (fun hPc hDc hF => z_runV (As := [.int (nI t1), .int (xs 2), .int (xs 3), .int (xs 4), .int 1]) (rest := []) ⟨hx, hb, hml, hown, hg⟩ (cX12_plainly_11 l K H.size qm (zc71 u v) t1 ht1 (xs 2) (xs 3) (xs 4) (by rw [Int32.lt_iff_toInt_lt, show (0 : Int32).toInt = 0 from by decide]; omega) (by rw [Int32.lt_iff_toInt_lt, show (2 : Int32).toInt = 2 from by decide]; omega)) kV_RL_173 hd_X12_plainly rfl rfl ⟨(Nat.le_of_ble_eq_true rfl), (Nat.le_of_ble_eq_true rfl)⟩ hK hS hZ hPc hDc hF 0 rfl rfl rfl hl.1 rfl (Nat.le_of_ble_eq_true rfl) dL_law_1689 ⟨(Nat.le_of_ble_eq_true rfl), (Nat.le_of_ble_eq_true rfl)⟩) (fun r6 u4 H locs w5 hP hD hS => ?_)
  subst w5
  have hP : va_P K.1 classes [(qo, zJ K 1 (fun _ => 0)), (qm, zO 10 83 (va_up (zc71 u v) 81 (.int 1)))] H := hP
  have hD : va_D A [(qo, zJ K 1 (fun _ => 0)), (qm, zO 10 83 (va_up (zc71 u v) 81 (.int 1)))] := hD
  refine lv_istore (lv' := [(6, .int 0), (5, .int 1), (4, .int 0), (3, .ref qo), (2, .ref qm), (1, .ref qx), (0, .ref b)]) hx hb dL_law_1692 hl (by decide) rfl (fun ls hl => ?_)
  refine lv_aload_n hx hb dL_law_1694 rfl (lv_at hl 4 rfl) ?_
  refine z_calli [(qm, zO 10 83 (va_up (zc71 u v) 81 (.int 1)))] [(qo, zJ K 1 (fun _ => 0))] [1] [0] hP hD hS hA rfl rfl (by decide +kernel) (by decide +kernel) (by decide +kernel) 125 1863522 rfl rfl (fun hPc hDc hF => z_runV (As := []) (rest := []) ⟨hx, hb, hml, hown, hg⟩ (cX12_thrown_2 l K H.size qm (va_up (zc71 u v) 81 (.int 1)) zu_eq) kV_RL_104 hd_X12_thrown rfl rfl ⟨(Nat.le_of_ble_eq_true rfl), (Nat.le_of_ble_eq_true rfl)⟩ hK hS hZ hPc hDc hF 0 rfl rfl rfl hl.1 rfl (Nat.le_of_ble_eq_true rfl) dL_law_1695 ⟨(Nat.le_of_ble_eq_true rfl), (Nat.le_of_ble_eq_true rfl)⟩) (fun r9 u7 H locs w8 hP hD hS => ?_)
  subst w8
  have hP : va_P K.1 classes [(qo, zJ K 1 (fun _ => 0)), (qm, zO 10 83 (va_up (zc71 u v) 81 (.int 1)))] H := hP
  have hD : va_D A [(qo, zJ K 1 (fun _ => 0)), (qm, zO 10 83 (va_up (zc71 u v) 81 (.int 1)))] := hD
  refine lv_iload hx hb dL_law_1698 (lv_at hl 1 rfl) ?_
  refine lv_icmp_eq (tgt := 1705) hx hb dL_law_1700 (by decide) (fun _ => ?_) (fun c => absurd (by decide) c)
  refine lv_iload hx hb dL_law_1705 (lv_at hl 1 rfl) ?_
  refine lv_if_ne (tgt := 1722) hx hb dL_law_1707 (by decide) (fun _ => ?_) (fun c => absurd c (by decide))
  refine lv_goto (tgt := 2026) hx hb dL_law_1722 (by decide) ?_
  exact law_back ⟨hx, hb, hr, hml, hown, hg, hX, hbl, hlocks, hK, hZ, hl9, hAA, hA, hbA⟩ (Nat.le_of_ble_eq_true rfl) (Nat.le_of_ble_eq_true rfl) hS (lv_sub hl [2, 6] rfl)
set_option maxHeartbeats 4000000 in
set_option maxRecDepth 100000 in
theorem lawS_20_11 {p : Program} {l : Launch} {e : Env} {s : State} {m : MethodId} {below : List Frame} {meth : Method} {c : Code} {b : Nat} {xs : Nat → Int32} {K : zK} {A : Nat → Prop} {H : Heap} {locs : List Loc} {ls : Array Slot} (C : zC p l s m meth c b xs K A) (qx qm qo : Nat) (u v : Nat → Nat) (h0 : ¬ xs 5 = 0) (h1 : 0 ≤ (xs 1).toInt) (h2 : 8 ≤ (xs 1).toInt) (hP : va_P K.1 classes (lwW K qx qm qo u v) H) (hD : va_D A (lwW K qx qm qo u v)) (hS : va_S A s.heap H locs) (hl : lv_has ls 7 [(4, .int 0), (3, .ref qo), (2, .ref qm), (1, .ref qx), (0, .ref b)]) : W p l e room_1 s m #[Value.ref b] below meth c H locs 124 1863516 (lw_Z below #[Value.ref b] s) (F0 m 1605 ls []) := by
  obtain ⟨hx, hb, hr, hml, hown, hg, hX, hbl, hlocks, hK, hZ, hl9, hAA, hA, hbA⟩ := C
  have hP : va_P K.1 classes [(qx, zO 9 9 (zc0 u v)), (qm, zO 10 83 (zc71 u v)), (qo, zJ K 1 (fun _ => 0))] H := hP.sub [0, 71, 123] rfl
  have hD : va_D A [(qx, zO 9 9 (zc0 u v)), (qm, zO 10 83 (zc71 u v)), (qo, zJ K 1 (fun _ => 0))] := hD.sub [0, 71, 123] (by decide +kernel) rfl
  refine lv_aload_n hx hb dL_law_1605 rfl (lv_at hl 3 rfl) ?_
  refine lv_aload_n hx hb dL_law_1606 rfl (lv_at hl 4 rfl) ?_
  refine lv_iload hx hb dL_law_1607 (lv_at hl 0 rfl) ?_
  refine lv_iconst (v := 1) hx hb dL_law_1609 (by decide) ?_
  refine lv_iadd hx hb dL_law_1610 ?_
  refine z_cst (v := 1) (by decide +kernel) ?_
  refine z_sld (v := (xs 1)) (j := 1) hx hb hX hbl hbA hS rfl (Nat.le_of_ble_eq_true rfl) rfl dL_law_1611 ?_
  refine lv_aload_n hx hb dL_law_1612 rfl (lv_at hl 4 rfl) ?_
  refine lv_iload hx hb dL_law_1613 (lv_at hl 0 rfl) ?_
  refine lv_iconst (v := 2) hx hb dL_law_1615 (by decide) ?_
  refine lv_iadd hx hb dL_law_1616 ?_
  refine z_cst (v := 2) (by decide +kernel) ?_
  refine z_sld (v := (xs 2)) (j := 2) hx hb hX hbl hbA hS rfl (Nat.le_of_ble_eq_true rfl) rfl dL_law_1617 ?_
  refine lv_aload_n hx hb dL_law_1618 rfl (lv_at hl 4 rfl) ?_
  refine lv_iload hx hb dL_law_1619 (lv_at hl 0 rfl) ?_
  refine lv_iconst (v := 3) hx hb dL_law_1621 (by decide) ?_
  refine lv_iadd hx hb dL_law_1622 ?_
  refine z_cst (v := 3) (by decide +kernel) ?_
  refine z_sld (v := (xs 3)) (j := 3) hx hb hX hbl hbA hS rfl (Nat.le_of_ble_eq_true rfl) rfl dL_law_1623 ?_
  refine lv_aload_n hx hb dL_law_1624 rfl (lv_at hl 4 rfl) ?_
  refine lv_iload hx hb dL_law_1625 (lv_at hl 0 rfl) ?_
  refine lv_iconst (v := 4) hx hb dL_law_1627 (by decide) ?_
  refine lv_iadd hx hb dL_law_1628 ?_
  refine z_cst (v := 4) (by decide +kernel) ?_
  refine z_sld (v := (xs 4)) (j := 4) hx hb hX hbl hbA hS rfl (Nat.le_of_ble_eq_true rfl) rfl dL_law_1629 ?_
  refine lv_aload_n hx hb dL_law_1630 rfl (lv_at hl 4 rfl) ?_
  refine lv_iload hx hb dL_law_1631 (lv_at hl 0 rfl) ?_
  refine lv_iconst (v := 5) hx hb dL_law_1633 (by decide) ?_
  refine lv_iadd hx hb dL_law_1634 ?_
  refine z_cst (v := 5) (by decide +kernel) ?_
  refine z_sld (v := (xs 5)) (j := 5) hx hb hX hbl hbA hS rfl (Nat.le_of_ble_eq_true rfl) rfl dL_law_1635 ?_
  refine lv_if_eq (tgt := 1643) hx hb dL_law_1636 (by decide) (fun c => absurd c h0) (fun _ => ?_)
  refine lv_iconst (v := 1) hx hb dL_law_1639 (by decide) ?_
  refine lv_goto (tgt := 1644) hx hb dL_law_1640 (by decide) ?_
  refine lv_aload_n hx hb dL_law_1644 rfl (lv_at hl 1 rfl) ?_
  refine z_hcalli [(qx, zO 9 9 (zc0 u v))] [(qm, zO 10 83 (zc71 u v)), (qo, zJ K 1 (fun _ => 0))] [0] [1, 2] hP hD hS hA rfl rfl (by decide +kernel) (by decide +kernel) (by decide +kernel) 125 1863522 rfl rfl (fun hPc hDc hF => z_xrunH (As := [.ref qx, .int (xs 1), .int (xs 2), .int (xs 3), .int (xs 4), .int 1, .ref qo]) (rest := []) ⟨hx, hb, hml, hown, hg⟩ (cL_plainly_12 l hl9 K H.size qx qo (zc0 u v) (xs 1) (xs 2) (xs 3) (xs 4) (by rw [Int32.lt_iff_toInt_lt, show (0 : Int32).toInt = 0 from by decide]; omega) (by rw [Int32.lt_iff_toInt_lt, show (8 : Int32).toInt = 8 from by decide]; omega)) kS_RL_170 hd_L_plainly rfl rfl ⟨(Nat.le_of_ble_eq_true rfl), (Nat.le_of_ble_eq_true rfl)⟩ hK hS hZ hPc hDc hF rfl hl.1 rfl (Nat.le_of_ble_eq_true rfl) dL_law_1645 ⟨(Nat.le_of_ble_eq_true rfl), (Nat.le_of_ble_eq_true rfl)⟩) (fun r3 u1 H locs w2 hP hD hS => ?_)
  subst w2
  have hP : va_P K.1 classes [(qm, zO 10 83 (zc71 u v)), (qo, zJ K 1 (fun _ => 0))] H := hP
  have hD : va_D A [(qm, zO 10 83 (zc71 u v)), (qo, zJ K 1 (fun _ => 0))] := hD
  refine lv_istore (lv' := [(5, .int 1), (4, .int 0), (3, .ref qo), (2, .ref qm), (1, .ref qx), (0, .ref b)]) hx hb dL_law_1648 hl (by decide) rfl (fun ls hl => ?_)
  refine lv_aload_n hx hb dL_law_1650 rfl (lv_at hl 3 rfl) ?_
  refine lv_aload_n hx hb dL_law_1651 rfl (lv_at hl 5 rfl) ?_
  refine lv_iload hx hb dL_law_1652 (lv_at hl 1 rfl) ?_
  refine lv_iconst (v := 1) hx hb dL_law_1654 (by decide) ?_
  refine lv_iadd hx hb dL_law_1655 ?_
  refine z_cst (v := 1) (by decide +kernel) ?_
  refine z_sld (v := (xs 1)) (j := 1) hx hb hX hbl hbA hS rfl (Nat.le_of_ble_eq_true rfl) rfl dL_law_1656 ?_
  refine lv_aload_n hx hb dL_law_1657 rfl (lv_at hl 5 rfl) ?_
  refine lv_iload hx hb dL_law_1658 (lv_at hl 1 rfl) ?_
  refine lv_iconst (v := 2) hx hb dL_law_1660 (by decide) ?_
  refine lv_iadd hx hb dL_law_1661 ?_
  refine z_cst (v := 2) (by decide +kernel) ?_
  refine z_sld (v := (xs 2)) (j := 2) hx hb hX hbl hbA hS rfl (Nat.le_of_ble_eq_true rfl) rfl dL_law_1662 ?_
  refine lv_aload_n hx hb dL_law_1663 rfl (lv_at hl 5 rfl) ?_
  refine lv_iload hx hb dL_law_1664 (lv_at hl 1 rfl) ?_
  refine lv_iconst (v := 3) hx hb dL_law_1666 (by decide) ?_
  refine lv_iadd hx hb dL_law_1667 ?_
  refine z_cst (v := 3) (by decide +kernel) ?_
  refine z_sld (v := (xs 3)) (j := 3) hx hb hX hbl hbA hS rfl (Nat.le_of_ble_eq_true rfl) rfl dL_law_1668 ?_
  refine lv_aload_n hx hb dL_law_1669 rfl (lv_at hl 5 rfl) ?_
  refine lv_iload hx hb dL_law_1670 (lv_at hl 1 rfl) ?_
  refine lv_iconst (v := 4) hx hb dL_law_1672 (by decide) ?_
  refine lv_iadd hx hb dL_law_1673 ?_
  refine z_cst (v := 4) (by decide +kernel) ?_
  refine z_sld (v := (xs 4)) (j := 4) hx hb hX hbl hbA hS rfl (Nat.le_of_ble_eq_true rfl) rfl dL_law_1674 ?_
  refine lv_aload_n hx hb dL_law_1675 rfl (lv_at hl 5 rfl) ?_
  refine lv_iload hx hb dL_law_1676 (lv_at hl 1 rfl) ?_
  refine lv_iconst (v := 5) hx hb dL_law_1678 (by decide) ?_
  refine lv_iadd hx hb dL_law_1679 ?_
  refine z_cst (v := 5) (by decide +kernel) ?_
  refine z_sld (v := (xs 5)) (j := 5) hx hb hX hbl hbA hS rfl (Nat.le_of_ble_eq_true rfl) rfl dL_law_1680 ?_
  refine lv_if_eq (tgt := 1688) hx hb dL_law_1681 (by decide) (fun c => absurd c h0) (fun _ => ?_)
  refine lv_iconst (v := 1) hx hb dL_law_1684 (by decide) ?_
  refine lv_goto (tgt := 1689) hx hb dL_law_1685 (by decide) ?_
  refine z_calli [(qm, zO 10 83 (zc71 u v))] [(qo, zJ K 1 (fun _ => 0))] [0] [1] hP hD hS hA rfl rfl (by decide +kernel) (by decide +kernel) (by decide +kernel) 125 1863522 rfl rfl (fun hPc hDc hF => z_runV (As := [.int (xs 1), .int (xs 2), .int (xs 3), .int (xs 4), .int 1]) (rest := []) ⟨hx, hb, hml, hown, hg⟩ (cX12_plainly_12 l K H.size qm (zc71 u v) (xs 1) (xs 2) (xs 3) (xs 4) (by rw [Int32.lt_iff_toInt_lt, show (0 : Int32).toInt = 0 from by decide]; omega) (by rw [Int32.lt_iff_toInt_lt, show (7 : Int32).toInt = 7 from by decide]; omega)) kV_RL_173 hd_X12_plainly rfl rfl ⟨(Nat.le_of_ble_eq_true rfl), (Nat.le_of_ble_eq_true rfl)⟩ hK hS hZ hPc hDc hF 0 rfl rfl rfl hl.1 rfl (Nat.le_of_ble_eq_true rfl) dL_law_1689 ⟨(Nat.le_of_ble_eq_true rfl), (Nat.le_of_ble_eq_true rfl)⟩) (fun r6 u4 H locs w5 hP hD hS => ?_)
  subst w5
  have hP : va_P K.1 classes [(qo, zJ K 1 (fun _ => 0)), (qm, zO 10 83 (va_up (zc71 u v) 81 (.int 1)))] H := hP
  have hD : va_D A [(qo, zJ K 1 (fun _ => 0)), (qm, zO 10 83 (va_up (zc71 u v) 81 (.int 1)))] := hD
  refine lv_istore (lv' := [(6, .int 0), (5, .int 1), (4, .int 0), (3, .ref qo), (2, .ref qm), (1, .ref qx), (0, .ref b)]) hx hb dL_law_1692 hl (by decide) rfl (fun ls hl => ?_)
  refine lv_aload_n hx hb dL_law_1694 rfl (lv_at hl 4 rfl) ?_
  refine z_calli [(qm, zO 10 83 (va_up (zc71 u v) 81 (.int 1)))] [(qo, zJ K 1 (fun _ => 0))] [1] [0] hP hD hS hA rfl rfl (by decide +kernel) (by decide +kernel) (by decide +kernel) 125 1863522 rfl rfl (fun hPc hDc hF => z_runV (As := []) (rest := []) ⟨hx, hb, hml, hown, hg⟩ (cX12_thrown_2 l K H.size qm (va_up (zc71 u v) 81 (.int 1)) zu_eq) kV_RL_104 hd_X12_thrown rfl rfl ⟨(Nat.le_of_ble_eq_true rfl), (Nat.le_of_ble_eq_true rfl)⟩ hK hS hZ hPc hDc hF 0 rfl rfl rfl hl.1 rfl (Nat.le_of_ble_eq_true rfl) dL_law_1695 ⟨(Nat.le_of_ble_eq_true rfl), (Nat.le_of_ble_eq_true rfl)⟩) (fun r9 u7 H locs w8 hP hD hS => ?_)
  subst w8
  have hP : va_P K.1 classes [(qo, zJ K 1 (fun _ => 0)), (qm, zO 10 83 (va_up (zc71 u v) 81 (.int 1)))] H := hP
  have hD : va_D A [(qo, zJ K 1 (fun _ => 0)), (qm, zO 10 83 (va_up (zc71 u v) 81 (.int 1)))] := hD
  refine lv_iload hx hb dL_law_1698 (lv_at hl 1 rfl) ?_
  refine lv_icmp_eq (tgt := 1705) hx hb dL_law_1700 (by decide) (fun _ => ?_) (fun c => absurd (by decide) c)
  refine lv_iload hx hb dL_law_1705 (lv_at hl 1 rfl) ?_
  refine lv_if_ne (tgt := 1722) hx hb dL_law_1707 (by decide) (fun _ => ?_) (fun c => absurd c (by decide))
  refine lv_goto (tgt := 2026) hx hb dL_law_1722 (by decide) ?_
  exact law_back ⟨hx, hb, hr, hml, hown, hg, hX, hbl, hlocks, hK, hZ, hl9, hAA, hA, hbA⟩ (Nat.le_of_ble_eq_true rfl) (Nat.le_of_ble_eq_true rfl) hS (lv_sub hl [2, 6] rfl)
theorem lawC_20 {p : Program} {l : Launch} {e : Env} {s : State} {m : MethodId} {below : List Frame} {meth : Method} {c : Code} {b : Nat} {xs : Nat → Int32} {K : zK} {A : Nat → Prop} {H : Heap} {locs : List Loc} {ls : Array Slot} (C : zC p l s m meth c b xs K A) (qx qm qo : Nat) (u v : Nat → Nat) (hP : va_P K.1 classes (lwW K qx qm qo u v) H) (hD : va_D A (lwW K qx qm qo u v)) (hS : va_S A s.heap H locs) (hl : lv_has ls 7 [(4, .int 0), (3, .ref qo), (2, .ref qm), (1, .ref qx), (0, .ref b)]) : W p l e room_1 s m #[Value.ref b] below meth c H locs 124 1863516 (lw_Z below #[Value.ref b] s) (F0 m 1605 ls []) := by
  rcases Classical.em (xs 5 = 0) with h0 | h0
  · rcases z_split (xs 1) (0) with h1 | h1
    · exact lawS_20_0 C qx qm qo u v h0 h1 hP hD hS hl
    · rcases z_split (xs 1) (8) with h2 | h2
      · rcases z_split (xs 2) (0) with h3 | h3
        · exact lawS_20_1 C qx qm qo u v h0 h1 h2 h3 hP hD hS hl
        · rcases z_split (xs 2) (3) with h4 | h4
          · rcases z_split (xs 2) (1) with h5 | h5
            · exact lawS_20_2 C qx qm qo u v h0 h1 h2 h3 h4 h5 hP hD hS hl
            · rcases z_split (xs 2) (2) with h6 | h6
              · exact lawS_20_3 C qx qm qo u v h0 h1 h2 h3 h4 h5 h6 hP hD hS hl
              · exact lawS_20_4 C qx qm qo u v h0 h1 h2 h3 h4 h5 h6 hP hD hS hl
          · exact lawS_20_5 C qx qm qo u v h0 h1 h2 h3 h4 hP hD hS hl
      · exact lawS_20_6 C qx qm qo u v h0 h1 h2 hP hD hS hl
  · rcases z_split (xs 1) (0) with h1 | h1
    · exact lawS_20_7 C qx qm qo u v h0 h1 hP hD hS hl
    · rcases z_split (xs 1) (8) with h2 | h2
      · rcases z_split (xs 2) (0) with h3 | h3
        · exact lawS_20_8 C qx qm qo u v h0 h1 h2 h3 hP hD hS hl
        · rcases z_split (xs 2) (3) with h4 | h4
          · exact lawS_20_9 C qx qm qo u v h0 h1 h2 h3 h4 hP hD hS hl
          · exact lawS_20_10 C qx qm qo u v h0 h1 h2 h3 h4 hP hD hS hl
      · exact lawS_20_11 C qx qm qo u v h0 h1 h2 hP hD hS hl
set_option maxHeartbeats 4000000 in
set_option maxRecDepth 100000 in
theorem lawS_21_0 {p : Program} {l : Launch} {e : Env} {s : State} {m : MethodId} {below : List Frame} {meth : Method} {c : Code} {b : Nat} {xs : Nat → Int32} {K : zK} {A : Nat → Prop} {H : Heap} {locs : List Loc} {ls : Array Slot} (C : zC p l s m meth c b xs K A) (qx qm qo : Nat) (u v : Nat → Nat) (hP : va_P K.1 classes (lwW K qx qm qo u v) H) (hD : va_D A (lwW K qx qm qo u v)) (hS : va_S A s.heap H locs) (hl : lv_has ls 7 [(4, .int 0), (3, .ref qo), (2, .ref qm), (1, .ref qx), (0, .ref b)]) : W p l e room_1 s m #[Value.ref b] below meth c H locs 124 1863516 (lw_Z below #[Value.ref b] s) (F0 m 1725 ls []) := by
  obtain ⟨hx, hb, hr, hml, hown, hg, hX, hbl, hlocks, hK, hZ, hl9, hAA, hA, hbA⟩ := C
  have hP : va_P K.1 classes [(qx, zO 9 9 (zc0 u v)), ((u 59), zO 1 18 (zc60 u v)), (qm, zO 10 83 (zc71 u v)), (qo, zJ K 1 (fun _ => 0))] H := hP.sub [0, 60, 71, 123] rfl
  have hD : va_D A [(qx, zO 9 9 (zc0 u v)), ((u 59), zO 1 18 (zc60 u v)), (qm, zO 10 83 (zc71 u v)), (qo, zJ K 1 (fun _ => 0))] := hD.sub [0, 60, 71, 123] (by decide +kernel) rfl
  refine lv_aload_n hx hb dL_law_1725 rfl (lv_at hl 3 rfl) ?_
  refine z_calli [(qx, zO 9 9 (zc0 u v)), ((u 59), zO 1 18 (zc60 u v))] [(qm, zO 10 83 (zc71 u v)), (qo, zJ K 1 (fun _ => 0))] [0, 1] [2, 3] hP hD hS hA rfl rfl (by decide +kernel) (by decide +kernel) (by decide +kernel) 124 1863516 rfl rfl (fun hPc hDc hF => z_runV (As := []) (rest := []) ⟨hx, hb, hml, hown, hg⟩ (cX11_value_1 l K H.size qx (u 59) (zc0 u v) (zc60 u v) (zc0_7 u v) (zc60_17 u v)) kV_RL_174 hd_X11_value rfl rfl ⟨(Nat.le_of_ble_eq_true rfl), (Nat.le_of_ble_eq_true rfl)⟩ hK hS hZ hPc hDc hF 0 rfl rfl rfl hl.1 rfl (Nat.le_of_ble_eq_true rfl) dL_law_1726 ⟨(Nat.le_of_ble_eq_true rfl), (Nat.le_of_ble_eq_true rfl)⟩) (fun r3 u1 H locs w2 hP hD hS => ?_)
  subst w2
  have hP : va_P K.1 classes [(qm, zO 10 83 (zc71 u v)), (qo, zJ K 1 (fun _ => 0))] H := hP
  have hD : va_D A [(qm, zO 10 83 (zc71 u v)), (qo, zJ K 1 (fun _ => 0))] := hD
  refine lv_aload_n hx hb dL_law_1729 rfl (lv_at hl 2 rfl) ?_
  refine z_calli [(qm, zO 10 83 (zc71 u v))] [(qo, zJ K 1 (fun _ => 0))] [0] [1] hP hD hS hA rfl rfl (by decide +kernel) (by decide +kernel) (by decide +kernel) 124 1863516 rfl rfl (fun hPc hDc hF => z_runV (As := []) (rest := [.int 0]) ⟨hx, hb, hml, hown, hg⟩ (cX12_value_1 l K H.size qm (zc71 u v) (zc71_79 u v)) kV_RL_177 hd_X12_value rfl rfl ⟨(Nat.le_of_ble_eq_true rfl), (Nat.le_of_ble_eq_true rfl)⟩ hK hS hZ hPc hDc hF 0 rfl rfl rfl hl.1 rfl (Nat.le_of_ble_eq_true rfl) dL_law_1730 ⟨(Nat.le_of_ble_eq_true rfl), (Nat.le_of_ble_eq_true rfl)⟩) (fun r6 u4 H locs w5 hP hD hS => ?_)
  subst w5
  have hP : va_P K.1 classes [(qo, zJ K 1 (fun _ => 0)), (qm, zO 10 83 (va_up (zc71 u v) 81 (.int 0)))] H := hP
  have hD : va_D A [(qo, zJ K 1 (fun _ => 0)), (qm, zO 10 83 (va_up (zc71 u v) 81 (.int 0)))] := hD
  refine lv_icmp_eq (tgt := 2026) hx hb dL_law_1733 (by decide) (fun _ => ?_) (fun c => absurd (by decide) c)
  exact law_back ⟨hx, hb, hr, hml, hown, hg, hX, hbl, hlocks, hK, hZ, hl9, hAA, hA, hbA⟩ (Nat.le_of_ble_eq_true rfl) (Nat.le_of_ble_eq_true rfl) hS (lv_sub hl [0, 4] rfl)
theorem lawC_21 {p : Program} {l : Launch} {e : Env} {s : State} {m : MethodId} {below : List Frame} {meth : Method} {c : Code} {b : Nat} {xs : Nat → Int32} {K : zK} {A : Nat → Prop} {H : Heap} {locs : List Loc} {ls : Array Slot} (C : zC p l s m meth c b xs K A) (qx qm qo : Nat) (u v : Nat → Nat) (hP : va_P K.1 classes (lwW K qx qm qo u v) H) (hD : va_D A (lwW K qx qm qo u v)) (hS : va_S A s.heap H locs) (hl : lv_has ls 7 [(4, .int 0), (3, .ref qo), (2, .ref qm), (1, .ref qx), (0, .ref b)]) : W p l e room_1 s m #[Value.ref b] below meth c H locs 124 1863516 (lw_Z below #[Value.ref b] s) (F0 m 1725 ls []) := by
  exact lawS_21_0 C qx qm qo u v hP hD hS hl
set_option maxHeartbeats 4000000 in
set_option maxRecDepth 100000 in
theorem lawS_22_0 {p : Program} {l : Launch} {e : Env} {s : State} {m : MethodId} {below : List Frame} {meth : Method} {c : Code} {b : Nat} {xs : Nat → Int32} {K : zK} {A : Nat → Prop} {H : Heap} {locs : List Loc} {ls : Array Slot} (C : zC p l s m meth c b xs K A) (qx qm qo : Nat) (u v : Nat → Nat) (h0 : (xs 1).toInt < 0) (hP : va_P K.1 classes (lwW K qx qm qo u v) H) (hD : va_D A (lwW K qx qm qo u v)) (hS : va_S A s.heap H locs) (hl : lv_has ls 7 [(4, .int 0), (3, .ref qo), (2, .ref qm), (1, .ref qx), (0, .ref b)]) : W p l e room_1 s m #[Value.ref b] below meth c H locs 124 1863516 (lw_Z below #[Value.ref b] s) (F0 m 1738 ls []) := by
  obtain ⟨hx, hb, hr, hml, hown, hg, hX, hbl, hlocks, hK, hZ, hl9, hAA, hA, hbA⟩ := C
  have hP : va_P K.1 classes [(qx, zO 9 9 (zc0 u v)), (qm, zO 10 83 (zc71 u v)), (qo, zJ K 1 (fun _ => 0))] H := hP.sub [0, 71, 123] rfl
  have hD : va_D A [(qx, zO 9 9 (zc0 u v)), (qm, zO 10 83 (zc71 u v)), (qo, zJ K 1 (fun _ => 0))] := hD.sub [0, 71, 123] (by decide +kernel) rfl
  refine lv_aload_n hx hb dL_law_1738 rfl (lv_at hl 3 rfl) ?_
  refine lv_aload_n hx hb dL_law_1739 rfl (lv_at hl 4 rfl) ?_
  refine lv_iload hx hb dL_law_1740 (lv_at hl 0 rfl) ?_
  refine lv_iconst (v := 1) hx hb dL_law_1742 (by decide) ?_
  refine lv_iadd hx hb dL_law_1743 ?_
  refine z_cst (v := 1) (by decide +kernel) ?_
  refine z_sld (v := (xs 1)) (j := 1) hx hb hX hbl hbA hS rfl (Nat.le_of_ble_eq_true rfl) rfl dL_law_1744 ?_
  refine lv_aload_n hx hb dL_law_1745 rfl (lv_at hl 1 rfl) ?_
  refine z_hcalli [(qx, zO 9 9 (zc0 u v))] [(qm, zO 10 83 (zc71 u v)), (qo, zJ K 1 (fun _ => 0))] [0] [1, 2] hP hD hS hA rfl rfl (by decide +kernel) (by decide +kernel) (by decide +kernel) 125 1863522 rfl rfl (fun hPc hDc hF => z_xrunH (As := [.ref qx, .int (xs 1), .ref qo]) (rest := []) ⟨hx, hb, hml, hown, hg⟩ (cL_count_1 l hl9 K H.size qx qo (zc0 u v) (xs 1) (by rw [Int32.lt_iff_toInt_lt, show (0 : Int32).toInt = 0 from by decide]; omega)) kS_RL_178 hd_L_count rfl rfl ⟨(Nat.le_of_ble_eq_true rfl), (Nat.le_of_ble_eq_true rfl)⟩ hK hS hZ hPc hDc hF rfl hl.1 rfl (Nat.le_of_ble_eq_true rfl) dL_law_1746 ⟨(Nat.le_of_ble_eq_true rfl), (Nat.le_of_ble_eq_true rfl)⟩) (fun r3 u1 H locs w2 hP hD hS => ?_)
  subst w2
  have hP : va_P K.1 classes [(qm, zO 10 83 (zc71 u v)), (qo, zJ K 1 (fun _ => 0))] H := hP
  have hD : va_D A [(qm, zO 10 83 (zc71 u v)), (qo, zJ K 1 (fun _ => 0))] := hD
  refine lv_istore (lv' := [(5, .int 1), (4, .int 0), (3, .ref qo), (2, .ref qm), (1, .ref qx), (0, .ref b)]) hx hb dL_law_1749 hl (by decide) rfl (fun ls hl => ?_)
  refine lv_aload_n hx hb dL_law_1751 rfl (lv_at hl 3 rfl) ?_
  refine lv_aload_n hx hb dL_law_1752 rfl (lv_at hl 5 rfl) ?_
  refine lv_iload hx hb dL_law_1753 (lv_at hl 1 rfl) ?_
  refine lv_iconst (v := 1) hx hb dL_law_1755 (by decide) ?_
  refine lv_iadd hx hb dL_law_1756 ?_
  refine z_cst (v := 1) (by decide +kernel) ?_
  refine z_sld (v := (xs 1)) (j := 1) hx hb hX hbl hbA hS rfl (Nat.le_of_ble_eq_true rfl) rfl dL_law_1757 ?_
  refine z_calli [(qm, zO 10 83 (zc71 u v))] [(qo, zJ K 1 (fun _ => 0))] [0] [1] hP hD hS hA rfl rfl (by decide +kernel) (by decide +kernel) (by decide +kernel) 125 1863522 rfl rfl (fun hPc hDc hF => z_runV (As := [.int (xs 1)]) (rest := []) ⟨hx, hb, hml, hown, hg⟩ (cX12_count_1 l K H.size qm (zc71 u v) (xs 1) (by rw [Int32.lt_iff_toInt_lt, show (0 : Int32).toInt = 0 from by decide]; omega)) kV_RL_180 hd_X12_count rfl rfl ⟨(Nat.le_of_ble_eq_true rfl), (Nat.le_of_ble_eq_true rfl)⟩ hK hS hZ hPc hDc hF 0 rfl rfl rfl hl.1 rfl (Nat.le_of_ble_eq_true rfl) dL_law_1758 ⟨(Nat.le_of_ble_eq_true rfl), (Nat.le_of_ble_eq_true rfl)⟩) (fun r6 u4 H locs w5 hP hD hS => ?_)
  subst w5
  have hP : va_P K.1 classes [(qo, zJ K 1 (fun _ => 0)), (qm, zO 10 83 (va_up (zc71 u v) 81 (.int 1)))] H := hP
  have hD : va_D A [(qo, zJ K 1 (fun _ => 0)), (qm, zO 10 83 (va_up (zc71 u v) 81 (.int 1)))] := hD
  refine lv_istore (lv' := [(6, .int 0), (5, .int 1), (4, .int 0), (3, .ref qo), (2, .ref qm), (1, .ref qx), (0, .ref b)]) hx hb dL_law_1761 hl (by decide) rfl (fun ls hl => ?_)
  refine lv_aload_n hx hb dL_law_1763 rfl (lv_at hl 4 rfl) ?_
  refine z_calli [(qm, zO 10 83 (va_up (zc71 u v) 81 (.int 1)))] [(qo, zJ K 1 (fun _ => 0))] [1] [0] hP hD hS hA rfl rfl (by decide +kernel) (by decide +kernel) (by decide +kernel) 125 1863522 rfl rfl (fun hPc hDc hF => z_runV (As := []) (rest := []) ⟨hx, hb, hml, hown, hg⟩ (cX12_thrown_2 l K H.size qm (va_up (zc71 u v) 81 (.int 1)) zu_eq) kV_RL_104 hd_X12_thrown rfl rfl ⟨(Nat.le_of_ble_eq_true rfl), (Nat.le_of_ble_eq_true rfl)⟩ hK hS hZ hPc hDc hF 0 rfl rfl rfl hl.1 rfl (Nat.le_of_ble_eq_true rfl) dL_law_1764 ⟨(Nat.le_of_ble_eq_true rfl), (Nat.le_of_ble_eq_true rfl)⟩) (fun r9 u7 H locs w8 hP hD hS => ?_)
  subst w8
  have hP : va_P K.1 classes [(qo, zJ K 1 (fun _ => 0)), (qm, zO 10 83 (va_up (zc71 u v) 81 (.int 1)))] H := hP
  have hD : va_D A [(qo, zJ K 1 (fun _ => 0)), (qm, zO 10 83 (va_up (zc71 u v) 81 (.int 1)))] := hD
  refine lv_iload hx hb dL_law_1767 (lv_at hl 1 rfl) ?_
  refine lv_icmp_eq (tgt := 1774) hx hb dL_law_1769 (by decide) (fun _ => ?_) (fun c => absurd (by decide) c)
  refine lv_iload hx hb dL_law_1774 (lv_at hl 1 rfl) ?_
  refine lv_if_ne (tgt := 1791) hx hb dL_law_1776 (by decide) (fun _ => ?_) (fun c => absurd c (by decide))
  refine lv_goto (tgt := 2026) hx hb dL_law_1791 (by decide) ?_
  exact law_back ⟨hx, hb, hr, hml, hown, hg, hX, hbl, hlocks, hK, hZ, hl9, hAA, hA, hbA⟩ (Nat.le_of_ble_eq_true rfl) (Nat.le_of_ble_eq_true rfl) hS (lv_sub hl [2, 6] rfl)
set_option maxHeartbeats 4000000 in
set_option maxRecDepth 100000 in
theorem lawS_22_1 {p : Program} {l : Launch} {e : Env} {s : State} {m : MethodId} {below : List Frame} {meth : Method} {c : Code} {b : Nat} {xs : Nat → Int32} {K : zK} {A : Nat → Prop} {H : Heap} {locs : List Loc} {ls : Array Slot} (C : zC p l s m meth c b xs K A) (qx qm qo : Nat) (u v : Nat → Nat) (h0 : 0 ≤ (xs 1).toInt) (h1 : (xs 1).toInt < 10) (hP : va_P K.1 classes (lwW K qx qm qo u v) H) (hD : va_D A (lwW K qx qm qo u v)) (hS : va_S A s.heap H locs) (hl : lv_has ls 7 [(4, .int 0), (3, .ref qo), (2, .ref qm), (1, .ref qx), (0, .ref b)]) : W p l e room_1 s m #[Value.ref b] below meth c H locs 124 1863516 (lw_Z below #[Value.ref b] s) (F0 m 1738 ls []) := by
  obtain ⟨hx, hb, hr, hml, hown, hg, hX, hbl, hlocks, hK, hZ, hl9, hAA, hA, hbA⟩ := C
  have hP : va_P K.1 classes [(qx, zO 9 9 (zc0 u v)), ((u 59), zO 1 18 (zc60 u v)), ((u 68), zI K 10 (fun _ => 0)), (qm, zO 10 83 (zc71 u v)), ((v 49), zI K 10 (fun _ => 0)), (qo, zJ K 1 (fun _ => 0))] H := hP.sub [0, 60, 69, 71, 121, 123] rfl
  have hD : va_D A [(qx, zO 9 9 (zc0 u v)), ((u 59), zO 1 18 (zc60 u v)), ((u 68), zI K 10 (fun _ => 0)), (qm, zO 10 83 (zc71 u v)), ((v 49), zI K 10 (fun _ => 0)), (qo, zJ K 1 (fun _ => 0))] := hD.sub [0, 60, 69, 71, 121, 123] (by decide +kernel) rfl
  obtain ⟨t1, ht1, v1⟩ : ∃ j : Nat, j < 10 ∧ xs 1 = nI j := z_nat (n := 10) (by omega) (by omega) (by decide)
  refine lv_aload_n hx hb dL_law_1738 rfl (lv_at hl 3 rfl) ?_
  refine lv_aload_n hx hb dL_law_1739 rfl (lv_at hl 4 rfl) ?_
  refine lv_iload hx hb dL_law_1740 (lv_at hl 0 rfl) ?_
  refine lv_iconst (v := 1) hx hb dL_law_1742 (by decide) ?_
  refine lv_iadd hx hb dL_law_1743 ?_
  refine z_cst (v := 1) (by decide +kernel) ?_
  refine z_sld (v := (nI t1)) (j := 1) hx hb hX hbl hbA hS rfl (Nat.le_of_ble_eq_true rfl) v1 dL_law_1744 ?_
  refine lv_aload_n hx hb dL_law_1745 rfl (lv_at hl 1 rfl) ?_
  refine z_hcalli [(qx, zO 9 9 (zc0 u v)), ((u 59), zO 1 18 (zc60 u v)), ((u 68), zI K 10 (fun _ => 0)), (qo, zJ K 1 (fun _ => 0))] [(qm, zO 10 83 (zc71 u v)), ((v 49), zI K 10 (fun _ => 0))] [0, 1, 2, 5] [3, 4] hP hD hS hA rfl rfl (by decide +kernel) (by decide +kernel) (by decide +kernel) 124 1863516 rfl rfl (fun hPc hDc hF => z_xrunH (As := [.ref qx, .int (nI t1), .ref qo]) (rest := []) ⟨hx, hb, hml, hown, hg⟩ (cL_count_2 l hl9 K H.size qx qo (u 59) (u 68) (zc0 u v) (zc60 u v) (fun _ => 0) (fun _ => 0) t1 ht1 (zc0_7 u v) (zc60_2 u v) (fun _ => rfl)) kS_RL_178 hd_L_count rfl rfl ⟨(Nat.le_of_ble_eq_true rfl), (Nat.le_of_ble_eq_true rfl)⟩ hK hS hZ hPc hDc hF rfl hl.1 rfl (Nat.le_of_ble_eq_true rfl) dL_law_1746 ⟨(Nat.le_of_ble_eq_true rfl), (Nat.le_of_ble_eq_true rfl)⟩) (fun r3 u1 H locs w2 hP hD hS => ?_)
  subst w2
  have hP : va_P K.1 classes [(qm, zO 10 83 (zc71 u v)), ((v 49), zI K 10 (fun _ => 0)), (qo, zJ K 1 (va_up (fun _ => 0) 0 0))] H := hP
  have hD : va_D A [(qm, zO 10 83 (zc71 u v)), ((v 49), zI K 10 (fun _ => 0)), (qo, zJ K 1 (va_up (fun _ => 0) 0 0))] := hD
  refine lv_istore (lv' := [(5, .int 0), (4, .int 0), (3, .ref qo), (2, .ref qm), (1, .ref qx), (0, .ref b)]) hx hb dL_law_1749 hl (by decide) rfl (fun ls hl => ?_)
  refine lv_aload_n hx hb dL_law_1751 rfl (lv_at hl 3 rfl) ?_
  refine lv_aload_n hx hb dL_law_1752 rfl (lv_at hl 5 rfl) ?_
  refine lv_iload hx hb dL_law_1753 (lv_at hl 1 rfl) ?_
  refine lv_iconst (v := 1) hx hb dL_law_1755 (by decide) ?_
  refine lv_iadd hx hb dL_law_1756 ?_
  refine z_cst (v := 1) (by decide +kernel) ?_
  refine z_sld (v := (nI t1)) (j := 1) hx hb hX hbl hbA hS rfl (Nat.le_of_ble_eq_true rfl) v1 dL_law_1757 ?_
  refine z_calli [(qm, zO 10 83 (zc71 u v)), ((v 49), zI K 10 (fun _ => 0))] [(qo, zJ K 1 (va_up (fun _ => 0) 0 0))] [0, 1] [2] hP hD hS hA rfl rfl (by decide +kernel) (by decide +kernel) (by decide +kernel) 124 1863516 rfl rfl (fun hPc hDc hF => z_runV (As := [.int (nI t1)]) (rest := []) ⟨hx, hb, hml, hown, hg⟩ (cX12_count_2 l K H.size qm (v 49) (zc71 u v) (fun _ => 0) t1 ht1 (zc71_80 u v) (fun _ => rfl)) kV_RL_180 hd_X12_count rfl rfl ⟨(Nat.le_of_ble_eq_true rfl), (Nat.le_of_ble_eq_true rfl)⟩ hK hS hZ hPc hDc hF 0 rfl rfl rfl hl.1 rfl (Nat.le_of_ble_eq_true rfl) dL_law_1758 ⟨(Nat.le_of_ble_eq_true rfl), (Nat.le_of_ble_eq_true rfl)⟩) (fun r6 u4 H locs w5 hP hD hS => ?_)
  subst w5
  have hP : va_P K.1 classes [(qo, zJ K 1 (va_up (fun _ => 0) 0 0)), (qm, zO 10 83 (va_up (zc71 u v) 81 (.int 0)))] H := hP
  have hD : va_D A [(qo, zJ K 1 (va_up (fun _ => 0) 0 0)), (qm, zO 10 83 (va_up (zc71 u v) 81 (.int 0)))] := hD
  refine lv_istore (lv' := [(6, .int 0), (5, .int 0), (4, .int 0), (3, .ref qo), (2, .ref qm), (1, .ref qx), (0, .ref b)]) hx hb dL_law_1761 hl (by decide) rfl (fun ls hl => ?_)
  refine lv_aload_n hx hb dL_law_1763 rfl (lv_at hl 4 rfl) ?_
  refine z_calli [(qm, zO 10 83 (va_up (zc71 u v) 81 (.int 0)))] [(qo, zJ K 1 (va_up (fun _ => 0) 0 0))] [1] [0] hP hD hS hA rfl rfl (by decide +kernel) (by decide +kernel) (by decide +kernel) 124 1863516 rfl rfl (fun hPc hDc hF => z_runV (As := []) (rest := []) ⟨hx, hb, hml, hown, hg⟩ (cX12_thrown_1 l K H.size qm (va_up (zc71 u v) 81 (.int 0)) zu_eq) kV_RL_104 hd_X12_thrown rfl rfl ⟨(Nat.le_of_ble_eq_true rfl), (Nat.le_of_ble_eq_true rfl)⟩ hK hS hZ hPc hDc hF 0 rfl rfl rfl hl.1 rfl (Nat.le_of_ble_eq_true rfl) dL_law_1764 ⟨(Nat.le_of_ble_eq_true rfl), (Nat.le_of_ble_eq_true rfl)⟩) (fun r9 u7 H locs w8 hP hD hS => ?_)
  subst w8
  have hP : va_P K.1 classes [(qo, zJ K 1 (va_up (fun _ => 0) 0 0)), (qm, zO 10 83 (va_up (zc71 u v) 81 (.int 0)))] H := hP
  have hD : va_D A [(qo, zJ K 1 (va_up (fun _ => 0) 0 0)), (qm, zO 10 83 (va_up (zc71 u v) 81 (.int 0)))] := hD
  refine lv_iload hx hb dL_law_1767 (lv_at hl 1 rfl) ?_
  refine lv_icmp_eq (tgt := 1774) hx hb dL_law_1769 (by decide) (fun _ => ?_) (fun c => absurd (by decide) c)
  refine lv_iload hx hb dL_law_1774 (lv_at hl 1 rfl) ?_
  refine lv_if_ne (tgt := 1791) hx hb dL_law_1776 (by decide) (fun c => absurd (by decide) c) (fun _ => ?_)
  refine lv_aload_n hx hb dL_law_1779 rfl (lv_at hl 3 rfl) ?_
  refine lv_iconst (v := 0) hx hb dL_law_1780 (by decide) ?_
  refine z_lald (v := 0) (j := 0) hx hb hK hP 0 rfl rfl (Nat.le_of_ble_eq_true rfl) (Nat.le_of_ble_eq_true rfl) zu_eq dL_law_1781 ?_
  refine lv_iload hx hb dL_law_1782 (lv_at hl 0 rfl) ?_
  refine lv_i2l hx hb dL_law_1784 rfl ?_
  refine z_cstl (v := 0) (by decide +kernel) ?_
  refine W.lcmp hx hb dL_law_1785 ?_
  refine z_cst (v := 0) (by decide +kernel) ?_
  refine lv_if_eq (tgt := 1791) hx hb dL_law_1786 (by decide) (fun _ => ?_) (fun c => absurd (by decide) c)
  refine lv_goto (tgt := 2026) hx hb dL_law_1791 (by decide) ?_
  exact law_back ⟨hx, hb, hr, hml, hown, hg, hX, hbl, hlocks, hK, hZ, hl9, hAA, hA, hbA⟩ (Nat.le_of_ble_eq_true rfl) (Nat.le_of_ble_eq_true rfl) hS (lv_sub hl [2, 6] rfl)
set_option maxHeartbeats 4000000 in
set_option maxRecDepth 100000 in
theorem lawS_22_2 {p : Program} {l : Launch} {e : Env} {s : State} {m : MethodId} {below : List Frame} {meth : Method} {c : Code} {b : Nat} {xs : Nat → Int32} {K : zK} {A : Nat → Prop} {H : Heap} {locs : List Loc} {ls : Array Slot} (C : zC p l s m meth c b xs K A) (qx qm qo : Nat) (u v : Nat → Nat) (h0 : 0 ≤ (xs 1).toInt) (h1 : 10 ≤ (xs 1).toInt) (hP : va_P K.1 classes (lwW K qx qm qo u v) H) (hD : va_D A (lwW K qx qm qo u v)) (hS : va_S A s.heap H locs) (hl : lv_has ls 7 [(4, .int 0), (3, .ref qo), (2, .ref qm), (1, .ref qx), (0, .ref b)]) : W p l e room_1 s m #[Value.ref b] below meth c H locs 124 1863516 (lw_Z below #[Value.ref b] s) (F0 m 1738 ls []) := by
  obtain ⟨hx, hb, hr, hml, hown, hg, hX, hbl, hlocks, hK, hZ, hl9, hAA, hA, hbA⟩ := C
  have hP : va_P K.1 classes [(qx, zO 9 9 (zc0 u v)), (qm, zO 10 83 (zc71 u v)), (qo, zJ K 1 (fun _ => 0))] H := hP.sub [0, 71, 123] rfl
  have hD : va_D A [(qx, zO 9 9 (zc0 u v)), (qm, zO 10 83 (zc71 u v)), (qo, zJ K 1 (fun _ => 0))] := hD.sub [0, 71, 123] (by decide +kernel) rfl
  refine lv_aload_n hx hb dL_law_1738 rfl (lv_at hl 3 rfl) ?_
  refine lv_aload_n hx hb dL_law_1739 rfl (lv_at hl 4 rfl) ?_
  refine lv_iload hx hb dL_law_1740 (lv_at hl 0 rfl) ?_
  refine lv_iconst (v := 1) hx hb dL_law_1742 (by decide) ?_
  refine lv_iadd hx hb dL_law_1743 ?_
  refine z_cst (v := 1) (by decide +kernel) ?_
  refine z_sld (v := (xs 1)) (j := 1) hx hb hX hbl hbA hS rfl (Nat.le_of_ble_eq_true rfl) rfl dL_law_1744 ?_
  refine lv_aload_n hx hb dL_law_1745 rfl (lv_at hl 1 rfl) ?_
  refine z_hcalli [(qx, zO 9 9 (zc0 u v))] [(qm, zO 10 83 (zc71 u v)), (qo, zJ K 1 (fun _ => 0))] [0] [1, 2] hP hD hS hA rfl rfl (by decide +kernel) (by decide +kernel) (by decide +kernel) 125 1863522 rfl rfl (fun hPc hDc hF => z_xrunH (As := [.ref qx, .int (xs 1), .ref qo]) (rest := []) ⟨hx, hb, hml, hown, hg⟩ (cL_count_3 l hl9 K H.size qx qo (zc0 u v) (xs 1) (by rw [Int32.lt_iff_toInt_lt, show (0 : Int32).toInt = 0 from by decide]; omega) (by rw [Int32.lt_iff_toInt_lt, show (10 : Int32).toInt = 10 from by decide]; omega)) kS_RL_178 hd_L_count rfl rfl ⟨(Nat.le_of_ble_eq_true rfl), (Nat.le_of_ble_eq_true rfl)⟩ hK hS hZ hPc hDc hF rfl hl.1 rfl (Nat.le_of_ble_eq_true rfl) dL_law_1746 ⟨(Nat.le_of_ble_eq_true rfl), (Nat.le_of_ble_eq_true rfl)⟩) (fun r3 u1 H locs w2 hP hD hS => ?_)
  subst w2
  have hP : va_P K.1 classes [(qm, zO 10 83 (zc71 u v)), (qo, zJ K 1 (fun _ => 0))] H := hP
  have hD : va_D A [(qm, zO 10 83 (zc71 u v)), (qo, zJ K 1 (fun _ => 0))] := hD
  refine lv_istore (lv' := [(5, .int 1), (4, .int 0), (3, .ref qo), (2, .ref qm), (1, .ref qx), (0, .ref b)]) hx hb dL_law_1749 hl (by decide) rfl (fun ls hl => ?_)
  refine lv_aload_n hx hb dL_law_1751 rfl (lv_at hl 3 rfl) ?_
  refine lv_aload_n hx hb dL_law_1752 rfl (lv_at hl 5 rfl) ?_
  refine lv_iload hx hb dL_law_1753 (lv_at hl 1 rfl) ?_
  refine lv_iconst (v := 1) hx hb dL_law_1755 (by decide) ?_
  refine lv_iadd hx hb dL_law_1756 ?_
  refine z_cst (v := 1) (by decide +kernel) ?_
  refine z_sld (v := (xs 1)) (j := 1) hx hb hX hbl hbA hS rfl (Nat.le_of_ble_eq_true rfl) rfl dL_law_1757 ?_
  refine z_calli [(qm, zO 10 83 (zc71 u v))] [(qo, zJ K 1 (fun _ => 0))] [0] [1] hP hD hS hA rfl rfl (by decide +kernel) (by decide +kernel) (by decide +kernel) 125 1863522 rfl rfl (fun hPc hDc hF => z_runV (As := [.int (xs 1)]) (rest := []) ⟨hx, hb, hml, hown, hg⟩ (cX12_count_3 l K H.size qm (zc71 u v) (xs 1) (by rw [Int32.lt_iff_toInt_lt, show (0 : Int32).toInt = 0 from by decide]; omega) (by rw [Int32.lt_iff_toInt_lt, show (9 : Int32).toInt = 9 from by decide]; omega)) kV_RL_180 hd_X12_count rfl rfl ⟨(Nat.le_of_ble_eq_true rfl), (Nat.le_of_ble_eq_true rfl)⟩ hK hS hZ hPc hDc hF 0 rfl rfl rfl hl.1 rfl (Nat.le_of_ble_eq_true rfl) dL_law_1758 ⟨(Nat.le_of_ble_eq_true rfl), (Nat.le_of_ble_eq_true rfl)⟩) (fun r6 u4 H locs w5 hP hD hS => ?_)
  subst w5
  have hP : va_P K.1 classes [(qo, zJ K 1 (fun _ => 0)), (qm, zO 10 83 (va_up (zc71 u v) 81 (.int 1)))] H := hP
  have hD : va_D A [(qo, zJ K 1 (fun _ => 0)), (qm, zO 10 83 (va_up (zc71 u v) 81 (.int 1)))] := hD
  refine lv_istore (lv' := [(6, .int 0), (5, .int 1), (4, .int 0), (3, .ref qo), (2, .ref qm), (1, .ref qx), (0, .ref b)]) hx hb dL_law_1761 hl (by decide) rfl (fun ls hl => ?_)
  refine lv_aload_n hx hb dL_law_1763 rfl (lv_at hl 4 rfl) ?_
  refine z_calli [(qm, zO 10 83 (va_up (zc71 u v) 81 (.int 1)))] [(qo, zJ K 1 (fun _ => 0))] [1] [0] hP hD hS hA rfl rfl (by decide +kernel) (by decide +kernel) (by decide +kernel) 125 1863522 rfl rfl (fun hPc hDc hF => z_runV (As := []) (rest := []) ⟨hx, hb, hml, hown, hg⟩ (cX12_thrown_2 l K H.size qm (va_up (zc71 u v) 81 (.int 1)) zu_eq) kV_RL_104 hd_X12_thrown rfl rfl ⟨(Nat.le_of_ble_eq_true rfl), (Nat.le_of_ble_eq_true rfl)⟩ hK hS hZ hPc hDc hF 0 rfl rfl rfl hl.1 rfl (Nat.le_of_ble_eq_true rfl) dL_law_1764 ⟨(Nat.le_of_ble_eq_true rfl), (Nat.le_of_ble_eq_true rfl)⟩) (fun r9 u7 H locs w8 hP hD hS => ?_)
  subst w8
  have hP : va_P K.1 classes [(qo, zJ K 1 (fun _ => 0)), (qm, zO 10 83 (va_up (zc71 u v) 81 (.int 1)))] H := hP
  have hD : va_D A [(qo, zJ K 1 (fun _ => 0)), (qm, zO 10 83 (va_up (zc71 u v) 81 (.int 1)))] := hD
  refine lv_iload hx hb dL_law_1767 (lv_at hl 1 rfl) ?_
  refine lv_icmp_eq (tgt := 1774) hx hb dL_law_1769 (by decide) (fun _ => ?_) (fun c => absurd (by decide) c)
  refine lv_iload hx hb dL_law_1774 (lv_at hl 1 rfl) ?_
  refine lv_if_ne (tgt := 1791) hx hb dL_law_1776 (by decide) (fun _ => ?_) (fun c => absurd c (by decide))
  refine lv_goto (tgt := 2026) hx hb dL_law_1791 (by decide) ?_
  exact law_back ⟨hx, hb, hr, hml, hown, hg, hX, hbl, hlocks, hK, hZ, hl9, hAA, hA, hbA⟩ (Nat.le_of_ble_eq_true rfl) (Nat.le_of_ble_eq_true rfl) hS (lv_sub hl [2, 6] rfl)
theorem lawC_22 {p : Program} {l : Launch} {e : Env} {s : State} {m : MethodId} {below : List Frame} {meth : Method} {c : Code} {b : Nat} {xs : Nat → Int32} {K : zK} {A : Nat → Prop} {H : Heap} {locs : List Loc} {ls : Array Slot} (C : zC p l s m meth c b xs K A) (qx qm qo : Nat) (u v : Nat → Nat) (hP : va_P K.1 classes (lwW K qx qm qo u v) H) (hD : va_D A (lwW K qx qm qo u v)) (hS : va_S A s.heap H locs) (hl : lv_has ls 7 [(4, .int 0), (3, .ref qo), (2, .ref qm), (1, .ref qx), (0, .ref b)]) : W p l e room_1 s m #[Value.ref b] below meth c H locs 124 1863516 (lw_Z below #[Value.ref b] s) (F0 m 1738 ls []) := by
  rcases z_split (xs 1) (0) with h0 | h0
  · exact lawS_22_0 C qx qm qo u v h0 hP hD hS hl
  · rcases z_split (xs 1) (10) with h1 | h1
    · exact lawS_22_1 C qx qm qo u v h0 h1 hP hD hS hl
    · exact lawS_22_2 C qx qm qo u v h0 h1 hP hD hS hl
set_option maxHeartbeats 4000000 in
set_option maxRecDepth 100000 in
theorem lawS_23_0 {p : Program} {l : Launch} {e : Env} {s : State} {m : MethodId} {below : List Frame} {meth : Method} {c : Code} {b : Nat} {xs : Nat → Int32} {K : zK} {A : Nat → Prop} {H : Heap} {locs : List Loc} {ls : Array Slot} (C : zC p l s m meth c b xs K A) (qx qm qo : Nat) (u v : Nat → Nat) (h0 : (xs 1).toInt < 0) (hP : va_P K.1 classes (lwW K qx qm qo u v) H) (hD : va_D A (lwW K qx qm qo u v)) (hS : va_S A s.heap H locs) (hl : lv_has ls 7 [(4, .int 0), (3, .ref qo), (2, .ref qm), (1, .ref qx), (0, .ref b)]) : W p l e room_1 s m #[Value.ref b] below meth c H locs 124 1863516 (lw_Z below #[Value.ref b] s) (F0 m 1794 ls []) := by
  obtain ⟨hx, hb, hr, hml, hown, hg, hX, hbl, hlocks, hK, hZ, hl9, hAA, hA, hbA⟩ := C
  have hP : va_P K.1 classes [(qx, zO 9 9 (zc0 u v)), (qm, zO 10 83 (zc71 u v)), (qo, zJ K 1 (fun _ => 0))] H := hP.sub [0, 71, 123] rfl
  have hD : va_D A [(qx, zO 9 9 (zc0 u v)), (qm, zO 10 83 (zc71 u v)), (qo, zJ K 1 (fun _ => 0))] := hD.sub [0, 71, 123] (by decide +kernel) rfl
  refine lv_aload_n hx hb dL_law_1794 rfl (lv_at hl 3 rfl) ?_
  refine lv_aload_n hx hb dL_law_1795 rfl (lv_at hl 4 rfl) ?_
  refine lv_iload hx hb dL_law_1796 (lv_at hl 0 rfl) ?_
  refine lv_iconst (v := 1) hx hb dL_law_1798 (by decide) ?_
  refine lv_iadd hx hb dL_law_1799 ?_
  refine z_cst (v := 1) (by decide +kernel) ?_
  refine z_sld (v := (xs 1)) (j := 1) hx hb hX hbl hbA hS rfl (Nat.le_of_ble_eq_true rfl) rfl dL_law_1800 ?_
  refine lv_aload_n hx hb dL_law_1801 rfl (lv_at hl 4 rfl) ?_
  refine lv_iload hx hb dL_law_1802 (lv_at hl 0 rfl) ?_
  refine lv_iconst (v := 2) hx hb dL_law_1804 (by decide) ?_
  refine lv_iadd hx hb dL_law_1805 ?_
  refine z_cst (v := 2) (by decide +kernel) ?_
  refine z_sld (v := (xs 2)) (j := 2) hx hb hX hbl hbA hS rfl (Nat.le_of_ble_eq_true rfl) rfl dL_law_1806 ?_
  refine lv_aload_n hx hb dL_law_1807 rfl (lv_at hl 1 rfl) ?_
  refine z_hcalli [(qx, zO 9 9 (zc0 u v))] [(qm, zO 10 83 (zc71 u v)), (qo, zJ K 1 (fun _ => 0))] [0] [1, 2] hP hD hS hA rfl rfl (by decide +kernel) (by decide +kernel) (by decide +kernel) 125 1863522 rfl rfl (fun hPc hDc hF => z_xrunH (As := [.ref qx, .int (xs 1), .int (xs 2), .ref qo]) (rest := []) ⟨hx, hb, hml, hown, hg⟩ (cL_needed_1 l hl9 K H.size qx qo (zc0 u v) (xs 1) (xs 2) (by rw [Int32.lt_iff_toInt_lt, show (0 : Int32).toInt = 0 from by decide]; omega)) kS_RL_181 hd_L_needed rfl rfl ⟨(Nat.le_of_ble_eq_true rfl), (Nat.le_of_ble_eq_true rfl)⟩ hK hS hZ hPc hDc hF rfl hl.1 rfl (Nat.le_of_ble_eq_true rfl) dL_law_1808 ⟨(Nat.le_of_ble_eq_true rfl), (Nat.le_of_ble_eq_true rfl)⟩) (fun r3 u1 H locs w2 hP hD hS => ?_)
  subst w2
  have hP : va_P K.1 classes [(qm, zO 10 83 (zc71 u v)), (qo, zJ K 1 (fun _ => 0))] H := hP
  have hD : va_D A [(qm, zO 10 83 (zc71 u v)), (qo, zJ K 1 (fun _ => 0))] := hD
  refine lv_istore (lv' := [(5, .int 1), (4, .int 0), (3, .ref qo), (2, .ref qm), (1, .ref qx), (0, .ref b)]) hx hb dL_law_1811 hl (by decide) rfl (fun ls hl => ?_)
  refine lv_aload_n hx hb dL_law_1813 rfl (lv_at hl 3 rfl) ?_
  refine lv_aload_n hx hb dL_law_1814 rfl (lv_at hl 5 rfl) ?_
  refine lv_iload hx hb dL_law_1815 (lv_at hl 1 rfl) ?_
  refine lv_iconst (v := 1) hx hb dL_law_1817 (by decide) ?_
  refine lv_iadd hx hb dL_law_1818 ?_
  refine z_cst (v := 1) (by decide +kernel) ?_
  refine z_sld (v := (xs 1)) (j := 1) hx hb hX hbl hbA hS rfl (Nat.le_of_ble_eq_true rfl) rfl dL_law_1819 ?_
  refine lv_aload_n hx hb dL_law_1820 rfl (lv_at hl 5 rfl) ?_
  refine lv_iload hx hb dL_law_1821 (lv_at hl 1 rfl) ?_
  refine lv_iconst (v := 2) hx hb dL_law_1823 (by decide) ?_
  refine lv_iadd hx hb dL_law_1824 ?_
  refine z_cst (v := 2) (by decide +kernel) ?_
  refine z_sld (v := (xs 2)) (j := 2) hx hb hX hbl hbA hS rfl (Nat.le_of_ble_eq_true rfl) rfl dL_law_1825 ?_
  refine z_calli [(qm, zO 10 83 (zc71 u v))] [(qo, zJ K 1 (fun _ => 0))] [0] [1] hP hD hS hA rfl rfl (by decide +kernel) (by decide +kernel) (by decide +kernel) 125 1863522 rfl rfl (fun hPc hDc hF => z_runV (As := [.int (xs 1), .int (xs 2)]) (rest := []) ⟨hx, hb, hml, hown, hg⟩ (cX12_needed_1 l K H.size qm (zc71 u v) (xs 1) (xs 2) (by rw [Int32.lt_iff_toInt_lt, show (0 : Int32).toInt = 0 from by decide]; omega)) kV_RL_183 hd_X12_needed rfl rfl ⟨(Nat.le_of_ble_eq_true rfl), (Nat.le_of_ble_eq_true rfl)⟩ hK hS hZ hPc hDc hF 0 rfl rfl rfl hl.1 rfl (Nat.le_of_ble_eq_true rfl) dL_law_1826 ⟨(Nat.le_of_ble_eq_true rfl), (Nat.le_of_ble_eq_true rfl)⟩) (fun r6 u4 H locs w5 hP hD hS => ?_)
  subst w5
  have hP : va_P K.1 classes [(qo, zJ K 1 (fun _ => 0)), (qm, zO 10 83 (va_up (zc71 u v) 81 (.int 1)))] H := hP
  have hD : va_D A [(qo, zJ K 1 (fun _ => 0)), (qm, zO 10 83 (va_up (zc71 u v) 81 (.int 1)))] := hD
  refine lv_istore (lv' := [(6, .int 0), (5, .int 1), (4, .int 0), (3, .ref qo), (2, .ref qm), (1, .ref qx), (0, .ref b)]) hx hb dL_law_1829 hl (by decide) rfl (fun ls hl => ?_)
  refine lv_aload_n hx hb dL_law_1831 rfl (lv_at hl 4 rfl) ?_
  refine z_calli [(qm, zO 10 83 (va_up (zc71 u v) 81 (.int 1)))] [(qo, zJ K 1 (fun _ => 0))] [1] [0] hP hD hS hA rfl rfl (by decide +kernel) (by decide +kernel) (by decide +kernel) 125 1863522 rfl rfl (fun hPc hDc hF => z_runV (As := []) (rest := []) ⟨hx, hb, hml, hown, hg⟩ (cX12_thrown_2 l K H.size qm (va_up (zc71 u v) 81 (.int 1)) zu_eq) kV_RL_104 hd_X12_thrown rfl rfl ⟨(Nat.le_of_ble_eq_true rfl), (Nat.le_of_ble_eq_true rfl)⟩ hK hS hZ hPc hDc hF 0 rfl rfl rfl hl.1 rfl (Nat.le_of_ble_eq_true rfl) dL_law_1832 ⟨(Nat.le_of_ble_eq_true rfl), (Nat.le_of_ble_eq_true rfl)⟩) (fun r9 u7 H locs w8 hP hD hS => ?_)
  subst w8
  have hP : va_P K.1 classes [(qo, zJ K 1 (fun _ => 0)), (qm, zO 10 83 (va_up (zc71 u v) 81 (.int 1)))] H := hP
  have hD : va_D A [(qo, zJ K 1 (fun _ => 0)), (qm, zO 10 83 (va_up (zc71 u v) 81 (.int 1)))] := hD
  refine lv_iload hx hb dL_law_1835 (lv_at hl 1 rfl) ?_
  refine lv_icmp_eq (tgt := 1842) hx hb dL_law_1837 (by decide) (fun _ => ?_) (fun c => absurd (by decide) c)
  refine lv_iload hx hb dL_law_1842 (lv_at hl 1 rfl) ?_
  refine lv_if_ne (tgt := 1859) hx hb dL_law_1844 (by decide) (fun _ => ?_) (fun c => absurd c (by decide))
  refine lv_goto (tgt := 2026) hx hb dL_law_1859 (by decide) ?_
  exact law_back ⟨hx, hb, hr, hml, hown, hg, hX, hbl, hlocks, hK, hZ, hl9, hAA, hA, hbA⟩ (Nat.le_of_ble_eq_true rfl) (Nat.le_of_ble_eq_true rfl) hS (lv_sub hl [2, 6] rfl)
set_option maxHeartbeats 4000000 in
set_option maxRecDepth 100000 in
theorem lawS_23_1 {p : Program} {l : Launch} {e : Env} {s : State} {m : MethodId} {below : List Frame} {meth : Method} {c : Code} {b : Nat} {xs : Nat → Int32} {K : zK} {A : Nat → Prop} {H : Heap} {locs : List Loc} {ls : Array Slot} (C : zC p l s m meth c b xs K A) (qx qm qo : Nat) (u v : Nat → Nat) (h0 : 0 ≤ (xs 1).toInt) (h1 : (xs 1).toInt < 8) (h2 : (xs 2).toInt < 0) (hP : va_P K.1 classes (lwW K qx qm qo u v) H) (hD : va_D A (lwW K qx qm qo u v)) (hS : va_S A s.heap H locs) (hl : lv_has ls 7 [(4, .int 0), (3, .ref qo), (2, .ref qm), (1, .ref qx), (0, .ref b)]) : W p l e room_1 s m #[Value.ref b] below meth c H locs 124 1863516 (lw_Z below #[Value.ref b] s) (F0 m 1794 ls []) := by
  obtain ⟨hx, hb, hr, hml, hown, hg, hX, hbl, hlocks, hK, hZ, hl9, hAA, hA, hbA⟩ := C
  have hP : va_P K.1 classes [(qx, zO 9 9 (zc0 u v)), (qm, zO 10 83 (zc71 u v)), (qo, zJ K 1 (fun _ => 0))] H := hP.sub [0, 71, 123] rfl
  have hD : va_D A [(qx, zO 9 9 (zc0 u v)), (qm, zO 10 83 (zc71 u v)), (qo, zJ K 1 (fun _ => 0))] := hD.sub [0, 71, 123] (by decide +kernel) rfl
  obtain ⟨t1, ht1, v1⟩ : ∃ j : Nat, j < 8 ∧ xs 1 = nI j := z_nat (n := 8) (by omega) (by omega) (by decide)
  refine lv_aload_n hx hb dL_law_1794 rfl (lv_at hl 3 rfl) ?_
  refine lv_aload_n hx hb dL_law_1795 rfl (lv_at hl 4 rfl) ?_
  refine lv_iload hx hb dL_law_1796 (lv_at hl 0 rfl) ?_
  refine lv_iconst (v := 1) hx hb dL_law_1798 (by decide) ?_
  refine lv_iadd hx hb dL_law_1799 ?_
  refine z_cst (v := 1) (by decide +kernel) ?_
  refine z_sld (v := (nI t1)) (j := 1) hx hb hX hbl hbA hS rfl (Nat.le_of_ble_eq_true rfl) v1 dL_law_1800 ?_
  refine lv_aload_n hx hb dL_law_1801 rfl (lv_at hl 4 rfl) ?_
  refine lv_iload hx hb dL_law_1802 (lv_at hl 0 rfl) ?_
  refine lv_iconst (v := 2) hx hb dL_law_1804 (by decide) ?_
  refine lv_iadd hx hb dL_law_1805 ?_
  refine z_cst (v := 2) (by decide +kernel) ?_
  refine z_sld (v := (xs 2)) (j := 2) hx hb hX hbl hbA hS rfl (Nat.le_of_ble_eq_true rfl) rfl dL_law_1806 ?_
  refine lv_aload_n hx hb dL_law_1807 rfl (lv_at hl 1 rfl) ?_
  refine z_hcalli [(qx, zO 9 9 (zc0 u v))] [(qm, zO 10 83 (zc71 u v)), (qo, zJ K 1 (fun _ => 0))] [0] [1, 2] hP hD hS hA rfl rfl (by decide +kernel) (by decide +kernel) (by decide +kernel) 125 1863522 rfl rfl (fun hPc hDc hF => z_xrunH (As := [.ref qx, .int (nI t1), .int (xs 2), .ref qo]) (rest := []) ⟨hx, hb, hml, hown, hg⟩ (cL_needed_2 l hl9 K H.size qx qo (zc0 u v) t1 ht1 (xs 2) (by rw [Int32.le_iff_toInt_le, show (0 : Int32).toInt = 0 from by decide]; omega)) kS_RL_181 hd_L_needed rfl rfl ⟨(Nat.le_of_ble_eq_true rfl), (Nat.le_of_ble_eq_true rfl)⟩ hK hS hZ hPc hDc hF rfl hl.1 rfl (Nat.le_of_ble_eq_true rfl) dL_law_1808 ⟨(Nat.le_of_ble_eq_true rfl), (Nat.le_of_ble_eq_true rfl)⟩) (fun r3 u1 H locs w2 hP hD hS => ?_)
  subst w2
  have hP : va_P K.1 classes [(qm, zO 10 83 (zc71 u v)), (qo, zJ K 1 (fun _ => 0))] H := hP
  have hD : va_D A [(qm, zO 10 83 (zc71 u v)), (qo, zJ K 1 (fun _ => 0))] := hD
  refine lv_istore (lv' := [(5, .int 1), (4, .int 0), (3, .ref qo), (2, .ref qm), (1, .ref qx), (0, .ref b)]) hx hb dL_law_1811 hl (by decide) rfl (fun ls hl => ?_)
  refine lv_aload_n hx hb dL_law_1813 rfl (lv_at hl 3 rfl) ?_
  refine lv_aload_n hx hb dL_law_1814 rfl (lv_at hl 5 rfl) ?_
  refine lv_iload hx hb dL_law_1815 (lv_at hl 1 rfl) ?_
  refine lv_iconst (v := 1) hx hb dL_law_1817 (by decide) ?_
  refine lv_iadd hx hb dL_law_1818 ?_
  refine z_cst (v := 1) (by decide +kernel) ?_
  refine z_sld (v := (nI t1)) (j := 1) hx hb hX hbl hbA hS rfl (Nat.le_of_ble_eq_true rfl) v1 dL_law_1819 ?_
  refine lv_aload_n hx hb dL_law_1820 rfl (lv_at hl 5 rfl) ?_
  refine lv_iload hx hb dL_law_1821 (lv_at hl 1 rfl) ?_
  refine lv_iconst (v := 2) hx hb dL_law_1823 (by decide) ?_
  refine lv_iadd hx hb dL_law_1824 ?_
  refine z_cst (v := 2) (by decide +kernel) ?_
  refine z_sld (v := (xs 2)) (j := 2) hx hb hX hbl hbA hS rfl (Nat.le_of_ble_eq_true rfl) rfl dL_law_1825 ?_
  refine z_calli [(qm, zO 10 83 (zc71 u v))] [(qo, zJ K 1 (fun _ => 0))] [0] [1] hP hD hS hA rfl rfl (by decide +kernel) (by decide +kernel) (by decide +kernel) 125 1863522 rfl rfl (fun hPc hDc hF => z_runV (As := [.int (nI t1), .int (xs 2)]) (rest := []) ⟨hx, hb, hml, hown, hg⟩ (cX12_needed_2 l K H.size qm (zc71 u v) t1 ht1 (xs 2) (by rw [Int32.lt_iff_toInt_lt, show (0 : Int32).toInt = 0 from by decide]; omega)) kV_RL_183 hd_X12_needed rfl rfl ⟨(Nat.le_of_ble_eq_true rfl), (Nat.le_of_ble_eq_true rfl)⟩ hK hS hZ hPc hDc hF 0 rfl rfl rfl hl.1 rfl (Nat.le_of_ble_eq_true rfl) dL_law_1826 ⟨(Nat.le_of_ble_eq_true rfl), (Nat.le_of_ble_eq_true rfl)⟩) (fun r6 u4 H locs w5 hP hD hS => ?_)
  subst w5
  have hP : va_P K.1 classes [(qo, zJ K 1 (fun _ => 0)), (qm, zO 10 83 (va_up (zc71 u v) 81 (.int 1)))] H := hP
  have hD : va_D A [(qo, zJ K 1 (fun _ => 0)), (qm, zO 10 83 (va_up (zc71 u v) 81 (.int 1)))] := hD
  refine lv_istore (lv' := [(6, .int 0), (5, .int 1), (4, .int 0), (3, .ref qo), (2, .ref qm), (1, .ref qx), (0, .ref b)]) hx hb dL_law_1829 hl (by decide) rfl (fun ls hl => ?_)
  refine lv_aload_n hx hb dL_law_1831 rfl (lv_at hl 4 rfl) ?_
  refine z_calli [(qm, zO 10 83 (va_up (zc71 u v) 81 (.int 1)))] [(qo, zJ K 1 (fun _ => 0))] [1] [0] hP hD hS hA rfl rfl (by decide +kernel) (by decide +kernel) (by decide +kernel) 125 1863522 rfl rfl (fun hPc hDc hF => z_runV (As := []) (rest := []) ⟨hx, hb, hml, hown, hg⟩ (cX12_thrown_2 l K H.size qm (va_up (zc71 u v) 81 (.int 1)) zu_eq) kV_RL_104 hd_X12_thrown rfl rfl ⟨(Nat.le_of_ble_eq_true rfl), (Nat.le_of_ble_eq_true rfl)⟩ hK hS hZ hPc hDc hF 0 rfl rfl rfl hl.1 rfl (Nat.le_of_ble_eq_true rfl) dL_law_1832 ⟨(Nat.le_of_ble_eq_true rfl), (Nat.le_of_ble_eq_true rfl)⟩) (fun r9 u7 H locs w8 hP hD hS => ?_)
  subst w8
  have hP : va_P K.1 classes [(qo, zJ K 1 (fun _ => 0)), (qm, zO 10 83 (va_up (zc71 u v) 81 (.int 1)))] H := hP
  have hD : va_D A [(qo, zJ K 1 (fun _ => 0)), (qm, zO 10 83 (va_up (zc71 u v) 81 (.int 1)))] := hD
  refine lv_iload hx hb dL_law_1835 (lv_at hl 1 rfl) ?_
  refine lv_icmp_eq (tgt := 1842) hx hb dL_law_1837 (by decide) (fun _ => ?_) (fun c => absurd (by decide) c)
  refine lv_iload hx hb dL_law_1842 (lv_at hl 1 rfl) ?_
  refine lv_if_ne (tgt := 1859) hx hb dL_law_1844 (by decide) (fun _ => ?_) (fun c => absurd c (by decide))
  refine lv_goto (tgt := 2026) hx hb dL_law_1859 (by decide) ?_
  exact law_back ⟨hx, hb, hr, hml, hown, hg, hX, hbl, hlocks, hK, hZ, hl9, hAA, hA, hbA⟩ (Nat.le_of_ble_eq_true rfl) (Nat.le_of_ble_eq_true rfl) hS (lv_sub hl [2, 6] rfl)
set_option maxHeartbeats 4000000 in
set_option maxRecDepth 100000 in
theorem lawS_23_2 {p : Program} {l : Launch} {e : Env} {s : State} {m : MethodId} {below : List Frame} {meth : Method} {c : Code} {b : Nat} {xs : Nat → Int32} {K : zK} {A : Nat → Prop} {H : Heap} {locs : List Loc} {ls : Array Slot} (C : zC p l s m meth c b xs K A) (qx qm qo : Nat) (u v : Nat → Nat) (h0 : 0 ≤ (xs 1).toInt) (h1 : (xs 1).toInt < 8) (h2 : 0 ≤ (xs 2).toInt) (hP : va_P K.1 classes (lwW K qx qm qo u v) H) (hD : va_D A (lwW K qx qm qo u v)) (hS : va_S A s.heap H locs) (hl : lv_has ls 7 [(4, .int 0), (3, .ref qo), (2, .ref qm), (1, .ref qx), (0, .ref b)]) : W p l e room_1 s m #[Value.ref b] below meth c H locs 124 1863516 (lw_Z below #[Value.ref b] s) (F0 m 1794 ls []) := by
  obtain ⟨hx, hb, hr, hml, hown, hg, hX, hbl, hlocks, hK, hZ, hl9, hAA, hA, hbA⟩ := C
  have hP : va_P K.1 classes [(qx, zO 9 9 (zc0 u v)), ((u 8), zO 4 6 (zc9 u v)), ((u 15), zI K 8 (fun _ => 0)), (qm, zO 10 83 (zc71 u v)), ((v 13), zI K 16 (fun _ => 0)), ((v 23), zZ K 640 (fun _ => 0)), ((v 24), zI K 8 (fun _ => 0)), ((v 50), zZ K 640 (fun _ => 0)), (qo, zJ K 1 (fun _ => 0))] H := hP.sub [0, 9, 16, 71, 85, 95, 96, 122, 123] rfl
  have hD : va_D A [(qx, zO 9 9 (zc0 u v)), ((u 8), zO 4 6 (zc9 u v)), ((u 15), zI K 8 (fun _ => 0)), (qm, zO 10 83 (zc71 u v)), ((v 13), zI K 16 (fun _ => 0)), ((v 23), zZ K 640 (fun _ => 0)), ((v 24), zI K 8 (fun _ => 0)), ((v 50), zZ K 640 (fun _ => 0)), (qo, zJ K 1 (fun _ => 0))] := hD.sub [0, 9, 16, 71, 85, 95, 96, 122, 123] (by decide +kernel) rfl
  obtain ⟨t1, ht1, v1⟩ : ∃ j : Nat, j < 8 ∧ xs 1 = nI j := z_nat (n := 8) (by omega) (by omega) (by decide)
  refine lv_aload_n hx hb dL_law_1794 rfl (lv_at hl 3 rfl) ?_
  refine lv_aload_n hx hb dL_law_1795 rfl (lv_at hl 4 rfl) ?_
  refine lv_iload hx hb dL_law_1796 (lv_at hl 0 rfl) ?_
  refine lv_iconst (v := 1) hx hb dL_law_1798 (by decide) ?_
  refine lv_iadd hx hb dL_law_1799 ?_
  refine z_cst (v := 1) (by decide +kernel) ?_
  refine z_sld (v := (nI t1)) (j := 1) hx hb hX hbl hbA hS rfl (Nat.le_of_ble_eq_true rfl) v1 dL_law_1800 ?_
  refine lv_aload_n hx hb dL_law_1801 rfl (lv_at hl 4 rfl) ?_
  refine lv_iload hx hb dL_law_1802 (lv_at hl 0 rfl) ?_
  refine lv_iconst (v := 2) hx hb dL_law_1804 (by decide) ?_
  refine lv_iadd hx hb dL_law_1805 ?_
  refine z_cst (v := 2) (by decide +kernel) ?_
  refine z_sld (v := (xs 2)) (j := 2) hx hb hX hbl hbA hS rfl (Nat.le_of_ble_eq_true rfl) rfl dL_law_1806 ?_
  refine lv_aload_n hx hb dL_law_1807 rfl (lv_at hl 1 rfl) ?_
  refine z_hcalli [(qx, zO 9 9 (zc0 u v)), ((u 8), zO 4 6 (zc9 u v)), ((u 15), zI K 8 (fun _ => 0)), (qo, zJ K 1 (fun _ => 0))] [(qm, zO 10 83 (zc71 u v)), ((v 13), zI K 16 (fun _ => 0)), ((v 23), zZ K 640 (fun _ => 0)), ((v 24), zI K 8 (fun _ => 0)), ((v 50), zZ K 640 (fun _ => 0))] [0, 1, 2, 8] [3, 4, 5, 6, 7] hP hD hS hA rfl rfl (by decide +kernel) (by decide +kernel) (by decide +kernel) 124 1863516 rfl rfl (fun hPc hDc hF => z_xrunH (As := [.ref qx, .int (nI t1), .int (xs 2), .ref qo]) (rest := []) ⟨hx, hb, hml, hown, hg⟩ (cL_needed_3 l hl9 K H.size qx qo (u 8) (u 15) (zc0 u v) (zc9 u v) (fun _ => 0) (fun _ => 0) t1 ht1 (xs 2) (by rw [Int32.le_iff_toInt_le, show (0 : Int32).toInt = 0 from by decide]; omega) (zc0_3 u v) (zc9_1 u v) (fun _ => rfl) (by rw [Int32.lt_iff_toInt_lt, show (0 : Int32).toInt = 0 from by decide]; omega)) kS_RL_181 hd_L_needed rfl rfl ⟨(Nat.le_of_ble_eq_true rfl), (Nat.le_of_ble_eq_true rfl)⟩ hK hS hZ hPc hDc hF rfl hl.1 rfl (Nat.le_of_ble_eq_true rfl) dL_law_1808 ⟨(Nat.le_of_ble_eq_true rfl), (Nat.le_of_ble_eq_true rfl)⟩) (fun r3 u1 H locs w2 hP hD hS => ?_)
  subst w2
  have hP : va_P K.1 classes [(qm, zO 10 83 (zc71 u v)), ((v 13), zI K 16 (fun _ => 0)), ((v 23), zZ K 640 (fun _ => 0)), ((v 24), zI K 8 (fun _ => 0)), ((v 50), zZ K 640 (fun _ => 0)), (qo, zJ K 1 (va_up (fun _ => 0) 0 (-1)))] H := hP
  have hD : va_D A [(qm, zO 10 83 (zc71 u v)), ((v 13), zI K 16 (fun _ => 0)), ((v 23), zZ K 640 (fun _ => 0)), ((v 24), zI K 8 (fun _ => 0)), ((v 50), zZ K 640 (fun _ => 0)), (qo, zJ K 1 (va_up (fun _ => 0) 0 (-1)))] := hD
  refine lv_istore (lv' := [(5, .int 0), (4, .int 0), (3, .ref qo), (2, .ref qm), (1, .ref qx), (0, .ref b)]) hx hb dL_law_1811 hl (by decide) rfl (fun ls hl => ?_)
  refine lv_aload_n hx hb dL_law_1813 rfl (lv_at hl 3 rfl) ?_
  refine lv_aload_n hx hb dL_law_1814 rfl (lv_at hl 5 rfl) ?_
  refine lv_iload hx hb dL_law_1815 (lv_at hl 1 rfl) ?_
  refine lv_iconst (v := 1) hx hb dL_law_1817 (by decide) ?_
  refine lv_iadd hx hb dL_law_1818 ?_
  refine z_cst (v := 1) (by decide +kernel) ?_
  refine z_sld (v := (nI t1)) (j := 1) hx hb hX hbl hbA hS rfl (Nat.le_of_ble_eq_true rfl) v1 dL_law_1819 ?_
  refine lv_aload_n hx hb dL_law_1820 rfl (lv_at hl 5 rfl) ?_
  refine lv_iload hx hb dL_law_1821 (lv_at hl 1 rfl) ?_
  refine lv_iconst (v := 2) hx hb dL_law_1823 (by decide) ?_
  refine lv_iadd hx hb dL_law_1824 ?_
  refine z_cst (v := 2) (by decide +kernel) ?_
  refine z_sld (v := (xs 2)) (j := 2) hx hb hX hbl hbA hS rfl (Nat.le_of_ble_eq_true rfl) rfl dL_law_1825 ?_
  refine z_calli [(qm, zO 10 83 (zc71 u v)), ((v 24), zI K 8 (fun _ => 0)), ((v 13), zI K 16 (fun _ => 0)), ((v 23), zZ K 640 (fun _ => 0)), ((v 50), zZ K 640 (fun _ => 0))] [(qo, zJ K 1 (va_up (fun _ => 0) 0 (-1)))] [0, 3, 1, 2, 4] [5] hP hD hS hA rfl rfl (by decide +kernel) (by decide +kernel) (by decide +kernel) 124 1863516 rfl rfl (fun hPc hDc hF => z_runV (As := [.int (nI t1), .int (xs 2)]) (rest := []) ⟨hx, hb, hml, hown, hg⟩ (cX12_needed_3 l K H.size qm (v 24) (v 13) (v 23) (v 50) (zc71 u v) (fun _ => 0) (fun _ => 0) (fun _ => 0) (fun _ => 0) t1 ht1 (xs 2) (by rw [Int32.lt_iff_toInt_lt, show (0 : Int32).toInt = 0 from by decide]; omega) (zc71_31 u v) (zc71_14 u v) rfl rfl rfl rfl rfl rfl rfl rfl (zc71_30 u v) (zc71_82 u v) (fun _ => rfl) (fun _ => rfl)) kV_RL_183 hd_X12_needed rfl rfl ⟨(Nat.le_of_ble_eq_true rfl), (Nat.le_of_ble_eq_true rfl)⟩ hK hS hZ hPc hDc hF 0 rfl rfl rfl hl.1 rfl (Nat.le_of_ble_eq_true rfl) dL_law_1826 ⟨(Nat.le_of_ble_eq_true rfl), (Nat.le_of_ble_eq_true rfl)⟩) (fun r6 u4 H locs w5 hP hD hS => ?_)
  subst w5
  have hP : va_P K.1 classes [(qo, zJ K 1 (va_up (fun _ => 0) 0 (-1))), (qm, zO 10 83 (va_up (zc71 u v) 81 (.int 0)))] H := hP
  have hD : va_D A [(qo, zJ K 1 (va_up (fun _ => 0) 0 (-1))), (qm, zO 10 83 (va_up (zc71 u v) 81 (.int 0)))] := hD
  refine lv_istore (lv' := [(6, .int (-1)), (5, .int 0), (4, .int 0), (3, .ref qo), (2, .ref qm), (1, .ref qx), (0, .ref b)]) hx hb dL_law_1829 hl (by decide) rfl (fun ls hl => ?_)
  refine lv_aload_n hx hb dL_law_1831 rfl (lv_at hl 4 rfl) ?_
  refine z_calli [(qm, zO 10 83 (va_up (zc71 u v) 81 (.int 0)))] [(qo, zJ K 1 (va_up (fun _ => 0) 0 (-1)))] [1] [0] hP hD hS hA rfl rfl (by decide +kernel) (by decide +kernel) (by decide +kernel) 124 1863516 rfl rfl (fun hPc hDc hF => z_runV (As := []) (rest := []) ⟨hx, hb, hml, hown, hg⟩ (cX12_thrown_1 l K H.size qm (va_up (zc71 u v) 81 (.int 0)) zu_eq) kV_RL_104 hd_X12_thrown rfl rfl ⟨(Nat.le_of_ble_eq_true rfl), (Nat.le_of_ble_eq_true rfl)⟩ hK hS hZ hPc hDc hF 0 rfl rfl rfl hl.1 rfl (Nat.le_of_ble_eq_true rfl) dL_law_1832 ⟨(Nat.le_of_ble_eq_true rfl), (Nat.le_of_ble_eq_true rfl)⟩) (fun r9 u7 H locs w8 hP hD hS => ?_)
  subst w8
  have hP : va_P K.1 classes [(qo, zJ K 1 (va_up (fun _ => 0) 0 (-1))), (qm, zO 10 83 (va_up (zc71 u v) 81 (.int 0)))] H := hP
  have hD : va_D A [(qo, zJ K 1 (va_up (fun _ => 0) 0 (-1))), (qm, zO 10 83 (va_up (zc71 u v) 81 (.int 0)))] := hD
  refine lv_iload hx hb dL_law_1835 (lv_at hl 1 rfl) ?_
  refine lv_icmp_eq (tgt := 1842) hx hb dL_law_1837 (by decide) (fun _ => ?_) (fun c => absurd (by decide) c)
  refine lv_iload hx hb dL_law_1842 (lv_at hl 1 rfl) ?_
  refine lv_if_ne (tgt := 1859) hx hb dL_law_1844 (by decide) (fun c => absurd (by decide) c) (fun _ => ?_)
  refine lv_aload_n hx hb dL_law_1847 rfl (lv_at hl 3 rfl) ?_
  refine lv_iconst (v := 0) hx hb dL_law_1848 (by decide) ?_
  refine z_lald (v := (-1)) (j := 0) hx hb hK hP 0 rfl rfl (Nat.le_of_ble_eq_true rfl) (Nat.le_of_ble_eq_true rfl) zu_eq dL_law_1849 ?_
  refine lv_iload hx hb dL_law_1850 (lv_at hl 0 rfl) ?_
  refine lv_i2l hx hb dL_law_1852 rfl ?_
  refine z_cstl (v := (-1)) (by decide +kernel) ?_
  refine W.lcmp hx hb dL_law_1853 ?_
  refine z_cst (v := 0) (by decide +kernel) ?_
  refine lv_if_eq (tgt := 1859) hx hb dL_law_1854 (by decide) (fun _ => ?_) (fun c => absurd (by decide) c)
  refine lv_goto (tgt := 2026) hx hb dL_law_1859 (by decide) ?_
  exact law_back ⟨hx, hb, hr, hml, hown, hg, hX, hbl, hlocks, hK, hZ, hl9, hAA, hA, hbA⟩ (Nat.le_of_ble_eq_true rfl) (Nat.le_of_ble_eq_true rfl) hS (lv_sub hl [2, 6] rfl)
set_option maxHeartbeats 4000000 in
set_option maxRecDepth 100000 in
theorem lawS_23_3 {p : Program} {l : Launch} {e : Env} {s : State} {m : MethodId} {below : List Frame} {meth : Method} {c : Code} {b : Nat} {xs : Nat → Int32} {K : zK} {A : Nat → Prop} {H : Heap} {locs : List Loc} {ls : Array Slot} (C : zC p l s m meth c b xs K A) (qx qm qo : Nat) (u v : Nat → Nat) (h0 : 0 ≤ (xs 1).toInt) (h1 : 8 ≤ (xs 1).toInt) (hP : va_P K.1 classes (lwW K qx qm qo u v) H) (hD : va_D A (lwW K qx qm qo u v)) (hS : va_S A s.heap H locs) (hl : lv_has ls 7 [(4, .int 0), (3, .ref qo), (2, .ref qm), (1, .ref qx), (0, .ref b)]) : W p l e room_1 s m #[Value.ref b] below meth c H locs 124 1863516 (lw_Z below #[Value.ref b] s) (F0 m 1794 ls []) := by
  obtain ⟨hx, hb, hr, hml, hown, hg, hX, hbl, hlocks, hK, hZ, hl9, hAA, hA, hbA⟩ := C
  have hP : va_P K.1 classes [(qx, zO 9 9 (zc0 u v)), (qm, zO 10 83 (zc71 u v)), (qo, zJ K 1 (fun _ => 0))] H := hP.sub [0, 71, 123] rfl
  have hD : va_D A [(qx, zO 9 9 (zc0 u v)), (qm, zO 10 83 (zc71 u v)), (qo, zJ K 1 (fun _ => 0))] := hD.sub [0, 71, 123] (by decide +kernel) rfl
  refine lv_aload_n hx hb dL_law_1794 rfl (lv_at hl 3 rfl) ?_
  refine lv_aload_n hx hb dL_law_1795 rfl (lv_at hl 4 rfl) ?_
  refine lv_iload hx hb dL_law_1796 (lv_at hl 0 rfl) ?_
  refine lv_iconst (v := 1) hx hb dL_law_1798 (by decide) ?_
  refine lv_iadd hx hb dL_law_1799 ?_
  refine z_cst (v := 1) (by decide +kernel) ?_
  refine z_sld (v := (xs 1)) (j := 1) hx hb hX hbl hbA hS rfl (Nat.le_of_ble_eq_true rfl) rfl dL_law_1800 ?_
  refine lv_aload_n hx hb dL_law_1801 rfl (lv_at hl 4 rfl) ?_
  refine lv_iload hx hb dL_law_1802 (lv_at hl 0 rfl) ?_
  refine lv_iconst (v := 2) hx hb dL_law_1804 (by decide) ?_
  refine lv_iadd hx hb dL_law_1805 ?_
  refine z_cst (v := 2) (by decide +kernel) ?_
  refine z_sld (v := (xs 2)) (j := 2) hx hb hX hbl hbA hS rfl (Nat.le_of_ble_eq_true rfl) rfl dL_law_1806 ?_
  refine lv_aload_n hx hb dL_law_1807 rfl (lv_at hl 1 rfl) ?_
  refine z_hcalli [(qx, zO 9 9 (zc0 u v))] [(qm, zO 10 83 (zc71 u v)), (qo, zJ K 1 (fun _ => 0))] [0] [1, 2] hP hD hS hA rfl rfl (by decide +kernel) (by decide +kernel) (by decide +kernel) 125 1863522 rfl rfl (fun hPc hDc hF => z_xrunH (As := [.ref qx, .int (xs 1), .int (xs 2), .ref qo]) (rest := []) ⟨hx, hb, hml, hown, hg⟩ (cL_needed_4 l hl9 K H.size qx qo (zc0 u v) (xs 1) (xs 2) (by rw [Int32.lt_iff_toInt_lt, show (0 : Int32).toInt = 0 from by decide]; omega) (by rw [Int32.lt_iff_toInt_lt, show (8 : Int32).toInt = 8 from by decide]; omega)) kS_RL_181 hd_L_needed rfl rfl ⟨(Nat.le_of_ble_eq_true rfl), (Nat.le_of_ble_eq_true rfl)⟩ hK hS hZ hPc hDc hF rfl hl.1 rfl (Nat.le_of_ble_eq_true rfl) dL_law_1808 ⟨(Nat.le_of_ble_eq_true rfl), (Nat.le_of_ble_eq_true rfl)⟩) (fun r3 u1 H locs w2 hP hD hS => ?_)
  subst w2
  have hP : va_P K.1 classes [(qm, zO 10 83 (zc71 u v)), (qo, zJ K 1 (fun _ => 0))] H := hP
  have hD : va_D A [(qm, zO 10 83 (zc71 u v)), (qo, zJ K 1 (fun _ => 0))] := hD
  refine lv_istore (lv' := [(5, .int 1), (4, .int 0), (3, .ref qo), (2, .ref qm), (1, .ref qx), (0, .ref b)]) hx hb dL_law_1811 hl (by decide) rfl (fun ls hl => ?_)
  refine lv_aload_n hx hb dL_law_1813 rfl (lv_at hl 3 rfl) ?_
  refine lv_aload_n hx hb dL_law_1814 rfl (lv_at hl 5 rfl) ?_
  refine lv_iload hx hb dL_law_1815 (lv_at hl 1 rfl) ?_
  refine lv_iconst (v := 1) hx hb dL_law_1817 (by decide) ?_
  refine lv_iadd hx hb dL_law_1818 ?_
  refine z_cst (v := 1) (by decide +kernel) ?_
  refine z_sld (v := (xs 1)) (j := 1) hx hb hX hbl hbA hS rfl (Nat.le_of_ble_eq_true rfl) rfl dL_law_1819 ?_
  refine lv_aload_n hx hb dL_law_1820 rfl (lv_at hl 5 rfl) ?_
  refine lv_iload hx hb dL_law_1821 (lv_at hl 1 rfl) ?_
  refine lv_iconst (v := 2) hx hb dL_law_1823 (by decide) ?_
  refine lv_iadd hx hb dL_law_1824 ?_
  refine z_cst (v := 2) (by decide +kernel) ?_
  refine z_sld (v := (xs 2)) (j := 2) hx hb hX hbl hbA hS rfl (Nat.le_of_ble_eq_true rfl) rfl dL_law_1825 ?_
  refine z_calli [(qm, zO 10 83 (zc71 u v))] [(qo, zJ K 1 (fun _ => 0))] [0] [1] hP hD hS hA rfl rfl (by decide +kernel) (by decide +kernel) (by decide +kernel) 125 1863522 rfl rfl (fun hPc hDc hF => z_runV (As := [.int (xs 1), .int (xs 2)]) (rest := []) ⟨hx, hb, hml, hown, hg⟩ (cX12_needed_4 l K H.size qm (zc71 u v) (xs 1) (xs 2) (by rw [Int32.lt_iff_toInt_lt, show (0 : Int32).toInt = 0 from by decide]; omega) (by rw [Int32.lt_iff_toInt_lt, show (7 : Int32).toInt = 7 from by decide]; omega)) kV_RL_183 hd_X12_needed rfl rfl ⟨(Nat.le_of_ble_eq_true rfl), (Nat.le_of_ble_eq_true rfl)⟩ hK hS hZ hPc hDc hF 0 rfl rfl rfl hl.1 rfl (Nat.le_of_ble_eq_true rfl) dL_law_1826 ⟨(Nat.le_of_ble_eq_true rfl), (Nat.le_of_ble_eq_true rfl)⟩) (fun r6 u4 H locs w5 hP hD hS => ?_)
  subst w5
  have hP : va_P K.1 classes [(qo, zJ K 1 (fun _ => 0)), (qm, zO 10 83 (va_up (zc71 u v) 81 (.int 1)))] H := hP
  have hD : va_D A [(qo, zJ K 1 (fun _ => 0)), (qm, zO 10 83 (va_up (zc71 u v) 81 (.int 1)))] := hD
  refine lv_istore (lv' := [(6, .int 0), (5, .int 1), (4, .int 0), (3, .ref qo), (2, .ref qm), (1, .ref qx), (0, .ref b)]) hx hb dL_law_1829 hl (by decide) rfl (fun ls hl => ?_)
  refine lv_aload_n hx hb dL_law_1831 rfl (lv_at hl 4 rfl) ?_
  refine z_calli [(qm, zO 10 83 (va_up (zc71 u v) 81 (.int 1)))] [(qo, zJ K 1 (fun _ => 0))] [1] [0] hP hD hS hA rfl rfl (by decide +kernel) (by decide +kernel) (by decide +kernel) 125 1863522 rfl rfl (fun hPc hDc hF => z_runV (As := []) (rest := []) ⟨hx, hb, hml, hown, hg⟩ (cX12_thrown_2 l K H.size qm (va_up (zc71 u v) 81 (.int 1)) zu_eq) kV_RL_104 hd_X12_thrown rfl rfl ⟨(Nat.le_of_ble_eq_true rfl), (Nat.le_of_ble_eq_true rfl)⟩ hK hS hZ hPc hDc hF 0 rfl rfl rfl hl.1 rfl (Nat.le_of_ble_eq_true rfl) dL_law_1832 ⟨(Nat.le_of_ble_eq_true rfl), (Nat.le_of_ble_eq_true rfl)⟩) (fun r9 u7 H locs w8 hP hD hS => ?_)
  subst w8
  have hP : va_P K.1 classes [(qo, zJ K 1 (fun _ => 0)), (qm, zO 10 83 (va_up (zc71 u v) 81 (.int 1)))] H := hP
  have hD : va_D A [(qo, zJ K 1 (fun _ => 0)), (qm, zO 10 83 (va_up (zc71 u v) 81 (.int 1)))] := hD
  refine lv_iload hx hb dL_law_1835 (lv_at hl 1 rfl) ?_
  refine lv_icmp_eq (tgt := 1842) hx hb dL_law_1837 (by decide) (fun _ => ?_) (fun c => absurd (by decide) c)
  refine lv_iload hx hb dL_law_1842 (lv_at hl 1 rfl) ?_
  refine lv_if_ne (tgt := 1859) hx hb dL_law_1844 (by decide) (fun _ => ?_) (fun c => absurd c (by decide))
  refine lv_goto (tgt := 2026) hx hb dL_law_1859 (by decide) ?_
  exact law_back ⟨hx, hb, hr, hml, hown, hg, hX, hbl, hlocks, hK, hZ, hl9, hAA, hA, hbA⟩ (Nat.le_of_ble_eq_true rfl) (Nat.le_of_ble_eq_true rfl) hS (lv_sub hl [2, 6] rfl)
theorem lawC_23 {p : Program} {l : Launch} {e : Env} {s : State} {m : MethodId} {below : List Frame} {meth : Method} {c : Code} {b : Nat} {xs : Nat → Int32} {K : zK} {A : Nat → Prop} {H : Heap} {locs : List Loc} {ls : Array Slot} (C : zC p l s m meth c b xs K A) (qx qm qo : Nat) (u v : Nat → Nat) (hP : va_P K.1 classes (lwW K qx qm qo u v) H) (hD : va_D A (lwW K qx qm qo u v)) (hS : va_S A s.heap H locs) (hl : lv_has ls 7 [(4, .int 0), (3, .ref qo), (2, .ref qm), (1, .ref qx), (0, .ref b)]) : W p l e room_1 s m #[Value.ref b] below meth c H locs 124 1863516 (lw_Z below #[Value.ref b] s) (F0 m 1794 ls []) := by
  rcases z_split (xs 1) (0) with h0 | h0
  · exact lawS_23_0 C qx qm qo u v h0 hP hD hS hl
  · rcases z_split (xs 1) (8) with h1 | h1
    · rcases z_split (xs 2) (0) with h2 | h2
      · exact lawS_23_1 C qx qm qo u v h0 h1 h2 hP hD hS hl
      · exact lawS_23_2 C qx qm qo u v h0 h1 h2 hP hD hS hl
    · exact lawS_23_3 C qx qm qo u v h0 h1 hP hD hS hl
set_option maxHeartbeats 4000000 in
set_option maxRecDepth 100000 in
theorem lawS_24_0 {p : Program} {l : Launch} {e : Env} {s : State} {m : MethodId} {below : List Frame} {meth : Method} {c : Code} {b : Nat} {xs : Nat → Int32} {K : zK} {A : Nat → Prop} {H : Heap} {locs : List Loc} {ls : Array Slot} (C : zC p l s m meth c b xs K A) (qx qm qo : Nat) (u v : Nat → Nat) (h0 : xs 2 = 0) (h1 : (xs 1).toInt < 0) (hP : va_P K.1 classes (lwW K qx qm qo u v) H) (hD : va_D A (lwW K qx qm qo u v)) (hS : va_S A s.heap H locs) (hl : lv_has ls 7 [(4, .int 0), (3, .ref qo), (2, .ref qm), (1, .ref qx), (0, .ref b)]) : W p l e room_1 s m #[Value.ref b] below meth c H locs 124 1863516 (lw_Z below #[Value.ref b] s) (F0 m 1862 ls []) := by
  obtain ⟨hx, hb, hr, hml, hown, hg, hX, hbl, hlocks, hK, hZ, hl9, hAA, hA, hbA⟩ := C
  have hP : va_P K.1 classes [(qx, zO 9 9 (zc0 u v)), (qm, zO 10 83 (zc71 u v)), (qo, zJ K 1 (fun _ => 0))] H := hP.sub [0, 71, 123] rfl
  have hD : va_D A [(qx, zO 9 9 (zc0 u v)), (qm, zO 10 83 (zc71 u v)), (qo, zJ K 1 (fun _ => 0))] := hD.sub [0, 71, 123] (by decide +kernel) rfl
  refine lv_aload_n hx hb dL_law_1862 rfl (lv_at hl 3 rfl) ?_
  refine lv_aload_n hx hb dL_law_1863 rfl (lv_at hl 4 rfl) ?_
  refine lv_iload hx hb dL_law_1864 (lv_at hl 0 rfl) ?_
  refine lv_iconst (v := 1) hx hb dL_law_1866 (by decide) ?_
  refine lv_iadd hx hb dL_law_1867 ?_
  refine z_cst (v := 1) (by decide +kernel) ?_
  refine z_sld (v := (xs 1)) (j := 1) hx hb hX hbl hbA hS rfl (Nat.le_of_ble_eq_true rfl) rfl dL_law_1868 ?_
  refine lv_aload_n hx hb dL_law_1869 rfl (lv_at hl 4 rfl) ?_
  refine lv_iload hx hb dL_law_1870 (lv_at hl 0 rfl) ?_
  refine lv_iconst (v := 2) hx hb dL_law_1872 (by decide) ?_
  refine lv_iadd hx hb dL_law_1873 ?_
  refine z_cst (v := 2) (by decide +kernel) ?_
  refine z_sld (v := 0) (j := 2) hx hb hX hbl hbA hS rfl (Nat.le_of_ble_eq_true rfl) h0 dL_law_1874 ?_
  refine lv_if_eq (tgt := 1882) hx hb dL_law_1875 (by decide) (fun _ => ?_) (fun c => absurd (by decide) c)
  refine lv_iconst (v := 0) hx hb dL_law_1882 (by decide) ?_
  refine lv_aload_n hx hb dL_law_1883 rfl (lv_at hl 1 rfl) ?_
  refine z_hcalli [(qx, zO 9 9 (zc0 u v))] [(qm, zO 10 83 (zc71 u v)), (qo, zJ K 1 (fun _ => 0))] [0] [1, 2] hP hD hS hA rfl rfl (by decide +kernel) (by decide +kernel) (by decide +kernel) 125 1863522 rfl rfl (fun hPc hDc hF => z_xrunH (As := [.ref qx, .int (xs 1), .int 0, .ref qo]) (rest := []) ⟨hx, hb, hml, hown, hg⟩ (cL_size_1 l hl9 K H.size qx qo (zc0 u v) (xs 1) (by rw [Int32.lt_iff_toInt_lt, show (0 : Int32).toInt = 0 from by decide]; omega)) kS_RL_184 hd_L_size rfl rfl ⟨(Nat.le_of_ble_eq_true rfl), (Nat.le_of_ble_eq_true rfl)⟩ hK hS hZ hPc hDc hF rfl hl.1 rfl (Nat.le_of_ble_eq_true rfl) dL_law_1884 ⟨(Nat.le_of_ble_eq_true rfl), (Nat.le_of_ble_eq_true rfl)⟩) (fun r3 u1 H locs w2 hP hD hS => ?_)
  subst w2
  have hP : va_P K.1 classes [(qm, zO 10 83 (zc71 u v)), (qo, zJ K 1 (fun _ => 0))] H := hP
  have hD : va_D A [(qm, zO 10 83 (zc71 u v)), (qo, zJ K 1 (fun _ => 0))] := hD
  refine lv_istore (lv' := [(5, .int 1), (4, .int 0), (3, .ref qo), (2, .ref qm), (1, .ref qx), (0, .ref b)]) hx hb dL_law_1887 hl (by decide) rfl (fun ls hl => ?_)
  refine lv_aload_n hx hb dL_law_1889 rfl (lv_at hl 3 rfl) ?_
  refine lv_aload_n hx hb dL_law_1890 rfl (lv_at hl 5 rfl) ?_
  refine lv_iload hx hb dL_law_1891 (lv_at hl 1 rfl) ?_
  refine lv_iconst (v := 1) hx hb dL_law_1893 (by decide) ?_
  refine lv_iadd hx hb dL_law_1894 ?_
  refine z_cst (v := 1) (by decide +kernel) ?_
  refine z_sld (v := (xs 1)) (j := 1) hx hb hX hbl hbA hS rfl (Nat.le_of_ble_eq_true rfl) rfl dL_law_1895 ?_
  refine lv_aload_n hx hb dL_law_1896 rfl (lv_at hl 5 rfl) ?_
  refine lv_iload hx hb dL_law_1897 (lv_at hl 1 rfl) ?_
  refine lv_iconst (v := 2) hx hb dL_law_1899 (by decide) ?_
  refine lv_iadd hx hb dL_law_1900 ?_
  refine z_cst (v := 2) (by decide +kernel) ?_
  refine z_sld (v := 0) (j := 2) hx hb hX hbl hbA hS rfl (Nat.le_of_ble_eq_true rfl) h0 dL_law_1901 ?_
  refine lv_if_eq (tgt := 1909) hx hb dL_law_1902 (by decide) (fun _ => ?_) (fun c => absurd (by decide) c)
  refine lv_iconst (v := 0) hx hb dL_law_1909 (by decide) ?_
  refine z_calli [(qm, zO 10 83 (zc71 u v))] [(qo, zJ K 1 (fun _ => 0))] [0] [1] hP hD hS hA rfl rfl (by decide +kernel) (by decide +kernel) (by decide +kernel) 125 1863522 rfl rfl (fun hPc hDc hF => z_runV (As := [.int (xs 1), .int 0]) (rest := []) ⟨hx, hb, hml, hown, hg⟩ (cX12_size_1 l K H.size qm (zc71 u v) (xs 1) (by rw [Int32.lt_iff_toInt_lt, show (0 : Int32).toInt = 0 from by decide]; omega)) kV_RL_187 hd_X12_size rfl rfl ⟨(Nat.le_of_ble_eq_true rfl), (Nat.le_of_ble_eq_true rfl)⟩ hK hS hZ hPc hDc hF 0 rfl rfl rfl hl.1 rfl (Nat.le_of_ble_eq_true rfl) dL_law_1910 ⟨(Nat.le_of_ble_eq_true rfl), (Nat.le_of_ble_eq_true rfl)⟩) (fun r6 u4 H locs w5 hP hD hS => ?_)
  subst w5
  have hP : va_P K.1 classes [(qo, zJ K 1 (fun _ => 0)), (qm, zO 10 83 (va_up (zc71 u v) 81 (.int 1)))] H := hP
  have hD : va_D A [(qo, zJ K 1 (fun _ => 0)), (qm, zO 10 83 (va_up (zc71 u v) 81 (.int 1)))] := hD
  refine lv_istore (lv' := [(6, .int 0), (5, .int 1), (4, .int 0), (3, .ref qo), (2, .ref qm), (1, .ref qx), (0, .ref b)]) hx hb dL_law_1913 hl (by decide) rfl (fun ls hl => ?_)
  refine lv_aload_n hx hb dL_law_1915 rfl (lv_at hl 4 rfl) ?_
  refine z_calli [(qm, zO 10 83 (va_up (zc71 u v) 81 (.int 1)))] [(qo, zJ K 1 (fun _ => 0))] [1] [0] hP hD hS hA rfl rfl (by decide +kernel) (by decide +kernel) (by decide +kernel) 125 1863522 rfl rfl (fun hPc hDc hF => z_runV (As := []) (rest := []) ⟨hx, hb, hml, hown, hg⟩ (cX12_thrown_2 l K H.size qm (va_up (zc71 u v) 81 (.int 1)) zu_eq) kV_RL_104 hd_X12_thrown rfl rfl ⟨(Nat.le_of_ble_eq_true rfl), (Nat.le_of_ble_eq_true rfl)⟩ hK hS hZ hPc hDc hF 0 rfl rfl rfl hl.1 rfl (Nat.le_of_ble_eq_true rfl) dL_law_1916 ⟨(Nat.le_of_ble_eq_true rfl), (Nat.le_of_ble_eq_true rfl)⟩) (fun r9 u7 H locs w8 hP hD hS => ?_)
  subst w8
  have hP : va_P K.1 classes [(qo, zJ K 1 (fun _ => 0)), (qm, zO 10 83 (va_up (zc71 u v) 81 (.int 1)))] H := hP
  have hD : va_D A [(qo, zJ K 1 (fun _ => 0)), (qm, zO 10 83 (va_up (zc71 u v) 81 (.int 1)))] := hD
  refine lv_iload hx hb dL_law_1919 (lv_at hl 1 rfl) ?_
  refine lv_icmp_eq (tgt := 1926) hx hb dL_law_1921 (by decide) (fun _ => ?_) (fun c => absurd (by decide) c)
  refine lv_iload hx hb dL_law_1926 (lv_at hl 1 rfl) ?_
  refine lv_if_ne (tgt := 1943) hx hb dL_law_1928 (by decide) (fun _ => ?_) (fun c => absurd c (by decide))
  refine lv_goto (tgt := 2026) hx hb dL_law_1943 (by decide) ?_
  exact law_back ⟨hx, hb, hr, hml, hown, hg, hX, hbl, hlocks, hK, hZ, hl9, hAA, hA, hbA⟩ (Nat.le_of_ble_eq_true rfl) (Nat.le_of_ble_eq_true rfl) hS (lv_sub hl [2, 6] rfl)
set_option maxHeartbeats 4000000 in
set_option maxRecDepth 100000 in
theorem lawS_24_1 {p : Program} {l : Launch} {e : Env} {s : State} {m : MethodId} {below : List Frame} {meth : Method} {c : Code} {b : Nat} {xs : Nat → Int32} {K : zK} {A : Nat → Prop} {H : Heap} {locs : List Loc} {ls : Array Slot} (C : zC p l s m meth c b xs K A) (qx qm qo : Nat) (u v : Nat → Nat) (h0 : xs 2 = 0) (h1 : 0 ≤ (xs 1).toInt) (h2 : (xs 1).toInt < 8) (hP : va_P K.1 classes (lwW K qx qm qo u v) H) (hD : va_D A (lwW K qx qm qo u v)) (hS : va_S A s.heap H locs) (hl : lv_has ls 7 [(4, .int 0), (3, .ref qo), (2, .ref qm), (1, .ref qx), (0, .ref b)]) : W p l e room_1 s m #[Value.ref b] below meth c H locs 124 1863516 (lw_Z below #[Value.ref b] s) (F0 m 1862 ls []) := by
  obtain ⟨hx, hb, hr, hml, hown, hg, hX, hbl, hlocks, hK, hZ, hl9, hAA, hA, hbA⟩ := C
  have hP : va_P K.1 classes [(qx, zO 9 9 (zc0 u v)), ((u 8), zO 4 6 (zc9 u v)), ((u 15), zI K 8 (fun _ => 0)), (qm, zO 10 83 (zc71 u v)), ((v 13), zI K 16 (fun _ => 0)), (qo, zJ K 1 (fun _ => 0))] H := hP.sub [0, 9, 16, 71, 85, 123] rfl
  have hD : va_D A [(qx, zO 9 9 (zc0 u v)), ((u 8), zO 4 6 (zc9 u v)), ((u 15), zI K 8 (fun _ => 0)), (qm, zO 10 83 (zc71 u v)), ((v 13), zI K 16 (fun _ => 0)), (qo, zJ K 1 (fun _ => 0))] := hD.sub [0, 9, 16, 71, 85, 123] (by decide +kernel) rfl
  obtain ⟨t1, ht1, v1⟩ : ∃ j : Nat, j < 8 ∧ xs 1 = nI j := z_nat (n := 8) (by omega) (by omega) (by decide)
  refine lv_aload_n hx hb dL_law_1862 rfl (lv_at hl 3 rfl) ?_
  refine lv_aload_n hx hb dL_law_1863 rfl (lv_at hl 4 rfl) ?_
  refine lv_iload hx hb dL_law_1864 (lv_at hl 0 rfl) ?_
  refine lv_iconst (v := 1) hx hb dL_law_1866 (by decide) ?_
  refine lv_iadd hx hb dL_law_1867 ?_
  refine z_cst (v := 1) (by decide +kernel) ?_
  refine z_sld (v := (nI t1)) (j := 1) hx hb hX hbl hbA hS rfl (Nat.le_of_ble_eq_true rfl) v1 dL_law_1868 ?_
  refine lv_aload_n hx hb dL_law_1869 rfl (lv_at hl 4 rfl) ?_
  refine lv_iload hx hb dL_law_1870 (lv_at hl 0 rfl) ?_
  refine lv_iconst (v := 2) hx hb dL_law_1872 (by decide) ?_
  refine lv_iadd hx hb dL_law_1873 ?_
  refine z_cst (v := 2) (by decide +kernel) ?_
  refine z_sld (v := 0) (j := 2) hx hb hX hbl hbA hS rfl (Nat.le_of_ble_eq_true rfl) h0 dL_law_1874 ?_
  refine lv_if_eq (tgt := 1882) hx hb dL_law_1875 (by decide) (fun _ => ?_) (fun c => absurd (by decide) c)
  refine lv_iconst (v := 0) hx hb dL_law_1882 (by decide) ?_
  refine lv_aload_n hx hb dL_law_1883 rfl (lv_at hl 1 rfl) ?_
  refine z_hcalli [(qx, zO 9 9 (zc0 u v)), ((u 8), zO 4 6 (zc9 u v)), ((u 15), zI K 8 (fun _ => 0)), (qo, zJ K 1 (fun _ => 0))] [(qm, zO 10 83 (zc71 u v)), ((v 13), zI K 16 (fun _ => 0))] [0, 1, 2, 5] [3, 4] hP hD hS hA rfl rfl (by decide +kernel) (by decide +kernel) (by decide +kernel) 124 1863516 rfl rfl (fun hPc hDc hF => z_xrunH (As := [.ref qx, .int (nI t1), .int 0, .ref qo]) (rest := []) ⟨hx, hb, hml, hown, hg⟩ (cL_size_2 l hl9 K H.size qx qo (u 8) (u 15) (zc0 u v) (zc9 u v) (fun _ => 0) (fun _ => 0) t1 ht1 (zc0_3 u v) (zc9_1 u v) (fun _ => rfl)) kS_RL_184 hd_L_size rfl rfl ⟨(Nat.le_of_ble_eq_true rfl), (Nat.le_of_ble_eq_true rfl)⟩ hK hS hZ hPc hDc hF rfl hl.1 rfl (Nat.le_of_ble_eq_true rfl) dL_law_1884 ⟨(Nat.le_of_ble_eq_true rfl), (Nat.le_of_ble_eq_true rfl)⟩) (fun r3 u1 H locs w2 hP hD hS => ?_)
  subst w2
  have hP : va_P K.1 classes [(qm, zO 10 83 (zc71 u v)), ((v 13), zI K 16 (fun _ => 0)), (qo, zJ K 1 (va_up (fun _ => 0) 0 0))] H := hP
  have hD : va_D A [(qm, zO 10 83 (zc71 u v)), ((v 13), zI K 16 (fun _ => 0)), (qo, zJ K 1 (va_up (fun _ => 0) 0 0))] := hD
  refine lv_istore (lv' := [(5, .int 0), (4, .int 0), (3, .ref qo), (2, .ref qm), (1, .ref qx), (0, .ref b)]) hx hb dL_law_1887 hl (by decide) rfl (fun ls hl => ?_)
  refine lv_aload_n hx hb dL_law_1889 rfl (lv_at hl 3 rfl) ?_
  refine lv_aload_n hx hb dL_law_1890 rfl (lv_at hl 5 rfl) ?_
  refine lv_iload hx hb dL_law_1891 (lv_at hl 1 rfl) ?_
  refine lv_iconst (v := 1) hx hb dL_law_1893 (by decide) ?_
  refine lv_iadd hx hb dL_law_1894 ?_
  refine z_cst (v := 1) (by decide +kernel) ?_
  refine z_sld (v := (nI t1)) (j := 1) hx hb hX hbl hbA hS rfl (Nat.le_of_ble_eq_true rfl) v1 dL_law_1895 ?_
  refine lv_aload_n hx hb dL_law_1896 rfl (lv_at hl 5 rfl) ?_
  refine lv_iload hx hb dL_law_1897 (lv_at hl 1 rfl) ?_
  refine lv_iconst (v := 2) hx hb dL_law_1899 (by decide) ?_
  refine lv_iadd hx hb dL_law_1900 ?_
  refine z_cst (v := 2) (by decide +kernel) ?_
  refine z_sld (v := 0) (j := 2) hx hb hX hbl hbA hS rfl (Nat.le_of_ble_eq_true rfl) h0 dL_law_1901 ?_
  refine lv_if_eq (tgt := 1909) hx hb dL_law_1902 (by decide) (fun _ => ?_) (fun c => absurd (by decide) c)
  refine lv_iconst (v := 0) hx hb dL_law_1909 (by decide) ?_
  refine z_calli [(qm, zO 10 83 (zc71 u v)), ((v 13), zI K 16 (fun _ => 0))] [(qo, zJ K 1 (va_up (fun _ => 0) 0 0))] [0, 1] [2] hP hD hS hA rfl rfl (by decide +kernel) (by decide +kernel) (by decide +kernel) 124 1863516 rfl rfl (fun hPc hDc hF => z_runV (As := [.int (nI t1), .int 0]) (rest := []) ⟨hx, hb, hml, hown, hg⟩ (cX12_size_2 l K H.size qm (v 13) (zc71 u v) (fun _ => 0) t1 ht1 (zc71_14 u v) (fun _ => rfl)) kV_RL_187 hd_X12_size rfl rfl ⟨(Nat.le_of_ble_eq_true rfl), (Nat.le_of_ble_eq_true rfl)⟩ hK hS hZ hPc hDc hF 0 rfl rfl rfl hl.1 rfl (Nat.le_of_ble_eq_true rfl) dL_law_1910 ⟨(Nat.le_of_ble_eq_true rfl), (Nat.le_of_ble_eq_true rfl)⟩) (fun r6 u4 H locs w5 hP hD hS => ?_)
  subst w5
  have hP : va_P K.1 classes [(qo, zJ K 1 (va_up (fun _ => 0) 0 0)), (qm, zO 10 83 (va_up (zc71 u v) 81 (.int 0)))] H := hP
  have hD : va_D A [(qo, zJ K 1 (va_up (fun _ => 0) 0 0)), (qm, zO 10 83 (va_up (zc71 u v) 81 (.int 0)))] := hD
  refine lv_istore (lv' := [(6, .int 0), (5, .int 0), (4, .int 0), (3, .ref qo), (2, .ref qm), (1, .ref qx), (0, .ref b)]) hx hb dL_law_1913 hl (by decide) rfl (fun ls hl => ?_)
  refine lv_aload_n hx hb dL_law_1915 rfl (lv_at hl 4 rfl) ?_
  refine z_calli [(qm, zO 10 83 (va_up (zc71 u v) 81 (.int 0)))] [(qo, zJ K 1 (va_up (fun _ => 0) 0 0))] [1] [0] hP hD hS hA rfl rfl (by decide +kernel) (by decide +kernel) (by decide +kernel) 124 1863516 rfl rfl (fun hPc hDc hF => z_runV (As := []) (rest := []) ⟨hx, hb, hml, hown, hg⟩ (cX12_thrown_1 l K H.size qm (va_up (zc71 u v) 81 (.int 0)) zu_eq) kV_RL_104 hd_X12_thrown rfl rfl ⟨(Nat.le_of_ble_eq_true rfl), (Nat.le_of_ble_eq_true rfl)⟩ hK hS hZ hPc hDc hF 0 rfl rfl rfl hl.1 rfl (Nat.le_of_ble_eq_true rfl) dL_law_1916 ⟨(Nat.le_of_ble_eq_true rfl), (Nat.le_of_ble_eq_true rfl)⟩) (fun r9 u7 H locs w8 hP hD hS => ?_)
  subst w8
  have hP : va_P K.1 classes [(qo, zJ K 1 (va_up (fun _ => 0) 0 0)), (qm, zO 10 83 (va_up (zc71 u v) 81 (.int 0)))] H := hP
  have hD : va_D A [(qo, zJ K 1 (va_up (fun _ => 0) 0 0)), (qm, zO 10 83 (va_up (zc71 u v) 81 (.int 0)))] := hD
  refine lv_iload hx hb dL_law_1919 (lv_at hl 1 rfl) ?_
  refine lv_icmp_eq (tgt := 1926) hx hb dL_law_1921 (by decide) (fun _ => ?_) (fun c => absurd (by decide) c)
  refine lv_iload hx hb dL_law_1926 (lv_at hl 1 rfl) ?_
  refine lv_if_ne (tgt := 1943) hx hb dL_law_1928 (by decide) (fun c => absurd (by decide) c) (fun _ => ?_)
  refine lv_aload_n hx hb dL_law_1931 rfl (lv_at hl 3 rfl) ?_
  refine lv_iconst (v := 0) hx hb dL_law_1932 (by decide) ?_
  refine z_lald (v := 0) (j := 0) hx hb hK hP 0 rfl rfl (Nat.le_of_ble_eq_true rfl) (Nat.le_of_ble_eq_true rfl) zu_eq dL_law_1933 ?_
  refine lv_iload hx hb dL_law_1934 (lv_at hl 0 rfl) ?_
  refine lv_i2l hx hb dL_law_1936 rfl ?_
  refine z_cstl (v := 0) (by decide +kernel) ?_
  refine W.lcmp hx hb dL_law_1937 ?_
  refine z_cst (v := 0) (by decide +kernel) ?_
  refine lv_if_eq (tgt := 1943) hx hb dL_law_1938 (by decide) (fun _ => ?_) (fun c => absurd (by decide) c)
  refine lv_goto (tgt := 2026) hx hb dL_law_1943 (by decide) ?_
  exact law_back ⟨hx, hb, hr, hml, hown, hg, hX, hbl, hlocks, hK, hZ, hl9, hAA, hA, hbA⟩ (Nat.le_of_ble_eq_true rfl) (Nat.le_of_ble_eq_true rfl) hS (lv_sub hl [2, 6] rfl)
set_option maxHeartbeats 4000000 in
set_option maxRecDepth 100000 in
theorem lawS_24_2 {p : Program} {l : Launch} {e : Env} {s : State} {m : MethodId} {below : List Frame} {meth : Method} {c : Code} {b : Nat} {xs : Nat → Int32} {K : zK} {A : Nat → Prop} {H : Heap} {locs : List Loc} {ls : Array Slot} (C : zC p l s m meth c b xs K A) (qx qm qo : Nat) (u v : Nat → Nat) (h0 : xs 2 = 0) (h1 : 0 ≤ (xs 1).toInt) (h2 : 8 ≤ (xs 1).toInt) (hP : va_P K.1 classes (lwW K qx qm qo u v) H) (hD : va_D A (lwW K qx qm qo u v)) (hS : va_S A s.heap H locs) (hl : lv_has ls 7 [(4, .int 0), (3, .ref qo), (2, .ref qm), (1, .ref qx), (0, .ref b)]) : W p l e room_1 s m #[Value.ref b] below meth c H locs 124 1863516 (lw_Z below #[Value.ref b] s) (F0 m 1862 ls []) := by
  obtain ⟨hx, hb, hr, hml, hown, hg, hX, hbl, hlocks, hK, hZ, hl9, hAA, hA, hbA⟩ := C
  have hP : va_P K.1 classes [(qx, zO 9 9 (zc0 u v)), (qm, zO 10 83 (zc71 u v)), (qo, zJ K 1 (fun _ => 0))] H := hP.sub [0, 71, 123] rfl
  have hD : va_D A [(qx, zO 9 9 (zc0 u v)), (qm, zO 10 83 (zc71 u v)), (qo, zJ K 1 (fun _ => 0))] := hD.sub [0, 71, 123] (by decide +kernel) rfl
  refine lv_aload_n hx hb dL_law_1862 rfl (lv_at hl 3 rfl) ?_
  refine lv_aload_n hx hb dL_law_1863 rfl (lv_at hl 4 rfl) ?_
  refine lv_iload hx hb dL_law_1864 (lv_at hl 0 rfl) ?_
  refine lv_iconst (v := 1) hx hb dL_law_1866 (by decide) ?_
  refine lv_iadd hx hb dL_law_1867 ?_
  refine z_cst (v := 1) (by decide +kernel) ?_
  refine z_sld (v := (xs 1)) (j := 1) hx hb hX hbl hbA hS rfl (Nat.le_of_ble_eq_true rfl) rfl dL_law_1868 ?_
  refine lv_aload_n hx hb dL_law_1869 rfl (lv_at hl 4 rfl) ?_
  refine lv_iload hx hb dL_law_1870 (lv_at hl 0 rfl) ?_
  refine lv_iconst (v := 2) hx hb dL_law_1872 (by decide) ?_
  refine lv_iadd hx hb dL_law_1873 ?_
  refine z_cst (v := 2) (by decide +kernel) ?_
  refine z_sld (v := 0) (j := 2) hx hb hX hbl hbA hS rfl (Nat.le_of_ble_eq_true rfl) h0 dL_law_1874 ?_
  refine lv_if_eq (tgt := 1882) hx hb dL_law_1875 (by decide) (fun _ => ?_) (fun c => absurd (by decide) c)
  refine lv_iconst (v := 0) hx hb dL_law_1882 (by decide) ?_
  refine lv_aload_n hx hb dL_law_1883 rfl (lv_at hl 1 rfl) ?_
  refine z_hcalli [(qx, zO 9 9 (zc0 u v))] [(qm, zO 10 83 (zc71 u v)), (qo, zJ K 1 (fun _ => 0))] [0] [1, 2] hP hD hS hA rfl rfl (by decide +kernel) (by decide +kernel) (by decide +kernel) 125 1863522 rfl rfl (fun hPc hDc hF => z_xrunH (As := [.ref qx, .int (xs 1), .int 0, .ref qo]) (rest := []) ⟨hx, hb, hml, hown, hg⟩ (cL_size_3 l hl9 K H.size qx qo (zc0 u v) (xs 1) (by rw [Int32.lt_iff_toInt_lt, show (0 : Int32).toInt = 0 from by decide]; omega) (by rw [Int32.lt_iff_toInt_lt, show (8 : Int32).toInt = 8 from by decide]; omega)) kS_RL_184 hd_L_size rfl rfl ⟨(Nat.le_of_ble_eq_true rfl), (Nat.le_of_ble_eq_true rfl)⟩ hK hS hZ hPc hDc hF rfl hl.1 rfl (Nat.le_of_ble_eq_true rfl) dL_law_1884 ⟨(Nat.le_of_ble_eq_true rfl), (Nat.le_of_ble_eq_true rfl)⟩) (fun r3 u1 H locs w2 hP hD hS => ?_)
  subst w2
  have hP : va_P K.1 classes [(qm, zO 10 83 (zc71 u v)), (qo, zJ K 1 (fun _ => 0))] H := hP
  have hD : va_D A [(qm, zO 10 83 (zc71 u v)), (qo, zJ K 1 (fun _ => 0))] := hD
  refine lv_istore (lv' := [(5, .int 1), (4, .int 0), (3, .ref qo), (2, .ref qm), (1, .ref qx), (0, .ref b)]) hx hb dL_law_1887 hl (by decide) rfl (fun ls hl => ?_)
  refine lv_aload_n hx hb dL_law_1889 rfl (lv_at hl 3 rfl) ?_
  refine lv_aload_n hx hb dL_law_1890 rfl (lv_at hl 5 rfl) ?_
  refine lv_iload hx hb dL_law_1891 (lv_at hl 1 rfl) ?_
  refine lv_iconst (v := 1) hx hb dL_law_1893 (by decide) ?_
  refine lv_iadd hx hb dL_law_1894 ?_
  refine z_cst (v := 1) (by decide +kernel) ?_
  refine z_sld (v := (xs 1)) (j := 1) hx hb hX hbl hbA hS rfl (Nat.le_of_ble_eq_true rfl) rfl dL_law_1895 ?_
  refine lv_aload_n hx hb dL_law_1896 rfl (lv_at hl 5 rfl) ?_
  refine lv_iload hx hb dL_law_1897 (lv_at hl 1 rfl) ?_
  refine lv_iconst (v := 2) hx hb dL_law_1899 (by decide) ?_
  refine lv_iadd hx hb dL_law_1900 ?_
  refine z_cst (v := 2) (by decide +kernel) ?_
  refine z_sld (v := 0) (j := 2) hx hb hX hbl hbA hS rfl (Nat.le_of_ble_eq_true rfl) h0 dL_law_1901 ?_
  refine lv_if_eq (tgt := 1909) hx hb dL_law_1902 (by decide) (fun _ => ?_) (fun c => absurd (by decide) c)
  refine lv_iconst (v := 0) hx hb dL_law_1909 (by decide) ?_
  refine z_calli [(qm, zO 10 83 (zc71 u v))] [(qo, zJ K 1 (fun _ => 0))] [0] [1] hP hD hS hA rfl rfl (by decide +kernel) (by decide +kernel) (by decide +kernel) 125 1863522 rfl rfl (fun hPc hDc hF => z_runV (As := [.int (xs 1), .int 0]) (rest := []) ⟨hx, hb, hml, hown, hg⟩ (cX12_size_3 l K H.size qm (zc71 u v) (xs 1) (by rw [Int32.lt_iff_toInt_lt, show (0 : Int32).toInt = 0 from by decide]; omega) (by rw [Int32.lt_iff_toInt_lt, show (7 : Int32).toInt = 7 from by decide]; omega)) kV_RL_187 hd_X12_size rfl rfl ⟨(Nat.le_of_ble_eq_true rfl), (Nat.le_of_ble_eq_true rfl)⟩ hK hS hZ hPc hDc hF 0 rfl rfl rfl hl.1 rfl (Nat.le_of_ble_eq_true rfl) dL_law_1910 ⟨(Nat.le_of_ble_eq_true rfl), (Nat.le_of_ble_eq_true rfl)⟩) (fun r6 u4 H locs w5 hP hD hS => ?_)
  subst w5
  have hP : va_P K.1 classes [(qo, zJ K 1 (fun _ => 0)), (qm, zO 10 83 (va_up (zc71 u v) 81 (.int 1)))] H := hP
  have hD : va_D A [(qo, zJ K 1 (fun _ => 0)), (qm, zO 10 83 (va_up (zc71 u v) 81 (.int 1)))] := hD
  refine lv_istore (lv' := [(6, .int 0), (5, .int 1), (4, .int 0), (3, .ref qo), (2, .ref qm), (1, .ref qx), (0, .ref b)]) hx hb dL_law_1913 hl (by decide) rfl (fun ls hl => ?_)
  refine lv_aload_n hx hb dL_law_1915 rfl (lv_at hl 4 rfl) ?_
  refine z_calli [(qm, zO 10 83 (va_up (zc71 u v) 81 (.int 1)))] [(qo, zJ K 1 (fun _ => 0))] [1] [0] hP hD hS hA rfl rfl (by decide +kernel) (by decide +kernel) (by decide +kernel) 125 1863522 rfl rfl (fun hPc hDc hF => z_runV (As := []) (rest := []) ⟨hx, hb, hml, hown, hg⟩ (cX12_thrown_2 l K H.size qm (va_up (zc71 u v) 81 (.int 1)) zu_eq) kV_RL_104 hd_X12_thrown rfl rfl ⟨(Nat.le_of_ble_eq_true rfl), (Nat.le_of_ble_eq_true rfl)⟩ hK hS hZ hPc hDc hF 0 rfl rfl rfl hl.1 rfl (Nat.le_of_ble_eq_true rfl) dL_law_1916 ⟨(Nat.le_of_ble_eq_true rfl), (Nat.le_of_ble_eq_true rfl)⟩) (fun r9 u7 H locs w8 hP hD hS => ?_)
  subst w8
  have hP : va_P K.1 classes [(qo, zJ K 1 (fun _ => 0)), (qm, zO 10 83 (va_up (zc71 u v) 81 (.int 1)))] H := hP
  have hD : va_D A [(qo, zJ K 1 (fun _ => 0)), (qm, zO 10 83 (va_up (zc71 u v) 81 (.int 1)))] := hD
  refine lv_iload hx hb dL_law_1919 (lv_at hl 1 rfl) ?_
  refine lv_icmp_eq (tgt := 1926) hx hb dL_law_1921 (by decide) (fun _ => ?_) (fun c => absurd (by decide) c)
  refine lv_iload hx hb dL_law_1926 (lv_at hl 1 rfl) ?_
  refine lv_if_ne (tgt := 1943) hx hb dL_law_1928 (by decide) (fun _ => ?_) (fun c => absurd c (by decide))
  refine lv_goto (tgt := 2026) hx hb dL_law_1943 (by decide) ?_
  exact law_back ⟨hx, hb, hr, hml, hown, hg, hX, hbl, hlocks, hK, hZ, hl9, hAA, hA, hbA⟩ (Nat.le_of_ble_eq_true rfl) (Nat.le_of_ble_eq_true rfl) hS (lv_sub hl [2, 6] rfl)
set_option maxHeartbeats 4000000 in
set_option maxRecDepth 100000 in
theorem lawS_24_3 {p : Program} {l : Launch} {e : Env} {s : State} {m : MethodId} {below : List Frame} {meth : Method} {c : Code} {b : Nat} {xs : Nat → Int32} {K : zK} {A : Nat → Prop} {H : Heap} {locs : List Loc} {ls : Array Slot} (C : zC p l s m meth c b xs K A) (qx qm qo : Nat) (u v : Nat → Nat) (h0 : ¬ xs 2 = 0) (h1 : (xs 1).toInt < 0) (hP : va_P K.1 classes (lwW K qx qm qo u v) H) (hD : va_D A (lwW K qx qm qo u v)) (hS : va_S A s.heap H locs) (hl : lv_has ls 7 [(4, .int 0), (3, .ref qo), (2, .ref qm), (1, .ref qx), (0, .ref b)]) : W p l e room_1 s m #[Value.ref b] below meth c H locs 124 1863516 (lw_Z below #[Value.ref b] s) (F0 m 1862 ls []) := by
  obtain ⟨hx, hb, hr, hml, hown, hg, hX, hbl, hlocks, hK, hZ, hl9, hAA, hA, hbA⟩ := C
  have hP : va_P K.1 classes [(qx, zO 9 9 (zc0 u v)), (qm, zO 10 83 (zc71 u v)), (qo, zJ K 1 (fun _ => 0))] H := hP.sub [0, 71, 123] rfl
  have hD : va_D A [(qx, zO 9 9 (zc0 u v)), (qm, zO 10 83 (zc71 u v)), (qo, zJ K 1 (fun _ => 0))] := hD.sub [0, 71, 123] (by decide +kernel) rfl
  refine lv_aload_n hx hb dL_law_1862 rfl (lv_at hl 3 rfl) ?_
  refine lv_aload_n hx hb dL_law_1863 rfl (lv_at hl 4 rfl) ?_
  refine lv_iload hx hb dL_law_1864 (lv_at hl 0 rfl) ?_
  refine lv_iconst (v := 1) hx hb dL_law_1866 (by decide) ?_
  refine lv_iadd hx hb dL_law_1867 ?_
  refine z_cst (v := 1) (by decide +kernel) ?_
  refine z_sld (v := (xs 1)) (j := 1) hx hb hX hbl hbA hS rfl (Nat.le_of_ble_eq_true rfl) rfl dL_law_1868 ?_
  refine lv_aload_n hx hb dL_law_1869 rfl (lv_at hl 4 rfl) ?_
  refine lv_iload hx hb dL_law_1870 (lv_at hl 0 rfl) ?_
  refine lv_iconst (v := 2) hx hb dL_law_1872 (by decide) ?_
  refine lv_iadd hx hb dL_law_1873 ?_
  refine z_cst (v := 2) (by decide +kernel) ?_
  refine z_sld (v := (xs 2)) (j := 2) hx hb hX hbl hbA hS rfl (Nat.le_of_ble_eq_true rfl) rfl dL_law_1874 ?_
  refine lv_if_eq (tgt := 1882) hx hb dL_law_1875 (by decide) (fun c => absurd c h0) (fun _ => ?_)
  refine lv_iconst (v := 1) hx hb dL_law_1878 (by decide) ?_
  refine lv_goto (tgt := 1883) hx hb dL_law_1879 (by decide) ?_
  refine lv_aload_n hx hb dL_law_1883 rfl (lv_at hl 1 rfl) ?_
  refine z_hcalli [(qx, zO 9 9 (zc0 u v))] [(qm, zO 10 83 (zc71 u v)), (qo, zJ K 1 (fun _ => 0))] [0] [1, 2] hP hD hS hA rfl rfl (by decide +kernel) (by decide +kernel) (by decide +kernel) 125 1863522 rfl rfl (fun hPc hDc hF => z_xrunH (As := [.ref qx, .int (xs 1), .int 1, .ref qo]) (rest := []) ⟨hx, hb, hml, hown, hg⟩ (cL_size_4 l hl9 K H.size qx qo (zc0 u v) (xs 1) (by rw [Int32.lt_iff_toInt_lt, show (0 : Int32).toInt = 0 from by decide]; omega)) kS_RL_184 hd_L_size rfl rfl ⟨(Nat.le_of_ble_eq_true rfl), (Nat.le_of_ble_eq_true rfl)⟩ hK hS hZ hPc hDc hF rfl hl.1 rfl (Nat.le_of_ble_eq_true rfl) dL_law_1884 ⟨(Nat.le_of_ble_eq_true rfl), (Nat.le_of_ble_eq_true rfl)⟩) (fun r3 u1 H locs w2 hP hD hS => ?_)
  subst w2
  have hP : va_P K.1 classes [(qm, zO 10 83 (zc71 u v)), (qo, zJ K 1 (fun _ => 0))] H := hP
  have hD : va_D A [(qm, zO 10 83 (zc71 u v)), (qo, zJ K 1 (fun _ => 0))] := hD
  refine lv_istore (lv' := [(5, .int 1), (4, .int 0), (3, .ref qo), (2, .ref qm), (1, .ref qx), (0, .ref b)]) hx hb dL_law_1887 hl (by decide) rfl (fun ls hl => ?_)
  refine lv_aload_n hx hb dL_law_1889 rfl (lv_at hl 3 rfl) ?_
  refine lv_aload_n hx hb dL_law_1890 rfl (lv_at hl 5 rfl) ?_
  refine lv_iload hx hb dL_law_1891 (lv_at hl 1 rfl) ?_
  refine lv_iconst (v := 1) hx hb dL_law_1893 (by decide) ?_
  refine lv_iadd hx hb dL_law_1894 ?_
  refine z_cst (v := 1) (by decide +kernel) ?_
  refine z_sld (v := (xs 1)) (j := 1) hx hb hX hbl hbA hS rfl (Nat.le_of_ble_eq_true rfl) rfl dL_law_1895 ?_
  refine lv_aload_n hx hb dL_law_1896 rfl (lv_at hl 5 rfl) ?_
  refine lv_iload hx hb dL_law_1897 (lv_at hl 1 rfl) ?_
  refine lv_iconst (v := 2) hx hb dL_law_1899 (by decide) ?_
  refine lv_iadd hx hb dL_law_1900 ?_
  refine z_cst (v := 2) (by decide +kernel) ?_
  refine z_sld (v := (xs 2)) (j := 2) hx hb hX hbl hbA hS rfl (Nat.le_of_ble_eq_true rfl) rfl dL_law_1901 ?_
  refine lv_if_eq (tgt := 1909) hx hb dL_law_1902 (by decide) (fun c => absurd c h0) (fun _ => ?_)
  refine lv_iconst (v := 1) hx hb dL_law_1905 (by decide) ?_
  refine lv_goto (tgt := 1910) hx hb dL_law_1906 (by decide) ?_
  refine z_calli [(qm, zO 10 83 (zc71 u v))] [(qo, zJ K 1 (fun _ => 0))] [0] [1] hP hD hS hA rfl rfl (by decide +kernel) (by decide +kernel) (by decide +kernel) 125 1863522 rfl rfl (fun hPc hDc hF => z_runV (As := [.int (xs 1), .int 1]) (rest := []) ⟨hx, hb, hml, hown, hg⟩ (cX12_size_4 l K H.size qm (zc71 u v) (xs 1) (by rw [Int32.lt_iff_toInt_lt, show (0 : Int32).toInt = 0 from by decide]; omega)) kV_RL_187 hd_X12_size rfl rfl ⟨(Nat.le_of_ble_eq_true rfl), (Nat.le_of_ble_eq_true rfl)⟩ hK hS hZ hPc hDc hF 0 rfl rfl rfl hl.1 rfl (Nat.le_of_ble_eq_true rfl) dL_law_1910 ⟨(Nat.le_of_ble_eq_true rfl), (Nat.le_of_ble_eq_true rfl)⟩) (fun r6 u4 H locs w5 hP hD hS => ?_)
  subst w5
  have hP : va_P K.1 classes [(qo, zJ K 1 (fun _ => 0)), (qm, zO 10 83 (va_up (zc71 u v) 81 (.int 1)))] H := hP
  have hD : va_D A [(qo, zJ K 1 (fun _ => 0)), (qm, zO 10 83 (va_up (zc71 u v) 81 (.int 1)))] := hD
  refine lv_istore (lv' := [(6, .int 0), (5, .int 1), (4, .int 0), (3, .ref qo), (2, .ref qm), (1, .ref qx), (0, .ref b)]) hx hb dL_law_1913 hl (by decide) rfl (fun ls hl => ?_)
  refine lv_aload_n hx hb dL_law_1915 rfl (lv_at hl 4 rfl) ?_
  refine z_calli [(qm, zO 10 83 (va_up (zc71 u v) 81 (.int 1)))] [(qo, zJ K 1 (fun _ => 0))] [1] [0] hP hD hS hA rfl rfl (by decide +kernel) (by decide +kernel) (by decide +kernel) 125 1863522 rfl rfl (fun hPc hDc hF => z_runV (As := []) (rest := []) ⟨hx, hb, hml, hown, hg⟩ (cX12_thrown_2 l K H.size qm (va_up (zc71 u v) 81 (.int 1)) zu_eq) kV_RL_104 hd_X12_thrown rfl rfl ⟨(Nat.le_of_ble_eq_true rfl), (Nat.le_of_ble_eq_true rfl)⟩ hK hS hZ hPc hDc hF 0 rfl rfl rfl hl.1 rfl (Nat.le_of_ble_eq_true rfl) dL_law_1916 ⟨(Nat.le_of_ble_eq_true rfl), (Nat.le_of_ble_eq_true rfl)⟩) (fun r9 u7 H locs w8 hP hD hS => ?_)
  subst w8
  have hP : va_P K.1 classes [(qo, zJ K 1 (fun _ => 0)), (qm, zO 10 83 (va_up (zc71 u v) 81 (.int 1)))] H := hP
  have hD : va_D A [(qo, zJ K 1 (fun _ => 0)), (qm, zO 10 83 (va_up (zc71 u v) 81 (.int 1)))] := hD
  refine lv_iload hx hb dL_law_1919 (lv_at hl 1 rfl) ?_
  refine lv_icmp_eq (tgt := 1926) hx hb dL_law_1921 (by decide) (fun _ => ?_) (fun c => absurd (by decide) c)
  refine lv_iload hx hb dL_law_1926 (lv_at hl 1 rfl) ?_
  refine lv_if_ne (tgt := 1943) hx hb dL_law_1928 (by decide) (fun _ => ?_) (fun c => absurd c (by decide))
  refine lv_goto (tgt := 2026) hx hb dL_law_1943 (by decide) ?_
  exact law_back ⟨hx, hb, hr, hml, hown, hg, hX, hbl, hlocks, hK, hZ, hl9, hAA, hA, hbA⟩ (Nat.le_of_ble_eq_true rfl) (Nat.le_of_ble_eq_true rfl) hS (lv_sub hl [2, 6] rfl)
set_option maxHeartbeats 4000000 in
set_option maxRecDepth 100000 in
theorem lawS_24_4 {p : Program} {l : Launch} {e : Env} {s : State} {m : MethodId} {below : List Frame} {meth : Method} {c : Code} {b : Nat} {xs : Nat → Int32} {K : zK} {A : Nat → Prop} {H : Heap} {locs : List Loc} {ls : Array Slot} (C : zC p l s m meth c b xs K A) (qx qm qo : Nat) (u v : Nat → Nat) (h0 : ¬ xs 2 = 0) (h1 : 0 ≤ (xs 1).toInt) (h2 : (xs 1).toInt < 8) (hP : va_P K.1 classes (lwW K qx qm qo u v) H) (hD : va_D A (lwW K qx qm qo u v)) (hS : va_S A s.heap H locs) (hl : lv_has ls 7 [(4, .int 0), (3, .ref qo), (2, .ref qm), (1, .ref qx), (0, .ref b)]) : W p l e room_1 s m #[Value.ref b] below meth c H locs 124 1863516 (lw_Z below #[Value.ref b] s) (F0 m 1862 ls []) := by
  obtain ⟨hx, hb, hr, hml, hown, hg, hX, hbl, hlocks, hK, hZ, hl9, hAA, hA, hbA⟩ := C
  have hP : va_P K.1 classes [(qx, zO 9 9 (zc0 u v)), (qm, zO 10 83 (zc71 u v)), (qo, zJ K 1 (fun _ => 0))] H := hP.sub [0, 71, 123] rfl
  have hD : va_D A [(qx, zO 9 9 (zc0 u v)), (qm, zO 10 83 (zc71 u v)), (qo, zJ K 1 (fun _ => 0))] := hD.sub [0, 71, 123] (by decide +kernel) rfl
  obtain ⟨t1, ht1, v1⟩ : ∃ j : Nat, j < 8 ∧ xs 1 = nI j := z_nat (n := 8) (by omega) (by omega) (by decide)
  refine lv_aload_n hx hb dL_law_1862 rfl (lv_at hl 3 rfl) ?_
  refine lv_aload_n hx hb dL_law_1863 rfl (lv_at hl 4 rfl) ?_
  refine lv_iload hx hb dL_law_1864 (lv_at hl 0 rfl) ?_
  refine lv_iconst (v := 1) hx hb dL_law_1866 (by decide) ?_
  refine lv_iadd hx hb dL_law_1867 ?_
  refine z_cst (v := 1) (by decide +kernel) ?_
  refine z_sld (v := (nI t1)) (j := 1) hx hb hX hbl hbA hS rfl (Nat.le_of_ble_eq_true rfl) v1 dL_law_1868 ?_
  refine lv_aload_n hx hb dL_law_1869 rfl (lv_at hl 4 rfl) ?_
  refine lv_iload hx hb dL_law_1870 (lv_at hl 0 rfl) ?_
  refine lv_iconst (v := 2) hx hb dL_law_1872 (by decide) ?_
  refine lv_iadd hx hb dL_law_1873 ?_
  refine z_cst (v := 2) (by decide +kernel) ?_
  refine z_sld (v := (xs 2)) (j := 2) hx hb hX hbl hbA hS rfl (Nat.le_of_ble_eq_true rfl) rfl dL_law_1874 ?_
  refine lv_if_eq (tgt := 1882) hx hb dL_law_1875 (by decide) (fun c => absurd c h0) (fun _ => ?_)
  refine lv_iconst (v := 1) hx hb dL_law_1878 (by decide) ?_
  refine lv_goto (tgt := 1883) hx hb dL_law_1879 (by decide) ?_
  refine lv_aload_n hx hb dL_law_1883 rfl (lv_at hl 1 rfl) ?_
  refine z_hcalli [(qx, zO 9 9 (zc0 u v))] [(qm, zO 10 83 (zc71 u v)), (qo, zJ K 1 (fun _ => 0))] [0] [1, 2] hP hD hS hA rfl rfl (by decide +kernel) (by decide +kernel) (by decide +kernel) 125 1863522 rfl rfl (fun hPc hDc hF => z_xrunH (As := [.ref qx, .int (nI t1), .int 1, .ref qo]) (rest := []) ⟨hx, hb, hml, hown, hg⟩ (cL_size_5 l hl9 K H.size qx qo (zc0 u v) t1 ht1 (zc0_8 u v)) kS_RL_184 hd_L_size rfl rfl ⟨(Nat.le_of_ble_eq_true rfl), (Nat.le_of_ble_eq_true rfl)⟩ hK hS hZ hPc hDc hF rfl hl.1 rfl (Nat.le_of_ble_eq_true rfl) dL_law_1884 ⟨(Nat.le_of_ble_eq_true rfl), (Nat.le_of_ble_eq_true rfl)⟩) (fun r3 u1 H locs w2 hP hD hS => ?_)
  subst w2
  have hP : va_P K.1 classes [(qm, zO 10 83 (zc71 u v)), (qo, zJ K 1 (fun _ => 0))] H := hP
  have hD : va_D A [(qm, zO 10 83 (zc71 u v)), (qo, zJ K 1 (fun _ => 0))] := hD
  refine lv_istore (lv' := [(5, .int 2), (4, .int 0), (3, .ref qo), (2, .ref qm), (1, .ref qx), (0, .ref b)]) hx hb dL_law_1887 hl (by decide) rfl (fun ls hl => ?_)
  refine lv_aload_n hx hb dL_law_1889 rfl (lv_at hl 3 rfl) ?_
  refine lv_aload_n hx hb dL_law_1890 rfl (lv_at hl 5 rfl) ?_
  refine lv_iload hx hb dL_law_1891 (lv_at hl 1 rfl) ?_
  refine lv_iconst (v := 1) hx hb dL_law_1893 (by decide) ?_
  refine lv_iadd hx hb dL_law_1894 ?_
  refine z_cst (v := 1) (by decide +kernel) ?_
  refine z_sld (v := (nI t1)) (j := 1) hx hb hX hbl hbA hS rfl (Nat.le_of_ble_eq_true rfl) v1 dL_law_1895 ?_
  refine lv_aload_n hx hb dL_law_1896 rfl (lv_at hl 5 rfl) ?_
  refine lv_iload hx hb dL_law_1897 (lv_at hl 1 rfl) ?_
  refine lv_iconst (v := 2) hx hb dL_law_1899 (by decide) ?_
  refine lv_iadd hx hb dL_law_1900 ?_
  refine z_cst (v := 2) (by decide +kernel) ?_
  refine z_sld (v := (xs 2)) (j := 2) hx hb hX hbl hbA hS rfl (Nat.le_of_ble_eq_true rfl) rfl dL_law_1901 ?_
  refine lv_if_eq (tgt := 1909) hx hb dL_law_1902 (by decide) (fun c => absurd c h0) (fun _ => ?_)
  refine lv_iconst (v := 1) hx hb dL_law_1905 (by decide) ?_
  refine lv_goto (tgt := 1910) hx hb dL_law_1906 (by decide) ?_
  refine z_calli [(qm, zO 10 83 (zc71 u v))] [(qo, zJ K 1 (fun _ => 0))] [0] [1] hP hD hS hA rfl rfl (by decide +kernel) (by decide +kernel) (by decide +kernel) 125 1863522 rfl rfl (fun hPc hDc hF => z_runV (As := [.int (nI t1), .int 1]) (rest := []) ⟨hx, hb, hml, hown, hg⟩ (cX12_size_5 l K H.size qm (zc71 u v) t1 ht1 (zc71_15 u v)) kV_RL_187 hd_X12_size rfl rfl ⟨(Nat.le_of_ble_eq_true rfl), (Nat.le_of_ble_eq_true rfl)⟩ hK hS hZ hPc hDc hF 0 rfl rfl rfl hl.1 rfl (Nat.le_of_ble_eq_true rfl) dL_law_1910 ⟨(Nat.le_of_ble_eq_true rfl), (Nat.le_of_ble_eq_true rfl)⟩) (fun r6 u4 H locs w5 hP hD hS => ?_)
  subst w5
  have hP : va_P K.1 classes [(qo, zJ K 1 (fun _ => 0)), (qm, zO 10 83 (va_up (zc71 u v) 81 (.int 2)))] H := hP
  have hD : va_D A [(qo, zJ K 1 (fun _ => 0)), (qm, zO 10 83 (va_up (zc71 u v) 81 (.int 2)))] := hD
  refine lv_istore (lv' := [(6, .int 0), (5, .int 2), (4, .int 0), (3, .ref qo), (2, .ref qm), (1, .ref qx), (0, .ref b)]) hx hb dL_law_1913 hl (by decide) rfl (fun ls hl => ?_)
  refine lv_aload_n hx hb dL_law_1915 rfl (lv_at hl 4 rfl) ?_
  refine z_calli [(qm, zO 10 83 (va_up (zc71 u v) 81 (.int 2)))] [(qo, zJ K 1 (fun _ => 0))] [1] [0] hP hD hS hA rfl rfl (by decide +kernel) (by decide +kernel) (by decide +kernel) 125 1863522 rfl rfl (fun hPc hDc hF => z_runV (As := []) (rest := []) ⟨hx, hb, hml, hown, hg⟩ (cX12_thrown_3 l K H.size qm (va_up (zc71 u v) 81 (.int 2)) zu_eq) kV_RL_104 hd_X12_thrown rfl rfl ⟨(Nat.le_of_ble_eq_true rfl), (Nat.le_of_ble_eq_true rfl)⟩ hK hS hZ hPc hDc hF 0 rfl rfl rfl hl.1 rfl (Nat.le_of_ble_eq_true rfl) dL_law_1916 ⟨(Nat.le_of_ble_eq_true rfl), (Nat.le_of_ble_eq_true rfl)⟩) (fun r9 u7 H locs w8 hP hD hS => ?_)
  subst w8
  have hP : va_P K.1 classes [(qo, zJ K 1 (fun _ => 0)), (qm, zO 10 83 (va_up (zc71 u v) 81 (.int 2)))] H := hP
  have hD : va_D A [(qo, zJ K 1 (fun _ => 0)), (qm, zO 10 83 (va_up (zc71 u v) 81 (.int 2)))] := hD
  refine lv_iload hx hb dL_law_1919 (lv_at hl 1 rfl) ?_
  refine lv_icmp_eq (tgt := 1926) hx hb dL_law_1921 (by decide) (fun _ => ?_) (fun c => absurd (by decide) c)
  refine lv_iload hx hb dL_law_1926 (lv_at hl 1 rfl) ?_
  refine lv_if_ne (tgt := 1943) hx hb dL_law_1928 (by decide) (fun _ => ?_) (fun c => absurd c (by decide))
  refine lv_goto (tgt := 2026) hx hb dL_law_1943 (by decide) ?_
  exact law_back ⟨hx, hb, hr, hml, hown, hg, hX, hbl, hlocks, hK, hZ, hl9, hAA, hA, hbA⟩ (Nat.le_of_ble_eq_true rfl) (Nat.le_of_ble_eq_true rfl) hS (lv_sub hl [2, 6] rfl)
set_option maxHeartbeats 4000000 in
set_option maxRecDepth 100000 in
theorem lawS_24_5 {p : Program} {l : Launch} {e : Env} {s : State} {m : MethodId} {below : List Frame} {meth : Method} {c : Code} {b : Nat} {xs : Nat → Int32} {K : zK} {A : Nat → Prop} {H : Heap} {locs : List Loc} {ls : Array Slot} (C : zC p l s m meth c b xs K A) (qx qm qo : Nat) (u v : Nat → Nat) (h0 : ¬ xs 2 = 0) (h1 : 0 ≤ (xs 1).toInt) (h2 : 8 ≤ (xs 1).toInt) (hP : va_P K.1 classes (lwW K qx qm qo u v) H) (hD : va_D A (lwW K qx qm qo u v)) (hS : va_S A s.heap H locs) (hl : lv_has ls 7 [(4, .int 0), (3, .ref qo), (2, .ref qm), (1, .ref qx), (0, .ref b)]) : W p l e room_1 s m #[Value.ref b] below meth c H locs 124 1863516 (lw_Z below #[Value.ref b] s) (F0 m 1862 ls []) := by
  obtain ⟨hx, hb, hr, hml, hown, hg, hX, hbl, hlocks, hK, hZ, hl9, hAA, hA, hbA⟩ := C
  have hP : va_P K.1 classes [(qx, zO 9 9 (zc0 u v)), (qm, zO 10 83 (zc71 u v)), (qo, zJ K 1 (fun _ => 0))] H := hP.sub [0, 71, 123] rfl
  have hD : va_D A [(qx, zO 9 9 (zc0 u v)), (qm, zO 10 83 (zc71 u v)), (qo, zJ K 1 (fun _ => 0))] := hD.sub [0, 71, 123] (by decide +kernel) rfl
  refine lv_aload_n hx hb dL_law_1862 rfl (lv_at hl 3 rfl) ?_
  refine lv_aload_n hx hb dL_law_1863 rfl (lv_at hl 4 rfl) ?_
  refine lv_iload hx hb dL_law_1864 (lv_at hl 0 rfl) ?_
  refine lv_iconst (v := 1) hx hb dL_law_1866 (by decide) ?_
  refine lv_iadd hx hb dL_law_1867 ?_
  refine z_cst (v := 1) (by decide +kernel) ?_
  refine z_sld (v := (xs 1)) (j := 1) hx hb hX hbl hbA hS rfl (Nat.le_of_ble_eq_true rfl) rfl dL_law_1868 ?_
  refine lv_aload_n hx hb dL_law_1869 rfl (lv_at hl 4 rfl) ?_
  refine lv_iload hx hb dL_law_1870 (lv_at hl 0 rfl) ?_
  refine lv_iconst (v := 2) hx hb dL_law_1872 (by decide) ?_
  refine lv_iadd hx hb dL_law_1873 ?_
  refine z_cst (v := 2) (by decide +kernel) ?_
  refine z_sld (v := (xs 2)) (j := 2) hx hb hX hbl hbA hS rfl (Nat.le_of_ble_eq_true rfl) rfl dL_law_1874 ?_
  refine lv_if_eq (tgt := 1882) hx hb dL_law_1875 (by decide) (fun c => absurd c h0) (fun _ => ?_)
  refine lv_iconst (v := 1) hx hb dL_law_1878 (by decide) ?_
  refine lv_goto (tgt := 1883) hx hb dL_law_1879 (by decide) ?_
  refine lv_aload_n hx hb dL_law_1883 rfl (lv_at hl 1 rfl) ?_
  refine z_hcalli [(qx, zO 9 9 (zc0 u v))] [(qm, zO 10 83 (zc71 u v)), (qo, zJ K 1 (fun _ => 0))] [0] [1, 2] hP hD hS hA rfl rfl (by decide +kernel) (by decide +kernel) (by decide +kernel) 125 1863522 rfl rfl (fun hPc hDc hF => z_xrunH (As := [.ref qx, .int (xs 1), .int 1, .ref qo]) (rest := []) ⟨hx, hb, hml, hown, hg⟩ (cL_size_6 l hl9 K H.size qx qo (zc0 u v) (xs 1) (by rw [Int32.lt_iff_toInt_lt, show (0 : Int32).toInt = 0 from by decide]; omega) (by rw [Int32.lt_iff_toInt_lt, show (8 : Int32).toInt = 8 from by decide]; omega)) kS_RL_184 hd_L_size rfl rfl ⟨(Nat.le_of_ble_eq_true rfl), (Nat.le_of_ble_eq_true rfl)⟩ hK hS hZ hPc hDc hF rfl hl.1 rfl (Nat.le_of_ble_eq_true rfl) dL_law_1884 ⟨(Nat.le_of_ble_eq_true rfl), (Nat.le_of_ble_eq_true rfl)⟩) (fun r3 u1 H locs w2 hP hD hS => ?_)
  subst w2
  have hP : va_P K.1 classes [(qm, zO 10 83 (zc71 u v)), (qo, zJ K 1 (fun _ => 0))] H := hP
  have hD : va_D A [(qm, zO 10 83 (zc71 u v)), (qo, zJ K 1 (fun _ => 0))] := hD
  refine lv_istore (lv' := [(5, .int 1), (4, .int 0), (3, .ref qo), (2, .ref qm), (1, .ref qx), (0, .ref b)]) hx hb dL_law_1887 hl (by decide) rfl (fun ls hl => ?_)
  refine lv_aload_n hx hb dL_law_1889 rfl (lv_at hl 3 rfl) ?_
  refine lv_aload_n hx hb dL_law_1890 rfl (lv_at hl 5 rfl) ?_
  refine lv_iload hx hb dL_law_1891 (lv_at hl 1 rfl) ?_
  refine lv_iconst (v := 1) hx hb dL_law_1893 (by decide) ?_
  refine lv_iadd hx hb dL_law_1894 ?_
  refine z_cst (v := 1) (by decide +kernel) ?_
  refine z_sld (v := (xs 1)) (j := 1) hx hb hX hbl hbA hS rfl (Nat.le_of_ble_eq_true rfl) rfl dL_law_1895 ?_
  refine lv_aload_n hx hb dL_law_1896 rfl (lv_at hl 5 rfl) ?_
  refine lv_iload hx hb dL_law_1897 (lv_at hl 1 rfl) ?_
  refine lv_iconst (v := 2) hx hb dL_law_1899 (by decide) ?_
  refine lv_iadd hx hb dL_law_1900 ?_
  refine z_cst (v := 2) (by decide +kernel) ?_
  refine z_sld (v := (xs 2)) (j := 2) hx hb hX hbl hbA hS rfl (Nat.le_of_ble_eq_true rfl) rfl dL_law_1901 ?_
  refine lv_if_eq (tgt := 1909) hx hb dL_law_1902 (by decide) (fun c => absurd c h0) (fun _ => ?_)
  refine lv_iconst (v := 1) hx hb dL_law_1905 (by decide) ?_
  refine lv_goto (tgt := 1910) hx hb dL_law_1906 (by decide) ?_
  refine z_calli [(qm, zO 10 83 (zc71 u v))] [(qo, zJ K 1 (fun _ => 0))] [0] [1] hP hD hS hA rfl rfl (by decide +kernel) (by decide +kernel) (by decide +kernel) 125 1863522 rfl rfl (fun hPc hDc hF => z_runV (As := [.int (xs 1), .int 1]) (rest := []) ⟨hx, hb, hml, hown, hg⟩ (cX12_size_6 l K H.size qm (zc71 u v) (xs 1) (by rw [Int32.lt_iff_toInt_lt, show (0 : Int32).toInt = 0 from by decide]; omega) (by rw [Int32.lt_iff_toInt_lt, show (7 : Int32).toInt = 7 from by decide]; omega)) kV_RL_187 hd_X12_size rfl rfl ⟨(Nat.le_of_ble_eq_true rfl), (Nat.le_of_ble_eq_true rfl)⟩ hK hS hZ hPc hDc hF 0 rfl rfl rfl hl.1 rfl (Nat.le_of_ble_eq_true rfl) dL_law_1910 ⟨(Nat.le_of_ble_eq_true rfl), (Nat.le_of_ble_eq_true rfl)⟩) (fun r6 u4 H locs w5 hP hD hS => ?_)
  subst w5
  have hP : va_P K.1 classes [(qo, zJ K 1 (fun _ => 0)), (qm, zO 10 83 (va_up (zc71 u v) 81 (.int 1)))] H := hP
  have hD : va_D A [(qo, zJ K 1 (fun _ => 0)), (qm, zO 10 83 (va_up (zc71 u v) 81 (.int 1)))] := hD
  refine lv_istore (lv' := [(6, .int 0), (5, .int 1), (4, .int 0), (3, .ref qo), (2, .ref qm), (1, .ref qx), (0, .ref b)]) hx hb dL_law_1913 hl (by decide) rfl (fun ls hl => ?_)
  refine lv_aload_n hx hb dL_law_1915 rfl (lv_at hl 4 rfl) ?_
  refine z_calli [(qm, zO 10 83 (va_up (zc71 u v) 81 (.int 1)))] [(qo, zJ K 1 (fun _ => 0))] [1] [0] hP hD hS hA rfl rfl (by decide +kernel) (by decide +kernel) (by decide +kernel) 125 1863522 rfl rfl (fun hPc hDc hF => z_runV (As := []) (rest := []) ⟨hx, hb, hml, hown, hg⟩ (cX12_thrown_2 l K H.size qm (va_up (zc71 u v) 81 (.int 1)) zu_eq) kV_RL_104 hd_X12_thrown rfl rfl ⟨(Nat.le_of_ble_eq_true rfl), (Nat.le_of_ble_eq_true rfl)⟩ hK hS hZ hPc hDc hF 0 rfl rfl rfl hl.1 rfl (Nat.le_of_ble_eq_true rfl) dL_law_1916 ⟨(Nat.le_of_ble_eq_true rfl), (Nat.le_of_ble_eq_true rfl)⟩) (fun r9 u7 H locs w8 hP hD hS => ?_)
  subst w8
  have hP : va_P K.1 classes [(qo, zJ K 1 (fun _ => 0)), (qm, zO 10 83 (va_up (zc71 u v) 81 (.int 1)))] H := hP
  have hD : va_D A [(qo, zJ K 1 (fun _ => 0)), (qm, zO 10 83 (va_up (zc71 u v) 81 (.int 1)))] := hD
  refine lv_iload hx hb dL_law_1919 (lv_at hl 1 rfl) ?_
  refine lv_icmp_eq (tgt := 1926) hx hb dL_law_1921 (by decide) (fun _ => ?_) (fun c => absurd (by decide) c)
  refine lv_iload hx hb dL_law_1926 (lv_at hl 1 rfl) ?_
  refine lv_if_ne (tgt := 1943) hx hb dL_law_1928 (by decide) (fun _ => ?_) (fun c => absurd c (by decide))
  refine lv_goto (tgt := 2026) hx hb dL_law_1943 (by decide) ?_
  exact law_back ⟨hx, hb, hr, hml, hown, hg, hX, hbl, hlocks, hK, hZ, hl9, hAA, hA, hbA⟩ (Nat.le_of_ble_eq_true rfl) (Nat.le_of_ble_eq_true rfl) hS (lv_sub hl [2, 6] rfl)
theorem lawC_24 {p : Program} {l : Launch} {e : Env} {s : State} {m : MethodId} {below : List Frame} {meth : Method} {c : Code} {b : Nat} {xs : Nat → Int32} {K : zK} {A : Nat → Prop} {H : Heap} {locs : List Loc} {ls : Array Slot} (C : zC p l s m meth c b xs K A) (qx qm qo : Nat) (u v : Nat → Nat) (hP : va_P K.1 classes (lwW K qx qm qo u v) H) (hD : va_D A (lwW K qx qm qo u v)) (hS : va_S A s.heap H locs) (hl : lv_has ls 7 [(4, .int 0), (3, .ref qo), (2, .ref qm), (1, .ref qx), (0, .ref b)]) : W p l e room_1 s m #[Value.ref b] below meth c H locs 124 1863516 (lw_Z below #[Value.ref b] s) (F0 m 1862 ls []) := by
  rcases Classical.em (xs 2 = 0) with h0 | h0
  · rcases z_split (xs 1) (0) with h1 | h1
    · exact lawS_24_0 C qx qm qo u v h0 h1 hP hD hS hl
    · rcases z_split (xs 1) (8) with h2 | h2
      · exact lawS_24_1 C qx qm qo u v h0 h1 h2 hP hD hS hl
      · exact lawS_24_2 C qx qm qo u v h0 h1 h2 hP hD hS hl
  · rcases z_split (xs 1) (0) with h1 | h1
    · exact lawS_24_3 C qx qm qo u v h0 h1 hP hD hS hl
    · rcases z_split (xs 1) (8) with h2 | h2
      · exact lawS_24_4 C qx qm qo u v h0 h1 h2 hP hD hS hl
      · exact lawS_24_5 C qx qm qo u v h0 h1 h2 hP hD hS hl
