/-! the law, case by case (printed by wip/p1/lawgen.py) -/
set_option maxHeartbeats 4000000 in
set_option maxRecDepth 100000 in
theorem lawS_25_0 {p : Program} {l : Launch} {e : Env} {s : State} {m : MethodId} {below : List Frame} {meth : Method} {c : Code} {b : Nat} {xs : Nat → Int32} {K : zK} {A : Nat → Prop} {H : Heap} {locs : List Loc} {ls : Array Slot} (C : zC p l s m meth c b xs K A) (qx qm qo : Nat) (u v : Nat → Nat) (h0 : (xs 1).toInt < 0) (hP : va_P K.1 classes (lwW K qx qm qo u v) H) (hD : va_D A (lwW K qx qm qo u v)) (hS : va_S A s.heap H locs) (hl : lv_has ls 7 [(4, .int 0), (3, .ref qo), (2, .ref qm), (1, .ref qx), (0, .ref b)]) : W p l e room_1 s m #[Value.ref b] below meth c H locs 124 1863516 (lw_Z below #[Value.ref b] s) (F0 m 1946 ls []) := by
  obtain ⟨hx, hb, hr, hml, hown, hg, hX, hbl, hlocks, hK, hZ, hl9, hAA, hA, hbA⟩ := C
  have hP : va_P K.1 classes [(qx, zO 9 9 (zc0 u v)), (qm, zO 10 83 (zc71 u v)), (qo, zJ K 1 (fun _ => 0))] H := hP.sub [0, 71, 123] rfl
  have hD : va_D A [(qx, zO 9 9 (zc0 u v)), (qm, zO 10 83 (zc71 u v)), (qo, zJ K 1 (fun _ => 0))] := hD.sub [0, 71, 123] (by decide +kernel) rfl
  refine lv_aload_n hx hb dL_law_1946 rfl (lv_at hl 3 rfl) ?_
  refine lv_aload_n hx hb dL_law_1947 rfl (lv_at hl 4 rfl) ?_
  refine lv_iload hx hb dL_law_1948 (lv_at hl 0 rfl) ?_
  refine lv_iconst (v := 1) hx hb dL_law_1950 (by decide) ?_
  refine lv_iadd hx hb dL_law_1951 ?_
  refine z_cst (v := 1) (by decide +kernel) ?_
  refine z_sld (v := (xs 1)) (j := 1) hx hb hX hbl hbA hS rfl (Nat.le_of_ble_eq_true rfl) rfl dL_law_1952 ?_
  refine lv_aload_n hx hb dL_law_1953 rfl (lv_at hl 4 rfl) ?_
  refine lv_iload hx hb dL_law_1954 (lv_at hl 0 rfl) ?_
  refine lv_iconst (v := 2) hx hb dL_law_1956 (by decide) ?_
  refine lv_iadd hx hb dL_law_1957 ?_
  refine z_cst (v := 2) (by decide +kernel) ?_
  refine z_sld (v := (xs 2)) (j := 2) hx hb hX hbl hbA hS rfl (Nat.le_of_ble_eq_true rfl) rfl dL_law_1958 ?_
  refine lv_aload_n hx hb dL_law_1959 rfl (lv_at hl 4 rfl) ?_
  refine lv_iload hx hb dL_law_1960 (lv_at hl 0 rfl) ?_
  refine lv_iconst (v := 3) hx hb dL_law_1962 (by decide) ?_
  refine lv_iadd hx hb dL_law_1963 ?_
  refine z_cst (v := 3) (by decide +kernel) ?_
  refine z_sld (v := (xs 3)) (j := 3) hx hb hX hbl hbA hS rfl (Nat.le_of_ble_eq_true rfl) rfl dL_law_1964 ?_
  refine lv_aload_n hx hb dL_law_1965 rfl (lv_at hl 1 rfl) ?_
  refine z_hcalli [(qx, zO 9 9 (zc0 u v))] [(qm, zO 10 83 (zc71 u v)), (qo, zJ K 1 (fun _ => 0))] [0] [1, 2] hP hD hS hA rfl rfl (by decide +kernel) (by decide +kernel) (by decide +kernel) 125 1863522 rfl rfl (fun hPc hDc hF => z_xrunH (As := [.ref qx, .int (xs 1), .int (xs 2), .int (xs 3), .ref qo]) (rest := []) ⟨hx, hb, hml, hown, hg⟩ (cL_node_1 l hl9 K H.size qx qo (zc0 u v) (xs 1) (xs 2) (xs 3) (by rw [Int32.lt_iff_toInt_lt, show (0 : Int32).toInt = 0 from by decide]; omega)) kS_RL_188 hd_L_node rfl rfl ⟨(Nat.le_of_ble_eq_true rfl), (Nat.le_of_ble_eq_true rfl)⟩ hK hS hZ hPc hDc hF rfl hl.1 rfl (Nat.le_of_ble_eq_true rfl) dL_law_1966 ⟨(Nat.le_of_ble_eq_true rfl), (Nat.le_of_ble_eq_true rfl)⟩) (fun r3 u1 H locs w2 hP hD hS => ?_)
  subst w2
  have hP : va_P K.1 classes [(qm, zO 10 83 (zc71 u v)), (qo, zJ K 1 (fun _ => 0))] H := hP
  have hD : va_D A [(qm, zO 10 83 (zc71 u v)), (qo, zJ K 1 (fun _ => 0))] := hD
  refine lv_istore (lv' := [(5, .int 2), (4, .int 0), (3, .ref qo), (2, .ref qm), (1, .ref qx), (0, .ref b)]) hx hb dL_law_1969 hl (by decide) rfl (fun ls hl => ?_)
  refine lv_aload_n hx hb dL_law_1971 rfl (lv_at hl 3 rfl) ?_
  refine lv_aload_n hx hb dL_law_1972 rfl (lv_at hl 5 rfl) ?_
  refine lv_iload hx hb dL_law_1973 (lv_at hl 1 rfl) ?_
  refine lv_iconst (v := 1) hx hb dL_law_1975 (by decide) ?_
  refine lv_iadd hx hb dL_law_1976 ?_
  refine z_cst (v := 1) (by decide +kernel) ?_
  refine z_sld (v := (xs 1)) (j := 1) hx hb hX hbl hbA hS rfl (Nat.le_of_ble_eq_true rfl) rfl dL_law_1977 ?_
  refine lv_aload_n hx hb dL_law_1978 rfl (lv_at hl 5 rfl) ?_
  refine lv_iload hx hb dL_law_1979 (lv_at hl 1 rfl) ?_
  refine lv_iconst (v := 2) hx hb dL_law_1981 (by decide) ?_
  refine lv_iadd hx hb dL_law_1982 ?_
  refine z_cst (v := 2) (by decide +kernel) ?_
  refine z_sld (v := (xs 2)) (j := 2) hx hb hX hbl hbA hS rfl (Nat.le_of_ble_eq_true rfl) rfl dL_law_1983 ?_
  refine lv_aload_n hx hb dL_law_1984 rfl (lv_at hl 5 rfl) ?_
  refine lv_iload hx hb dL_law_1985 (lv_at hl 1 rfl) ?_
  refine lv_iconst (v := 3) hx hb dL_law_1987 (by decide) ?_
  refine lv_iadd hx hb dL_law_1988 ?_
  refine z_cst (v := 3) (by decide +kernel) ?_
  refine z_sld (v := (xs 3)) (j := 3) hx hb hX hbl hbA hS rfl (Nat.le_of_ble_eq_true rfl) rfl dL_law_1989 ?_
  refine z_calli [(qm, zO 10 83 (zc71 u v))] [(qo, zJ K 1 (fun _ => 0))] [0] [1] hP hD hS hA rfl rfl (by decide +kernel) (by decide +kernel) (by decide +kernel) 125 1863522 rfl rfl (fun hPc hDc hF => z_runV (As := [.int (xs 1), .int (xs 2), .int (xs 3)]) (rest := []) ⟨hx, hb, hml, hown, hg⟩ (cX12_node_1 l K H.size qm (zc71 u v) (xs 1) (xs 2) (xs 3) (by rw [Int32.lt_iff_toInt_lt, show (0 : Int32).toInt = 0 from by decide]; omega)) kV_RL_190 hd_X12_node rfl rfl ⟨(Nat.le_of_ble_eq_true rfl), (Nat.le_of_ble_eq_true rfl)⟩ hK hS hZ hPc hDc hF 0 rfl rfl rfl hl.1 rfl (Nat.le_of_ble_eq_true rfl) dL_law_1990 ⟨(Nat.le_of_ble_eq_true rfl), (Nat.le_of_ble_eq_true rfl)⟩) (fun r6 u4 H locs w5 hP hD hS => ?_)
  subst w5
  have hP : va_P K.1 classes [(qo, zJ K 1 (fun _ => 0)), (qm, zO 10 83 (va_up (zc71 u v) 81 (.int 2)))] H := hP
  have hD : va_D A [(qo, zJ K 1 (fun _ => 0)), (qm, zO 10 83 (va_up (zc71 u v) 81 (.int 2)))] := hD
  refine lv_istore (lv' := [(6, .int 0), (5, .int 2), (4, .int 0), (3, .ref qo), (2, .ref qm), (1, .ref qx), (0, .ref b)]) hx hb dL_law_1993 hl (by decide) rfl (fun ls hl => ?_)
  refine lv_aload_n hx hb dL_law_1995 rfl (lv_at hl 4 rfl) ?_
  refine z_calli [(qm, zO 10 83 (va_up (zc71 u v) 81 (.int 2)))] [(qo, zJ K 1 (fun _ => 0))] [1] [0] hP hD hS hA rfl rfl (by decide +kernel) (by decide +kernel) (by decide +kernel) 125 1863522 rfl rfl (fun hPc hDc hF => z_runV (As := []) (rest := []) ⟨hx, hb, hml, hown, hg⟩ (cX12_thrown_3 l K H.size qm (va_up (zc71 u v) 81 (.int 2)) zu_eq) kV_RL_104 hd_X12_thrown rfl rfl ⟨(Nat.le_of_ble_eq_true rfl), (Nat.le_of_ble_eq_true rfl)⟩ hK hS hZ hPc hDc hF 0 rfl rfl rfl hl.1 rfl (Nat.le_of_ble_eq_true rfl) dL_law_1996 ⟨(Nat.le_of_ble_eq_true rfl), (Nat.le_of_ble_eq_true rfl)⟩) (fun r9 u7 H locs w8 hP hD hS => ?_)
  subst w8
  have hP : va_P K.1 classes [(qo, zJ K 1 (fun _ => 0)), (qm, zO 10 83 (va_up (zc71 u v) 81 (.int 2)))] H := hP
  have hD : va_D A [(qo, zJ K 1 (fun _ => 0)), (qm, zO 10 83 (va_up (zc71 u v) 81 (.int 2)))] := hD
  refine lv_iload hx hb dL_law_1999 (lv_at hl 1 rfl) ?_
  refine lv_icmp_eq (tgt := 2006) hx hb dL_law_2001 (by decide) (fun _ => ?_) (fun c => absurd (by decide) c)
  refine lv_iload hx hb dL_law_2006 (lv_at hl 1 rfl) ?_
  refine lv_if_ne (tgt := 2023) hx hb dL_law_2008 (by decide) (fun _ => ?_) (fun c => absurd c (by decide))
  refine lv_goto (tgt := 2026) hx hb dL_law_2023 (by decide) ?_
  exact law_back ⟨hx, hb, hr, hml, hown, hg, hX, hbl, hlocks, hK, hZ, hl9, hAA, hA, hbA⟩ (Nat.le_of_ble_eq_true rfl) (Nat.le_of_ble_eq_true rfl) hS (lv_sub hl [2, 6] rfl)
set_option maxHeartbeats 4000000 in
set_option maxRecDepth 100000 in
theorem lawS_25_1 {p : Program} {l : Launch} {e : Env} {s : State} {m : MethodId} {below : List Frame} {meth : Method} {c : Code} {b : Nat} {xs : Nat → Int32} {K : zK} {A : Nat → Prop} {H : Heap} {locs : List Loc} {ls : Array Slot} (C : zC p l s m meth c b xs K A) (qx qm qo : Nat) (u v : Nat → Nat) (h0 : 0 ≤ (xs 1).toInt) (h1 : (xs 1).toInt < 8) (h2 : (xs 2).toInt < 0) (hP : va_P K.1 classes (lwW K qx qm qo u v) H) (hD : va_D A (lwW K qx qm qo u v)) (hS : va_S A s.heap H locs) (hl : lv_has ls 7 [(4, .int 0), (3, .ref qo), (2, .ref qm), (1, .ref qx), (0, .ref b)]) : W p l e room_1 s m #[Value.ref b] below meth c H locs 124 1863516 (lw_Z below #[Value.ref b] s) (F0 m 1946 ls []) := by
  obtain ⟨hx, hb, hr, hml, hown, hg, hX, hbl, hlocks, hK, hZ, hl9, hAA, hA, hbA⟩ := C
  have hP : va_P K.1 classes [(qx, zO 9 9 (zc0 u v)), (qm, zO 10 83 (zc71 u v)), ((v 13), zI K 16 (fun _ => 0)), (qo, zJ K 1 (fun _ => 0))] H := hP.sub [0, 71, 85, 123] rfl
  have hD : va_D A [(qx, zO 9 9 (zc0 u v)), (qm, zO 10 83 (zc71 u v)), ((v 13), zI K 16 (fun _ => 0)), (qo, zJ K 1 (fun _ => 0))] := hD.sub [0, 71, 85, 123] (by decide +kernel) rfl
  obtain ⟨t1, ht1, v1⟩ : ∃ j : Nat, j < 8 ∧ xs 1 = nI j := z_nat (n := 8) (by omega) (by omega) (by decide)
  refine lv_aload_n hx hb dL_law_1946 rfl (lv_at hl 3 rfl) ?_
  refine lv_aload_n hx hb dL_law_1947 rfl (lv_at hl 4 rfl) ?_
  refine lv_iload hx hb dL_law_1948 (lv_at hl 0 rfl) ?_
  refine lv_iconst (v := 1) hx hb dL_law_1950 (by decide) ?_
  refine lv_iadd hx hb dL_law_1951 ?_
  refine z_cst (v := 1) (by decide +kernel) ?_
  refine z_sld (v := (nI t1)) (j := 1) hx hb hX hbl hbA hS rfl (Nat.le_of_ble_eq_true rfl) v1 dL_law_1952 ?_
  refine lv_aload_n hx hb dL_law_1953 rfl (lv_at hl 4 rfl) ?_
  refine lv_iload hx hb dL_law_1954 (lv_at hl 0 rfl) ?_
  refine lv_iconst (v := 2) hx hb dL_law_1956 (by decide) ?_
  refine lv_iadd hx hb dL_law_1957 ?_
  refine z_cst (v := 2) (by decide +kernel) ?_
  refine z_sld (v := (xs 2)) (j := 2) hx hb hX hbl hbA hS rfl (Nat.le_of_ble_eq_true rfl) rfl dL_law_1958 ?_
  refine lv_aload_n hx hb dL_law_1959 rfl (lv_at hl 4 rfl) ?_
  refine lv_iload hx hb dL_law_1960 (lv_at hl 0 rfl) ?_
  refine lv_iconst (v := 3) hx hb dL_law_1962 (by decide) ?_
  refine lv_iadd hx hb dL_law_1963 ?_
  refine z_cst (v := 3) (by decide +kernel) ?_
  refine z_sld (v := (xs 3)) (j := 3) hx hb hX hbl hbA hS rfl (Nat.le_of_ble_eq_true rfl) rfl dL_law_1964 ?_
  refine lv_aload_n hx hb dL_law_1965 rfl (lv_at hl 1 rfl) ?_
  refine z_hcalli [(qx, zO 9 9 (zc0 u v))] [(qm, zO 10 83 (zc71 u v)), ((v 13), zI K 16 (fun _ => 0)), (qo, zJ K 1 (fun _ => 0))] [0] [1, 2, 3] hP hD hS hA rfl rfl (by decide +kernel) (by decide +kernel) (by decide +kernel) 125 1863522 rfl rfl (fun hPc hDc hF => z_xrunH (As := [.ref qx, .int (nI t1), .int (xs 2), .int (xs 3), .ref qo]) (rest := []) ⟨hx, hb, hml, hown, hg⟩ (cL_node_2 l hl9 K H.size qx qo (zc0 u v) t1 ht1 (xs 2) (xs 3) (by rw [Int32.lt_iff_toInt_lt, show (0 : Int32).toInt = 0 from by decide]; omega)) kS_RL_188 hd_L_node rfl rfl ⟨(Nat.le_of_ble_eq_true rfl), (Nat.le_of_ble_eq_true rfl)⟩ hK hS hZ hPc hDc hF rfl hl.1 rfl (Nat.le_of_ble_eq_true rfl) dL_law_1966 ⟨(Nat.le_of_ble_eq_true rfl), (Nat.le_of_ble_eq_true rfl)⟩) (fun r3 u1 H locs w2 hP hD hS => ?_)
  subst w2
  have hP : va_P K.1 classes [(qm, zO 10 83 (zc71 u v)), ((v 13), zI K 16 (fun _ => 0)), (qo, zJ K 1 (fun _ => 0))] H := hP
  have hD : va_D A [(qm, zO 10 83 (zc71 u v)), ((v 13), zI K 16 (fun _ => 0)), (qo, zJ K 1 (fun _ => 0))] := hD
  refine lv_istore (lv' := [(5, .int 1), (4, .int 0), (3, .ref qo), (2, .ref qm), (1, .ref qx), (0, .ref b)]) hx hb dL_law_1969 hl (by decide) rfl (fun ls hl => ?_)
  refine lv_aload_n hx hb dL_law_1971 rfl (lv_at hl 3 rfl) ?_
  refine lv_aload_n hx hb dL_law_1972 rfl (lv_at hl 5 rfl) ?_
  refine lv_iload hx hb dL_law_1973 (lv_at hl 1 rfl) ?_
  refine lv_iconst (v := 1) hx hb dL_law_1975 (by decide) ?_
  refine lv_iadd hx hb dL_law_1976 ?_
  refine z_cst (v := 1) (by decide +kernel) ?_
  refine z_sld (v := (nI t1)) (j := 1) hx hb hX hbl hbA hS rfl (Nat.le_of_ble_eq_true rfl) v1 dL_law_1977 ?_
  refine lv_aload_n hx hb dL_law_1978 rfl (lv_at hl 5 rfl) ?_
  refine lv_iload hx hb dL_law_1979 (lv_at hl 1 rfl) ?_
  refine lv_iconst (v := 2) hx hb dL_law_1981 (by decide) ?_
  refine lv_iadd hx hb dL_law_1982 ?_
  refine z_cst (v := 2) (by decide +kernel) ?_
  refine z_sld (v := (xs 2)) (j := 2) hx hb hX hbl hbA hS rfl (Nat.le_of_ble_eq_true rfl) rfl dL_law_1983 ?_
  refine lv_aload_n hx hb dL_law_1984 rfl (lv_at hl 5 rfl) ?_
  refine lv_iload hx hb dL_law_1985 (lv_at hl 1 rfl) ?_
  refine lv_iconst (v := 3) hx hb dL_law_1987 (by decide) ?_
  refine lv_iadd hx hb dL_law_1988 ?_
  refine z_cst (v := 3) (by decide +kernel) ?_
  refine z_sld (v := (xs 3)) (j := 3) hx hb hX hbl hbA hS rfl (Nat.le_of_ble_eq_true rfl) rfl dL_law_1989 ?_
  refine z_calli [(qm, zO 10 83 (zc71 u v)), ((v 13), zI K 16 (fun _ => 0))] [(qo, zJ K 1 (fun _ => 0))] [0, 1] [2] hP hD hS hA rfl rfl (by decide +kernel) (by decide +kernel) (by decide +kernel) 125 1863522 rfl rfl (fun hPc hDc hF => z_runV (As := [.int (nI t1), .int (xs 2), .int (xs 3)]) (rest := []) ⟨hx, hb, hml, hown, hg⟩ (cX12_node_2 l K H.size qm (v 13) (zc71 u v) (fun _ => 0) t1 ht1 (xs 2) (xs 3) (zc71_14 u v) (fun _ => rfl) (by rw [Int32.lt_iff_toInt_lt, show (0 : Int32).toInt = 0 from by decide]; omega)) kV_RL_190 hd_X12_node rfl rfl ⟨(Nat.le_of_ble_eq_true rfl), (Nat.le_of_ble_eq_true rfl)⟩ hK hS hZ hPc hDc hF 0 rfl rfl rfl hl.1 rfl (Nat.le_of_ble_eq_true rfl) dL_law_1990 ⟨(Nat.le_of_ble_eq_true rfl), (Nat.le_of_ble_eq_true rfl)⟩) (fun r6 u4 H locs w5 hP hD hS => ?_)
  subst w5
  have hP : va_P K.1 classes [(qo, zJ K 1 (fun _ => 0)), (qm, zO 10 83 (va_up (zc71 u v) 81 (.int 1)))] H := hP
  have hD : va_D A [(qo, zJ K 1 (fun _ => 0)), (qm, zO 10 83 (va_up (zc71 u v) 81 (.int 1)))] := hD
  refine lv_istore (lv' := [(6, .int 0), (5, .int 1), (4, .int 0), (3, .ref qo), (2, .ref qm), (1, .ref qx), (0, .ref b)]) hx hb dL_law_1993 hl (by decide) rfl (fun ls hl => ?_)
  refine lv_aload_n hx hb dL_law_1995 rfl (lv_at hl 4 rfl) ?_
  refine z_calli [(qm, zO 10 83 (va_up (zc71 u v) 81 (.int 1)))] [(qo, zJ K 1 (fun _ => 0))] [1] [0] hP hD hS hA rfl rfl (by decide +kernel) (by decide +kernel) (by decide +kernel) 125 1863522 rfl rfl (fun hPc hDc hF => z_runV (As := []) (rest := []) ⟨hx, hb, hml, hown, hg⟩ (cX12_thrown_2 l K H.size qm (va_up (zc71 u v) 81 (.int 1)) zu_eq) kV_RL_104 hd_X12_thrown rfl rfl ⟨(Nat.le_of_ble_eq_true rfl), (Nat.le_of_ble_eq_true rfl)⟩ hK hS hZ hPc hDc hF 0 rfl rfl rfl hl.1 rfl (Nat.le_of_ble_eq_true rfl) dL_law_1996 ⟨(Nat.le_of_ble_eq_true rfl), (Nat.le_of_ble_eq_true rfl)⟩) (fun r9 u7 H locs w8 hP hD hS => ?_)
  subst w8
  have hP : va_P K.1 classes [(qo, zJ K 1 (fun _ => 0)), (qm, zO 10 83 (va_up (zc71 u v) 81 (.int 1)))] H := hP
  have hD : va_D A [(qo, zJ K 1 (fun _ => 0)), (qm, zO 10 83 (va_up (zc71 u v) 81 (.int 1)))] := hD
  refine lv_iload hx hb dL_law_1999 (lv_at hl 1 rfl) ?_
  refine lv_icmp_eq (tgt := 2006) hx hb dL_law_2001 (by decide) (fun _ => ?_) (fun c => absurd (by decide) c)
  refine lv_iload hx hb dL_law_2006 (lv_at hl 1 rfl) ?_
  refine lv_if_ne (tgt := 2023) hx hb dL_law_2008 (by decide) (fun _ => ?_) (fun c => absurd c (by decide))
  refine lv_goto (tgt := 2026) hx hb dL_law_2023 (by decide) ?_
  exact law_back ⟨hx, hb, hr, hml, hown, hg, hX, hbl, hlocks, hK, hZ, hl9, hAA, hA, hbA⟩ (Nat.le_of_ble_eq_true rfl) (Nat.le_of_ble_eq_true rfl) hS (lv_sub hl [2, 6] rfl)
set_option maxHeartbeats 4000000 in
set_option maxRecDepth 100000 in
theorem lawS_25_2 {p : Program} {l : Launch} {e : Env} {s : State} {m : MethodId} {below : List Frame} {meth : Method} {c : Code} {b : Nat} {xs : Nat → Int32} {K : zK} {A : Nat → Prop} {H : Heap} {locs : List Loc} {ls : Array Slot} (C : zC p l s m meth c b xs K A) (qx qm qo : Nat) (u v : Nat → Nat) (h0 : 0 ≤ (xs 1).toInt) (h1 : (xs 1).toInt < 8) (h2 : 0 ≤ (xs 2).toInt) (hP : va_P K.1 classes (lwW K qx qm qo u v) H) (hD : va_D A (lwW K qx qm qo u v)) (hS : va_S A s.heap H locs) (hl : lv_has ls 7 [(4, .int 0), (3, .ref qo), (2, .ref qm), (1, .ref qx), (0, .ref b)]) : W p l e room_1 s m #[Value.ref b] below meth c H locs 124 1863516 (lw_Z below #[Value.ref b] s) (F0 m 1946 ls []) := by
  obtain ⟨hx, hb, hr, hml, hown, hg, hX, hbl, hlocks, hK, hZ, hl9, hAA, hA, hbA⟩ := C
  have hP : va_P K.1 classes [(qx, zO 9 9 (zc0 u v)), ((u 8), zO 4 6 (zc9 u v)), ((u 15), zI K 8 (fun _ => 0)), (qm, zO 10 83 (zc71 u v)), ((v 13), zI K 16 (fun _ => 0)), (qo, zJ K 1 (fun _ => 0))] H := hP.sub [0, 9, 16, 71, 85, 123] rfl
  have hD : va_D A [(qx, zO 9 9 (zc0 u v)), ((u 8), zO 4 6 (zc9 u v)), ((u 15), zI K 8 (fun _ => 0)), (qm, zO 10 83 (zc71 u v)), ((v 13), zI K 16 (fun _ => 0)), (qo, zJ K 1 (fun _ => 0))] := hD.sub [0, 9, 16, 71, 85, 123] (by decide +kernel) rfl
  obtain ⟨t1, ht1, v1⟩ : ∃ j : Nat, j < 8 ∧ xs 1 = nI j := z_nat (n := 8) (by omega) (by omega) (by decide)
  refine lv_aload_n hx hb dL_law_1946 rfl (lv_at hl 3 rfl) ?_
  refine lv_aload_n hx hb dL_law_1947 rfl (lv_at hl 4 rfl) ?_
  refine lv_iload hx hb dL_law_1948 (lv_at hl 0 rfl) ?_
  refine lv_iconst (v := 1) hx hb dL_law_1950 (by decide) ?_
  refine lv_iadd hx hb dL_law_1951 ?_
  refine z_cst (v := 1) (by decide +kernel) ?_
  refine z_sld (v := (nI t1)) (j := 1) hx hb hX hbl hbA hS rfl (Nat.le_of_ble_eq_true rfl) v1 dL_law_1952 ?_
  refine lv_aload_n hx hb dL_law_1953 rfl (lv_at hl 4 rfl) ?_
  refine lv_iload hx hb dL_law_1954 (lv_at hl 0 rfl) ?_
  refine lv_iconst (v := 2) hx hb dL_law_1956 (by decide) ?_
  refine lv_iadd hx hb dL_law_1957 ?_
  refine z_cst (v := 2) (by decide +kernel) ?_
  refine z_sld (v := (xs 2)) (j := 2) hx hb hX hbl hbA hS rfl (Nat.le_of_ble_eq_true rfl) rfl dL_law_1958 ?_
  refine lv_aload_n hx hb dL_law_1959 rfl (lv_at hl 4 rfl) ?_
  refine lv_iload hx hb dL_law_1960 (lv_at hl 0 rfl) ?_
  refine lv_iconst (v := 3) hx hb dL_law_1962 (by decide) ?_
  refine lv_iadd hx hb dL_law_1963 ?_
  refine z_cst (v := 3) (by decide +kernel) ?_
  refine z_sld (v := (xs 3)) (j := 3) hx hb hX hbl hbA hS rfl (Nat.le_of_ble_eq_true rfl) rfl dL_law_1964 ?_
  refine lv_aload_n hx hb dL_law_1965 rfl (lv_at hl 1 rfl) ?_
  refine z_hcalli [(qx, zO 9 9 (zc0 u v)), ((u 8), zO 4 6 (zc9 u v)), ((u 15), zI K 8 (fun _ => 0))] [(qm, zO 10 83 (zc71 u v)), ((v 13), zI K 16 (fun _ => 0)), (qo, zJ K 1 (fun _ => 0))] [0, 1, 2] [3, 4, 5] hP hD hS hA rfl rfl (by decide +kernel) (by decide +kernel) (by decide +kernel) 125 1863522 rfl rfl (fun hPc hDc hF => z_xrunH (As := [.ref qx, .int (nI t1), .int (xs 2), .int (xs 3), .ref qo]) (rest := []) ⟨hx, hb, hml, hown, hg⟩ (cL_node_3 l hl9 K H.size qx qo (u 8) (u 15) (zc0 u v) (zc9 u v) (fun _ => 0) t1 ht1 (xs 2) (xs 3) (by rw [Int32.lt_iff_toInt_lt, show (0 : Int32).toInt = 0 from by decide]; omega) (zc0_3 u v) (zc9_1 u v) (fun _ => rfl)) kS_RL_188 hd_L_node rfl rfl ⟨(Nat.le_of_ble_eq_true rfl), (Nat.le_of_ble_eq_true rfl)⟩ hK hS hZ hPc hDc hF rfl hl.1 rfl (Nat.le_of_ble_eq_true rfl) dL_law_1966 ⟨(Nat.le_of_ble_eq_true rfl), (Nat.le_of_ble_eq_true rfl)⟩) (fun r3 u1 H locs w2 hP hD hS => ?_)
  subst w2
  have hP : va_P K.1 classes [(qm, zO 10 83 (zc71 u v)), ((v 13), zI K 16 (fun _ => 0)), (qo, zJ K 1 (fun _ => 0))] H := hP
  have hD : va_D A [(qm, zO 10 83 (zc71 u v)), ((v 13), zI K 16 (fun _ => 0)), (qo, zJ K 1 (fun _ => 0))] := hD
  refine lv_istore (lv' := [(5, .int 1), (4, .int 0), (3, .ref qo), (2, .ref qm), (1, .ref qx), (0, .ref b)]) hx hb dL_law_1969 hl (by decide) rfl (fun ls hl => ?_)
  refine lv_aload_n hx hb dL_law_1971 rfl (lv_at hl 3 rfl) ?_
  refine lv_aload_n hx hb dL_law_1972 rfl (lv_at hl 5 rfl) ?_
  refine lv_iload hx hb dL_law_1973 (lv_at hl 1 rfl) ?_
  refine lv_iconst (v := 1) hx hb dL_law_1975 (by decide) ?_
  refine lv_iadd hx hb dL_law_1976 ?_
  refine z_cst (v := 1) (by decide +kernel) ?_
  refine z_sld (v := (nI t1)) (j := 1) hx hb hX hbl hbA hS rfl (Nat.le_of_ble_eq_true rfl) v1 dL_law_1977 ?_
  refine lv_aload_n hx hb dL_law_1978 rfl (lv_at hl 5 rfl) ?_
  refine lv_iload hx hb dL_law_1979 (lv_at hl 1 rfl) ?_
  refine lv_iconst (v := 2) hx hb dL_law_1981 (by decide) ?_
  refine lv_iadd hx hb dL_law_1982 ?_
  refine z_cst (v := 2) (by decide +kernel) ?_
  refine z_sld (v := (xs 2)) (j := 2) hx hb hX hbl hbA hS rfl (Nat.le_of_ble_eq_true rfl) rfl dL_law_1983 ?_
  refine lv_aload_n hx hb dL_law_1984 rfl (lv_at hl 5 rfl) ?_
  refine lv_iload hx hb dL_law_1985 (lv_at hl 1 rfl) ?_
  refine lv_iconst (v := 3) hx hb dL_law_1987 (by decide) ?_
  refine lv_iadd hx hb dL_law_1988 ?_
  refine z_cst (v := 3) (by decide +kernel) ?_
  refine z_sld (v := (xs 3)) (j := 3) hx hb hX hbl hbA hS rfl (Nat.le_of_ble_eq_true rfl) rfl dL_law_1989 ?_
  refine z_calli [(qm, zO 10 83 (zc71 u v)), ((v 13), zI K 16 (fun _ => 0))] [(qo, zJ K 1 (fun _ => 0))] [0, 1] [2] hP hD hS hA rfl rfl (by decide +kernel) (by decide +kernel) (by decide +kernel) 125 1863522 rfl rfl (fun hPc hDc hF => z_runV (As := [.int (nI t1), .int (xs 2), .int (xs 3)]) (rest := []) ⟨hx, hb, hml, hown, hg⟩ (cX12_node_3 l K H.size qm (v 13) (zc71 u v) (fun _ => 0) t1 ht1 (xs 2) (xs 3) (zc71_14 u v) (fun _ => rfl) (by rw [Int32.lt_iff_toInt_lt, show (0 : Int32).toInt = 0 from by decide]; omega) (by rw [Int32.lt_iff_toInt_lt, show (-1 : Int32).toInt = -1 from by decide]; omega)) kV_RL_190 hd_X12_node rfl rfl ⟨(Nat.le_of_ble_eq_true rfl), (Nat.le_of_ble_eq_true rfl)⟩ hK hS hZ hPc hDc hF 0 rfl rfl rfl hl.1 rfl (Nat.le_of_ble_eq_true rfl) dL_law_1990 ⟨(Nat.le_of_ble_eq_true rfl), (Nat.le_of_ble_eq_true rfl)⟩) (fun r6 u4 H locs w5 hP hD hS => ?_)
  subst w5
  have hP : va_P K.1 classes [(qo, zJ K 1 (fun _ => 0)), (qm, zO 10 83 (va_up (zc71 u v) 81 (.int 1)))] H := hP
  have hD : va_D A [(qo, zJ K 1 (fun _ => 0)), (qm, zO 10 83 (va_up (zc71 u v) 81 (.int 1)))] := hD
  refine lv_istore (lv' := [(6, .int 0), (5, .int 1), (4, .int 0), (3, .ref qo), (2, .ref qm), (1, .ref qx), (0, .ref b)]) hx hb dL_law_1993 hl (by decide) rfl (fun ls hl => ?_)
  refine lv_aload_n hx hb dL_law_1995 rfl (lv_at hl 4 rfl) ?_
  refine z_calli [(qm, zO 10 83 (va_up (zc71 u v) 81 (.int 1)))] [(qo, zJ K 1 (fun _ => 0))] [1] [0] hP hD hS hA rfl rfl (by decide +kernel) (by decide +kernel) (by decide +kernel) 125 1863522 rfl rfl (fun hPc hDc hF => z_runV (As := []) (rest := []) ⟨hx, hb, hml, hown, hg⟩ (cX12_thrown_2 l K H.size qm (va_up (zc71 u v) 81 (.int 1)) zu_eq) kV_RL_104 hd_X12_thrown rfl rfl ⟨(Nat.le_of_ble_eq_true rfl), (Nat.le_of_ble_eq_true rfl)⟩ hK hS hZ hPc hDc hF 0 rfl rfl rfl hl.1 rfl (Nat.le_of_ble_eq_true rfl) dL_law_1996 ⟨(Nat.le_of_ble_eq_true rfl), (Nat.le_of_ble_eq_true rfl)⟩) (fun r9 u7 H locs w8 hP hD hS => ?_)
  subst w8
  have hP : va_P K.1 classes [(qo, zJ K 1 (fun _ => 0)), (qm, zO 10 83 (va_up (zc71 u v) 81 (.int 1)))] H := hP
  have hD : va_D A [(qo, zJ K 1 (fun _ => 0)), (qm, zO 10 83 (va_up (zc71 u v) 81 (.int 1)))] := hD
  refine lv_iload hx hb dL_law_1999 (lv_at hl 1 rfl) ?_
  refine lv_icmp_eq (tgt := 2006) hx hb dL_law_2001 (by decide) (fun _ => ?_) (fun c => absurd (by decide) c)
  refine lv_iload hx hb dL_law_2006 (lv_at hl 1 rfl) ?_
  refine lv_if_ne (tgt := 2023) hx hb dL_law_2008 (by decide) (fun _ => ?_) (fun c => absurd c (by decide))
  refine lv_goto (tgt := 2026) hx hb dL_law_2023 (by decide) ?_
  exact law_back ⟨hx, hb, hr, hml, hown, hg, hX, hbl, hlocks, hK, hZ, hl9, hAA, hA, hbA⟩ (Nat.le_of_ble_eq_true rfl) (Nat.le_of_ble_eq_true rfl) hS (lv_sub hl [2, 6] rfl)
set_option maxHeartbeats 4000000 in
set_option maxRecDepth 100000 in
theorem lawS_25_3 {p : Program} {l : Launch} {e : Env} {s : State} {m : MethodId} {below : List Frame} {meth : Method} {c : Code} {b : Nat} {xs : Nat → Int32} {K : zK} {A : Nat → Prop} {H : Heap} {locs : List Loc} {ls : Array Slot} (C : zC p l s m meth c b xs K A) (qx qm qo : Nat) (u v : Nat → Nat) (h0 : 0 ≤ (xs 1).toInt) (h1 : 8 ≤ (xs 1).toInt) (hP : va_P K.1 classes (lwW K qx qm qo u v) H) (hD : va_D A (lwW K qx qm qo u v)) (hS : va_S A s.heap H locs) (hl : lv_has ls 7 [(4, .int 0), (3, .ref qo), (2, .ref qm), (1, .ref qx), (0, .ref b)]) : W p l e room_1 s m #[Value.ref b] below meth c H locs 124 1863516 (lw_Z below #[Value.ref b] s) (F0 m 1946 ls []) := by
  obtain ⟨hx, hb, hr, hml, hown, hg, hX, hbl, hlocks, hK, hZ, hl9, hAA, hA, hbA⟩ := C
  have hP : va_P K.1 classes [(qx, zO 9 9 (zc0 u v)), (qm, zO 10 83 (zc71 u v)), (qo, zJ K 1 (fun _ => 0))] H := hP.sub [0, 71, 123] rfl
  have hD : va_D A [(qx, zO 9 9 (zc0 u v)), (qm, zO 10 83 (zc71 u v)), (qo, zJ K 1 (fun _ => 0))] := hD.sub [0, 71, 123] (by decide +kernel) rfl
  refine lv_aload_n hx hb dL_law_1946 rfl (lv_at hl 3 rfl) ?_
  refine lv_aload_n hx hb dL_law_1947 rfl (lv_at hl 4 rfl) ?_
  refine lv_iload hx hb dL_law_1948 (lv_at hl 0 rfl) ?_
  refine lv_iconst (v := 1) hx hb dL_law_1950 (by decide) ?_
  refine lv_iadd hx hb dL_law_1951 ?_
  refine z_cst (v := 1) (by decide +kernel) ?_
  refine z_sld (v := (xs 1)) (j := 1) hx hb hX hbl hbA hS rfl (Nat.le_of_ble_eq_true rfl) rfl dL_law_1952 ?_
  refine lv_aload_n hx hb dL_law_1953 rfl (lv_at hl 4 rfl) ?_
  refine lv_iload hx hb dL_law_1954 (lv_at hl 0 rfl) ?_
  refine lv_iconst (v := 2) hx hb dL_law_1956 (by decide) ?_
  refine lv_iadd hx hb dL_law_1957 ?_
  refine z_cst (v := 2) (by decide +kernel) ?_
  refine z_sld (v := (xs 2)) (j := 2) hx hb hX hbl hbA hS rfl (Nat.le_of_ble_eq_true rfl) rfl dL_law_1958 ?_
  refine lv_aload_n hx hb dL_law_1959 rfl (lv_at hl 4 rfl) ?_
  refine lv_iload hx hb dL_law_1960 (lv_at hl 0 rfl) ?_
  refine lv_iconst (v := 3) hx hb dL_law_1962 (by decide) ?_
  refine lv_iadd hx hb dL_law_1963 ?_
  refine z_cst (v := 3) (by decide +kernel) ?_
  refine z_sld (v := (xs 3)) (j := 3) hx hb hX hbl hbA hS rfl (Nat.le_of_ble_eq_true rfl) rfl dL_law_1964 ?_
  refine lv_aload_n hx hb dL_law_1965 rfl (lv_at hl 1 rfl) ?_
  refine z_hcalli [(qx, zO 9 9 (zc0 u v))] [(qm, zO 10 83 (zc71 u v)), (qo, zJ K 1 (fun _ => 0))] [0] [1, 2] hP hD hS hA rfl rfl (by decide +kernel) (by decide +kernel) (by decide +kernel) 125 1863522 rfl rfl (fun hPc hDc hF => z_xrunH (As := [.ref qx, .int (xs 1), .int (xs 2), .int (xs 3), .ref qo]) (rest := []) ⟨hx, hb, hml, hown, hg⟩ (cL_node_4 l hl9 K H.size qx qo (zc0 u v) (xs 1) (xs 2) (xs 3) (by rw [Int32.lt_iff_toInt_lt, show (0 : Int32).toInt = 0 from by decide]; omega) (by rw [Int32.lt_iff_toInt_lt, show (8 : Int32).toInt = 8 from by decide]; omega)) kS_RL_188 hd_L_node rfl rfl ⟨(Nat.le_of_ble_eq_true rfl), (Nat.le_of_ble_eq_true rfl)⟩ hK hS hZ hPc hDc hF rfl hl.1 rfl (Nat.le_of_ble_eq_true rfl) dL_law_1966 ⟨(Nat.le_of_ble_eq_true rfl), (Nat.le_of_ble_eq_true rfl)⟩) (fun r3 u1 H locs w2 hP hD hS => ?_)
  subst w2
  have hP : va_P K.1 classes [(qm, zO 10 83 (zc71 u v)), (qo, zJ K 1 (fun _ => 0))] H := hP
  have hD : va_D A [(qm, zO 10 83 (zc71 u v)), (qo, zJ K 1 (fun _ => 0))] := hD
  refine lv_istore (lv' := [(5, .int 2), (4, .int 0), (3, .ref qo), (2, .ref qm), (1, .ref qx), (0, .ref b)]) hx hb dL_law_1969 hl (by decide) rfl (fun ls hl => ?_)
  refine lv_aload_n hx hb dL_law_1971 rfl (lv_at hl 3 rfl) ?_
  refine lv_aload_n hx hb dL_law_1972 rfl (lv_at hl 5 rfl) ?_
  refine lv_iload hx hb dL_law_1973 (lv_at hl 1 rfl) ?_
  refine lv_iconst (v := 1) hx hb dL_law_1975 (by decide) ?_
  refine lv_iadd hx hb dL_law_1976 ?_
  refine z_cst (v := 1) (by decide +kernel) ?_
  refine z_sld (v := (xs 1)) (j := 1) hx hb hX hbl hbA hS rfl (Nat.le_of_ble_eq_true rfl) rfl dL_law_1977 ?_
  refine lv_aload_n hx hb dL_law_1978 rfl (lv_at hl 5 rfl) ?_
  refine lv_iload hx hb dL_law_1979 (lv_at hl 1 rfl) ?_
  refine lv_iconst (v := 2) hx hb dL_law_1981 (by decide) ?_
  refine lv_iadd hx hb dL_law_1982 ?_
  refine z_cst (v := 2) (by decide +kernel) ?_
  refine z_sld (v := (xs 2)) (j := 2) hx hb hX hbl hbA hS rfl (Nat.le_of_ble_eq_true rfl) rfl dL_law_1983 ?_
  refine lv_aload_n hx hb dL_law_1984 rfl (lv_at hl 5 rfl) ?_
  refine lv_iload hx hb dL_law_1985 (lv_at hl 1 rfl) ?_
  refine lv_iconst (v := 3) hx hb dL_law_1987 (by decide) ?_
  refine lv_iadd hx hb dL_law_1988 ?_
  refine z_cst (v := 3) (by decide +kernel) ?_
  refine z_sld (v := (xs 3)) (j := 3) hx hb hX hbl hbA hS rfl (Nat.le_of_ble_eq_true rfl) rfl dL_law_1989 ?_
  refine z_calli [(qm, zO 10 83 (zc71 u v))] [(qo, zJ K 1 (fun _ => 0))] [0] [1] hP hD hS hA rfl rfl (by decide +kernel) (by decide +kernel) (by decide +kernel) 125 1863522 rfl rfl (fun hPc hDc hF => z_runV (As := [.int (xs 1), .int (xs 2), .int (xs 3)]) (rest := []) ⟨hx, hb, hml, hown, hg⟩ (cX12_node_4 l K H.size qm (zc71 u v) (xs 1) (xs 2) (xs 3) (by rw [Int32.lt_iff_toInt_lt, show (0 : Int32).toInt = 0 from by decide]; omega) (by rw [Int32.lt_iff_toInt_lt, show (7 : Int32).toInt = 7 from by decide]; omega)) kV_RL_190 hd_X12_node rfl rfl ⟨(Nat.le_of_ble_eq_true rfl), (Nat.le_of_ble_eq_true rfl)⟩ hK hS hZ hPc hDc hF 0 rfl rfl rfl hl.1 rfl (Nat.le_of_ble_eq_true rfl) dL_law_1990 ⟨(Nat.le_of_ble_eq_true rfl), (Nat.le_of_ble_eq_true rfl)⟩) (fun r6 u4 H locs w5 hP hD hS => ?_)
  subst w5
  have hP : va_P K.1 classes [(qo, zJ K 1 (fun _ => 0)), (qm, zO 10 83 (va_up (zc71 u v) 81 (.int 2)))] H := hP
  have hD : va_D A [(qo, zJ K 1 (fun _ => 0)), (qm, zO 10 83 (va_up (zc71 u v) 81 (.int 2)))] := hD
  refine lv_istore (lv' := [(6, .int 0), (5, .int 2), (4, .int 0), (3, .ref qo), (2, .ref qm), (1, .ref qx), (0, .ref b)]) hx hb dL_law_1993 hl (by decide) rfl (fun ls hl => ?_)
  refine lv_aload_n hx hb dL_law_1995 rfl (lv_at hl 4 rfl) ?_
  refine z_calli [(qm, zO 10 83 (va_up (zc71 u v) 81 (.int 2)))] [(qo, zJ K 1 (fun _ => 0))] [1] [0] hP hD hS hA rfl rfl (by decide +kernel) (by decide +kernel) (by decide +kernel) 125 1863522 rfl rfl (fun hPc hDc hF => z_runV (As := []) (rest := []) ⟨hx, hb, hml, hown, hg⟩ (cX12_thrown_3 l K H.size qm (va_up (zc71 u v) 81 (.int 2)) zu_eq) kV_RL_104 hd_X12_thrown rfl rfl ⟨(Nat.le_of_ble_eq_true rfl), (Nat.le_of_ble_eq_true rfl)⟩ hK hS hZ hPc hDc hF 0 rfl rfl rfl hl.1 rfl (Nat.le_of_ble_eq_true rfl) dL_law_1996 ⟨(Nat.le_of_ble_eq_true rfl), (Nat.le_of_ble_eq_true rfl)⟩) (fun r9 u7 H locs w8 hP hD hS => ?_)
  subst w8
  have hP : va_P K.1 classes [(qo, zJ K 1 (fun _ => 0)), (qm, zO 10 83 (va_up (zc71 u v) 81 (.int 2)))] H := hP
  have hD : va_D A [(qo, zJ K 1 (fun _ => 0)), (qm, zO 10 83 (va_up (zc71 u v) 81 (.int 2)))] := hD
  refine lv_iload hx hb dL_law_1999 (lv_at hl 1 rfl) ?_
  refine lv_icmp_eq (tgt := 2006) hx hb dL_law_2001 (by decide) (fun _ => ?_) (fun c => absurd (by decide) c)
  refine lv_iload hx hb dL_law_2006 (lv_at hl 1 rfl) ?_
  refine lv_if_ne (tgt := 2023) hx hb dL_law_2008 (by decide) (fun _ => ?_) (fun c => absurd c (by decide))
  refine lv_goto (tgt := 2026) hx hb dL_law_2023 (by decide) ?_
  exact law_back ⟨hx, hb, hr, hml, hown, hg, hX, hbl, hlocks, hK, hZ, hl9, hAA, hA, hbA⟩ (Nat.le_of_ble_eq_true rfl) (Nat.le_of_ble_eq_true rfl) hS (lv_sub hl [2, 6] rfl)
theorem lawC_25 {p : Program} {l : Launch} {e : Env} {s : State} {m : MethodId} {below : List Frame} {meth : Method} {c : Code} {b : Nat} {xs : Nat → Int32} {K : zK} {A : Nat → Prop} {H : Heap} {locs : List Loc} {ls : Array Slot} (C : zC p l s m meth c b xs K A) (qx qm qo : Nat) (u v : Nat → Nat) (hP : va_P K.1 classes (lwW K qx qm qo u v) H) (hD : va_D A (lwW K qx qm qo u v)) (hS : va_S A s.heap H locs) (hl : lv_has ls 7 [(4, .int 0), (3, .ref qo), (2, .ref qm), (1, .ref qx), (0, .ref b)]) : W p l e room_1 s m #[Value.ref b] below meth c H locs 124 1863516 (lw_Z below #[Value.ref b] s) (F0 m 1946 ls []) := by
  rcases z_split (xs 1) (0) with h0 | h0
  · exact lawS_25_0 C qx qm qo u v h0 hP hD hS hl
  · rcases z_split (xs 1) (8) with h1 | h1
    · rcases z_split (xs 2) (0) with h2 | h2
      · exact lawS_25_1 C qx qm qo u v h0 h1 h2 hP hD hS hl
      · exact lawS_25_2 C qx qm qo u v h0 h1 h2 hP hD hS hl
    · exact lawS_25_3 C qx qm qo u v h0 h1 hP hD hS hl
