/-! the law, case by case (printed by wip/p1/lawgen.py) -/
set_option maxHeartbeats 4000000 in
set_option maxRecDepth 100000 in
theorem lawS_15_0 {p : Program} {l : Launch} {e : Env} {s : State} {m : MethodId} {below : List Frame} {meth : Method} {c : Code} {b : Nat} {xs : Nat → Int32} {K : zK} {A : Nat → Prop} {H : Heap} {locs : List Loc} {ls : Array Slot} (C : zC p l s m meth c b xs K A) (qx qm qo : Nat) (u v : Nat → Nat) (h0 : (xs 2).toInt < 0) (hP : va_P K.1 classes (lwW K qx qm qo u v) H) (hD : va_D A (lwW K qx qm qo u v)) (hS : va_S A s.heap H locs) (hl : lv_has ls 7 [(4, .int 0), (3, .ref qo), (2, .ref qm), (1, .ref qx), (0, .ref b)]) : W p l e room_1 s m #[Value.ref b] below meth c H locs 124 1863516 (lw_Z below #[Value.ref b] s) (F0 m 1242 ls []) := by
  obtain ⟨hx, hb, hr, hml, hown, hg, hX, hbl, hlocks, hK, hZ, hl9, hAA, hA, hbA⟩ := C
  have hP : va_P K.1 classes [(qx, zO 9 9 (zc0 u v)), ((u 0), zO 7 6 (zc1 u v)), (qm, zO 10 83 (zc71 u v)), (qo, zJ K 1 (fun _ => 0))] H := hP.sub [0, 1, 71, 123] rfl
  have hD : va_D A [(qx, zO 9 9 (zc0 u v)), ((u 0), zO 7 6 (zc1 u v)), (qm, zO 10 83 (zc71 u v)), (qo, zJ K 1 (fun _ => 0))] := hD.sub [0, 1, 71, 123] (by decide +kernel) rfl
  refine lv_aload_n hx hb dL_law_1242 rfl (lv_at hl 3 rfl) ?_
  refine lv_aload_n hx hb dL_law_1243 rfl (lv_at hl 4 rfl) ?_
  refine lv_iload hx hb dL_law_1244 (lv_at hl 0 rfl) ?_
  refine lv_iconst (v := 1) hx hb dL_law_1246 (by decide) ?_
  refine lv_iadd hx hb dL_law_1247 ?_
  refine z_cst (v := 1) (by decide +kernel) ?_
  refine z_sld (v := (xs 1)) (j := 1) hx hb hX hbl hbA hS rfl (Nat.le_of_ble_eq_true rfl) rfl dL_law_1248 ?_
  refine lv_aload_n hx hb dL_law_1249 rfl (lv_at hl 4 rfl) ?_
  refine lv_iload hx hb dL_law_1250 (lv_at hl 0 rfl) ?_
  refine lv_iconst (v := 2) hx hb dL_law_1252 (by decide) ?_
  refine lv_iadd hx hb dL_law_1253 ?_
  refine z_cst (v := 2) (by decide +kernel) ?_
  refine z_sld (v := (xs 2)) (j := 2) hx hb hX hbl hbA hS rfl (Nat.le_of_ble_eq_true rfl) rfl dL_law_1254 ?_
  refine lv_aload_n hx hb dL_law_1255 rfl (lv_at hl 1 rfl) ?_
  refine z_hcalli [(qx, zO 9 9 (zc0 u v)), ((u 0), zO 7 6 (zc1 u v))] [(qm, zO 10 83 (zc71 u v)), (qo, zJ K 1 (fun _ => 0))] [0, 1] [2, 3] hP hD hS hA rfl rfl (by decide +kernel) (by decide +kernel) (by decide +kernel) 125 1863522 rfl rfl (fun hPc hDc hF => z_xrunH (As := [.ref qx, .int (xs 1), .int (xs 2), .ref qo]) (rest := []) ⟨hx, hb, hml, hown, hg⟩ (cL_define_1 l hl9 K H.size qx qo (u 0) (zc0 u v) (zc1 u v) (xs 1) (xs 2) (zc0_0 u v) (by rw [Int32.lt_iff_toInt_lt, show (0 : Int32).toInt = 0 from by decide]; omega)) kS_RL_153 hd_L_define rfl rfl ⟨(Nat.le_of_ble_eq_true rfl), (Nat.le_of_ble_eq_true rfl)⟩ hK hS hZ hPc hDc hF rfl hl.1 rfl (Nat.le_of_ble_eq_true rfl) dL_law_1256 ⟨(Nat.le_of_ble_eq_true rfl), (Nat.le_of_ble_eq_true rfl)⟩) (fun r3 u1 H locs w2 hP hD hS => ?_)
  subst w2
  have hP : va_P K.1 classes [(qm, zO 10 83 (zc71 u v)), (qo, zJ K 1 (fun _ => 0))] H := hP
  have hD : va_D A [(qm, zO 10 83 (zc71 u v)), (qo, zJ K 1 (fun _ => 0))] := hD
  refine lv_istore (lv' := [(5, .int 1), (4, .int 0), (3, .ref qo), (2, .ref qm), (1, .ref qx), (0, .ref b)]) hx hb dL_law_1259 hl (by decide) rfl (fun ls hl => ?_)
  refine lv_aload_n hx hb dL_law_1261 rfl (lv_at hl 3 rfl) ?_
  refine lv_aload_n hx hb dL_law_1262 rfl (lv_at hl 5 rfl) ?_
  refine lv_iload hx hb dL_law_1263 (lv_at hl 1 rfl) ?_
  refine lv_iconst (v := 1) hx hb dL_law_1265 (by decide) ?_
  refine lv_iadd hx hb dL_law_1266 ?_
  refine z_cst (v := 1) (by decide +kernel) ?_
  refine z_sld (v := (xs 1)) (j := 1) hx hb hX hbl hbA hS rfl (Nat.le_of_ble_eq_true rfl) rfl dL_law_1267 ?_
  refine lv_aload_n hx hb dL_law_1268 rfl (lv_at hl 5 rfl) ?_
  refine lv_iload hx hb dL_law_1269 (lv_at hl 1 rfl) ?_
  refine lv_iconst (v := 2) hx hb dL_law_1271 (by decide) ?_
  refine lv_iadd hx hb dL_law_1272 ?_
  refine z_cst (v := 2) (by decide +kernel) ?_
  refine z_sld (v := (xs 2)) (j := 2) hx hb hX hbl hbA hS rfl (Nat.le_of_ble_eq_true rfl) rfl dL_law_1273 ?_
  refine z_calli [(qm, zO 10 83 (zc71 u v))] [(qo, zJ K 1 (fun _ => 0))] [0] [1] hP hD hS hA rfl rfl (by decide +kernel) (by decide +kernel) (by decide +kernel) 125 1863522 rfl rfl (fun hPc hDc hF => z_runV (As := [.int (xs 1), .int (xs 2)]) (rest := []) ⟨hx, hb, hml, hown, hg⟩ (cX12_define_1 l K H.size qm (zc71 u v) (xs 1) (xs 2) (zc71_0 u v) (by rw [Int32.lt_iff_toInt_lt, show (0 : Int32).toInt = 0 from by decide]; omega)) kV_RL_155 hd_X12_define rfl rfl ⟨(Nat.le_of_ble_eq_true rfl), (Nat.le_of_ble_eq_true rfl)⟩ hK hS hZ hPc hDc hF 0 rfl rfl rfl hl.1 rfl (Nat.le_of_ble_eq_true rfl) dL_law_1274 ⟨(Nat.le_of_ble_eq_true rfl), (Nat.le_of_ble_eq_true rfl)⟩) (fun r6 u4 H locs w5 hP hD hS => ?_)
  subst w5
  have hP : va_P K.1 classes [(qo, zJ K 1 (fun _ => 0)), (qm, zO 10 83 (va_up (zc71 u v) 81 (.int 1)))] H := hP
  have hD : va_D A [(qo, zJ K 1 (fun _ => 0)), (qm, zO 10 83 (va_up (zc71 u v) 81 (.int 1)))] := hD
  refine lv_istore (lv' := [(6, .int 0), (5, .int 1), (4, .int 0), (3, .ref qo), (2, .ref qm), (1, .ref qx), (0, .ref b)]) hx hb dL_law_1277 hl (by decide) rfl (fun ls hl => ?_)
  refine lv_aload_n hx hb dL_law_1279 rfl (lv_at hl 4 rfl) ?_
  refine z_calli [(qm, zO 10 83 (va_up (zc71 u v) 81 (.int 1)))] [(qo, zJ K 1 (fun _ => 0))] [1] [0] hP hD hS hA rfl rfl (by decide +kernel) (by decide +kernel) (by decide +kernel) 125 1863522 rfl rfl (fun hPc hDc hF => z_runV (As := []) (rest := []) ⟨hx, hb, hml, hown, hg⟩ (cX12_thrown_2 l K H.size qm (va_up (zc71 u v) 81 (.int 1)) zu_eq) kV_RL_104 hd_X12_thrown rfl rfl ⟨(Nat.le_of_ble_eq_true rfl), (Nat.le_of_ble_eq_true rfl)⟩ hK hS hZ hPc hDc hF 0 rfl rfl rfl hl.1 rfl (Nat.le_of_ble_eq_true rfl) dL_law_1280 ⟨(Nat.le_of_ble_eq_true rfl), (Nat.le_of_ble_eq_true rfl)⟩) (fun r9 u7 H locs w8 hP hD hS => ?_)
  subst w8
  have hP : va_P K.1 classes [(qo, zJ K 1 (fun _ => 0)), (qm, zO 10 83 (va_up (zc71 u v) 81 (.int 1)))] H := hP
  have hD : va_D A [(qo, zJ K 1 (fun _ => 0)), (qm, zO 10 83 (va_up (zc71 u v) 81 (.int 1)))] := hD
  refine lv_iload hx hb dL_law_1283 (lv_at hl 1 rfl) ?_
  refine lv_icmp_eq (tgt := 1290) hx hb dL_law_1285 (by decide) (fun _ => ?_) (fun c => absurd (by decide) c)
  refine lv_iload hx hb dL_law_1290 (lv_at hl 1 rfl) ?_
  refine lv_if_ne (tgt := 1307) hx hb dL_law_1292 (by decide) (fun _ => ?_) (fun c => absurd c (by decide))
  refine lv_goto (tgt := 2026) hx hb dL_law_1307 (by decide) ?_
  exact law_back ⟨hx, hb, hr, hml, hown, hg, hX, hbl, hlocks, hK, hZ, hl9, hAA, hA, hbA⟩ (Nat.le_of_ble_eq_true rfl) (Nat.le_of_ble_eq_true rfl) hS (lv_sub hl [2, 6] rfl)
set_option maxHeartbeats 4000000 in
set_option maxRecDepth 100000 in
theorem lawS_15_1 {p : Program} {l : Launch} {e : Env} {s : State} {m : MethodId} {below : List Frame} {meth : Method} {c : Code} {b : Nat} {xs : Nat → Int32} {K : zK} {A : Nat → Prop} {H : Heap} {locs : List Loc} {ls : Array Slot} (C : zC p l s m meth c b xs K A) (qx qm qo : Nat) (u v : Nat → Nat) (h0 : 0 ≤ (xs 2).toInt) (hP : va_P K.1 classes (lwW K qx qm qo u v) H) (hD : va_D A (lwW K qx qm qo u v)) (hS : va_S A s.heap H locs) (hl : lv_has ls 7 [(4, .int 0), (3, .ref qo), (2, .ref qm), (1, .ref qx), (0, .ref b)]) : W p l e room_1 s m #[Value.ref b] below meth c H locs 124 1863516 (lw_Z below #[Value.ref b] s) (F0 m 1242 ls []) := by
  obtain ⟨hx, hb, hr, hml, hown, hg, hX, hbl, hlocks, hK, hZ, hl9, hAA, hA, hbA⟩ := C
  have hP : va_P K.1 classes [(qx, zO 9 9 (zc0 u v)), ((u 0), zO 7 6 (zc1 u v)), (qm, zO 10 83 (zc71 u v)), (qo, zJ K 1 (fun _ => 0))] H := hP.sub [0, 1, 71, 123] rfl
  have hD : va_D A [(qx, zO 9 9 (zc0 u v)), ((u 0), zO 7 6 (zc1 u v)), (qm, zO 10 83 (zc71 u v)), (qo, zJ K 1 (fun _ => 0))] := hD.sub [0, 1, 71, 123] (by decide +kernel) rfl
  refine lv_aload_n hx hb dL_law_1242 rfl (lv_at hl 3 rfl) ?_
  refine lv_aload_n hx hb dL_law_1243 rfl (lv_at hl 4 rfl) ?_
  refine lv_iload hx hb dL_law_1244 (lv_at hl 0 rfl) ?_
  refine lv_iconst (v := 1) hx hb dL_law_1246 (by decide) ?_
  refine lv_iadd hx hb dL_law_1247 ?_
  refine z_cst (v := 1) (by decide +kernel) ?_
  refine z_sld (v := (xs 1)) (j := 1) hx hb hX hbl hbA hS rfl (Nat.le_of_ble_eq_true rfl) rfl dL_law_1248 ?_
  refine lv_aload_n hx hb dL_law_1249 rfl (lv_at hl 4 rfl) ?_
  refine lv_iload hx hb dL_law_1250 (lv_at hl 0 rfl) ?_
  refine lv_iconst (v := 2) hx hb dL_law_1252 (by decide) ?_
  refine lv_iadd hx hb dL_law_1253 ?_
  refine z_cst (v := 2) (by decide +kernel) ?_
  refine z_sld (v := (xs 2)) (j := 2) hx hb hX hbl hbA hS rfl (Nat.le_of_ble_eq_true rfl) rfl dL_law_1254 ?_
  refine lv_aload_n hx hb dL_law_1255 rfl (lv_at hl 1 rfl) ?_
  refine z_hcalli [(qx, zO 9 9 (zc0 u v)), ((u 0), zO 7 6 (zc1 u v))] [(qm, zO 10 83 (zc71 u v)), (qo, zJ K 1 (fun _ => 0))] [0, 1] [2, 3] hP hD hS hA rfl rfl (by decide +kernel) (by decide +kernel) (by decide +kernel) 125 1863522 rfl rfl (fun hPc hDc hF => z_xrunH (As := [.ref qx, .int (xs 1), .int (xs 2), .ref qo]) (rest := []) ⟨hx, hb, hml, hown, hg⟩ (cL_define_2 l hl9 K H.size qx qo (u 0) (zc0 u v) (zc1 u v) (xs 1) (xs 2) (zc0_0 u v) (by rw [Int32.lt_iff_toInt_lt, show (0 : Int32).toInt = 0 from by decide]; omega) (zc1_5 u v) (by rw [Int32.le_iff_toInt_le, show (0 : Int32).toInt = 0 from by decide]; omega)) kS_RL_153 hd_L_define rfl rfl ⟨(Nat.le_of_ble_eq_true rfl), (Nat.le_of_ble_eq_true rfl)⟩ hK hS hZ hPc hDc hF rfl hl.1 rfl (Nat.le_of_ble_eq_true rfl) dL_law_1256 ⟨(Nat.le_of_ble_eq_true rfl), (Nat.le_of_ble_eq_true rfl)⟩) (fun r3 u1 H locs w2 hP hD hS => ?_)
  subst w2
  have hP : va_P K.1 classes [(qm, zO 10 83 (zc71 u v)), (qo, zJ K 1 (fun _ => 0))] H := hP
  have hD : va_D A [(qm, zO 10 83 (zc71 u v)), (qo, zJ K 1 (fun _ => 0))] := hD
  refine lv_istore (lv' := [(5, .int 1), (4, .int 0), (3, .ref qo), (2, .ref qm), (1, .ref qx), (0, .ref b)]) hx hb dL_law_1259 hl (by decide) rfl (fun ls hl => ?_)
  refine lv_aload_n hx hb dL_law_1261 rfl (lv_at hl 3 rfl) ?_
  refine lv_aload_n hx hb dL_law_1262 rfl (lv_at hl 5 rfl) ?_
  refine lv_iload hx hb dL_law_1263 (lv_at hl 1 rfl) ?_
  refine lv_iconst (v := 1) hx hb dL_law_1265 (by decide) ?_
  refine lv_iadd hx hb dL_law_1266 ?_
  refine z_cst (v := 1) (by decide +kernel) ?_
  refine z_sld (v := (xs 1)) (j := 1) hx hb hX hbl hbA hS rfl (Nat.le_of_ble_eq_true rfl) rfl dL_law_1267 ?_
  refine lv_aload_n hx hb dL_law_1268 rfl (lv_at hl 5 rfl) ?_
  refine lv_iload hx hb dL_law_1269 (lv_at hl 1 rfl) ?_
  refine lv_iconst (v := 2) hx hb dL_law_1271 (by decide) ?_
  refine lv_iadd hx hb dL_law_1272 ?_
  refine z_cst (v := 2) (by decide +kernel) ?_
  refine z_sld (v := (xs 2)) (j := 2) hx hb hX hbl hbA hS rfl (Nat.le_of_ble_eq_true rfl) rfl dL_law_1273 ?_
  refine z_calli [(qm, zO 10 83 (zc71 u v))] [(qo, zJ K 1 (fun _ => 0))] [0] [1] hP hD hS hA rfl rfl (by decide +kernel) (by decide +kernel) (by decide +kernel) 125 1863522 rfl rfl (fun hPc hDc hF => z_runV (As := [.int (xs 1), .int (xs 2)]) (rest := []) ⟨hx, hb, hml, hown, hg⟩ (cX12_define_2 l K H.size qm (zc71 u v) (xs 1) (xs 2) (zc71_0 u v) (by rw [Int32.lt_iff_toInt_lt, show (0 : Int32).toInt = 0 from by decide]; omega) (by rw [Int32.lt_iff_toInt_lt, show (-1 : Int32).toInt = -1 from by decide]; omega)) kV_RL_155 hd_X12_define rfl rfl ⟨(Nat.le_of_ble_eq_true rfl), (Nat.le_of_ble_eq_true rfl)⟩ hK hS hZ hPc hDc hF 0 rfl rfl rfl hl.1 rfl (Nat.le_of_ble_eq_true rfl) dL_law_1274 ⟨(Nat.le_of_ble_eq_true rfl), (Nat.le_of_ble_eq_true rfl)⟩) (fun r6 u4 H locs w5 hP hD hS => ?_)
  subst w5
  have hP : va_P K.1 classes [(qo, zJ K 1 (fun _ => 0)), (qm, zO 10 83 (va_up (zc71 u v) 81 (.int 1)))] H := hP
  have hD : va_D A [(qo, zJ K 1 (fun _ => 0)), (qm, zO 10 83 (va_up (zc71 u v) 81 (.int 1)))] := hD
  refine lv_istore (lv' := [(6, .int 0), (5, .int 1), (4, .int 0), (3, .ref qo), (2, .ref qm), (1, .ref qx), (0, .ref b)]) hx hb dL_law_1277 hl (by decide) rfl (fun ls hl => ?_)
  refine lv_aload_n hx hb dL_law_1279 rfl (lv_at hl 4 rfl) ?_
  refine z_calli [(qm, zO 10 83 (va_up (zc71 u v) 81 (.int 1)))] [(qo, zJ K 1 (fun _ => 0))] [1] [0] hP hD hS hA rfl rfl (by decide +kernel) (by decide +kernel) (by decide +kernel) 125 1863522 rfl rfl (fun hPc hDc hF => z_runV (As := []) (rest := []) ⟨hx, hb, hml, hown, hg⟩ (cX12_thrown_2 l K H.size qm (va_up (zc71 u v) 81 (.int 1)) zu_eq) kV_RL_104 hd_X12_thrown rfl rfl ⟨(Nat.le_of_ble_eq_true rfl), (Nat.le_of_ble_eq_true rfl)⟩ hK hS hZ hPc hDc hF 0 rfl rfl rfl hl.1 rfl (Nat.le_of_ble_eq_true rfl) dL_law_1280 ⟨(Nat.le_of_ble_eq_true rfl), (Nat.le_of_ble_eq_true rfl)⟩) (fun r9 u7 H locs w8 hP hD hS => ?_)
  subst w8
  have hP : va_P K.1 classes [(qo, zJ K 1 (fun _ => 0)), (qm, zO 10 83 (va_up (zc71 u v) 81 (.int 1)))] H := hP
  have hD : va_D A [(qo, zJ K 1 (fun _ => 0)), (qm, zO 10 83 (va_up (zc71 u v) 81 (.int 1)))] := hD
  refine lv_iload hx hb dL_law_1283 (lv_at hl 1 rfl) ?_
  refine lv_icmp_eq (tgt := 1290) hx hb dL_law_1285 (by decide) (fun _ => ?_) (fun c => absurd (by decide) c)
  refine lv_iload hx hb dL_law_1290 (lv_at hl 1 rfl) ?_
  refine lv_if_ne (tgt := 1307) hx hb dL_law_1292 (by decide) (fun _ => ?_) (fun c => absurd c (by decide))
  refine lv_goto (tgt := 2026) hx hb dL_law_1307 (by decide) ?_
  exact law_back ⟨hx, hb, hr, hml, hown, hg, hX, hbl, hlocks, hK, hZ, hl9, hAA, hA, hbA⟩ (Nat.le_of_ble_eq_true rfl) (Nat.le_of_ble_eq_true rfl) hS (lv_sub hl [2, 6] rfl)
theorem lawC_15 {p : Program} {l : Launch} {e : Env} {s : State} {m : MethodId} {below : List Frame} {meth : Method} {c : Code} {b : Nat} {xs : Nat → Int32} {K : zK} {A : Nat → Prop} {H : Heap} {locs : List Loc} {ls : Array Slot} (C : zC p l s m meth c b xs K A) (qx qm qo : Nat) (u v : Nat → Nat) (hP : va_P K.1 classes (lwW K qx qm qo u v) H) (hD : va_D A (lwW K qx qm qo u v)) (hS : va_S A s.heap H locs) (hl : lv_has ls 7 [(4, .int 0), (3, .ref qo), (2, .ref qm), (1, .ref qx), (0, .ref b)]) : W p l e room_1 s m #[Value.ref b] below meth c H locs 124 1863516 (lw_Z below #[Value.ref b] s) (F0 m 1242 ls []) := by
  rcases z_split (xs 2) (0) with h0 | h0
  · exact lawS_15_0 C qx qm qo u v h0 hP hD hS hl
  · exact lawS_15_1 C qx qm qo u v h0 hP hD hS hl
set_option maxHeartbeats 4000000 in
set_option maxRecDepth 100000 in
theorem lawS_16_0 {p : Program} {l : Launch} {e : Env} {s : State} {m : MethodId} {below : List Frame} {meth : Method} {c : Code} {b : Nat} {xs : Nat → Int32} {K : zK} {A : Nat → Prop} {H : Heap} {locs : List Loc} {ls : Array Slot} (C : zC p l s m meth c b xs K A) (qx qm qo : Nat) (u v : Nat → Nat) (h0 : (xs 1).toInt < 0) (hP : va_P K.1 classes (lwW K qx qm qo u v) H) (hD : va_D A (lwW K qx qm qo u v)) (hS : va_S A s.heap H locs) (hl : lv_has ls 7 [(4, .int 0), (3, .ref qo), (2, .ref qm), (1, .ref qx), (0, .ref b)]) : W p l e room_1 s m #[Value.ref b] below meth c H locs 124 1863516 (lw_Z below #[Value.ref b] s) (F0 m 1310 ls []) := by
  obtain ⟨hx, hb, hr, hml, hown, hg, hX, hbl, hlocks, hK, hZ, hl9, hAA, hA, hbA⟩ := C
  have hP : va_P K.1 classes [(qx, zO 9 9 (zc0 u v)), (qm, zO 10 83 (zc71 u v)), (qo, zJ K 1 (fun _ => 0))] H := hP.sub [0, 71, 123] rfl
  have hD : va_D A [(qx, zO 9 9 (zc0 u v)), (qm, zO 10 83 (zc71 u v)), (qo, zJ K 1 (fun _ => 0))] := hD.sub [0, 71, 123] (by decide +kernel) rfl
  refine lv_aload_n hx hb dL_law_1310 rfl (lv_at hl 3 rfl) ?_
  refine lv_aload_n hx hb dL_law_1311 rfl (lv_at hl 4 rfl) ?_
  refine lv_iload hx hb dL_law_1312 (lv_at hl 0 rfl) ?_
  refine lv_iconst (v := 1) hx hb dL_law_1314 (by decide) ?_
  refine lv_iadd hx hb dL_law_1315 ?_
  refine z_cst (v := 1) (by decide +kernel) ?_
  refine z_sld (v := (xs 1)) (j := 1) hx hb hX hbl hbA hS rfl (Nat.le_of_ble_eq_true rfl) rfl dL_law_1316 ?_
  refine lv_aload_n hx hb dL_law_1317 rfl (lv_at hl 4 rfl) ?_
  refine lv_iload hx hb dL_law_1318 (lv_at hl 0 rfl) ?_
  refine lv_iconst (v := 2) hx hb dL_law_1320 (by decide) ?_
  refine lv_iadd hx hb dL_law_1321 ?_
  refine z_cst (v := 2) (by decide +kernel) ?_
  refine z_sld (v := (xs 2)) (j := 2) hx hb hX hbl hbA hS rfl (Nat.le_of_ble_eq_true rfl) rfl dL_law_1322 ?_
  refine lv_aload_n hx hb dL_law_1323 rfl (lv_at hl 4 rfl) ?_
  refine lv_iload hx hb dL_law_1324 (lv_at hl 0 rfl) ?_
  refine lv_iconst (v := 3) hx hb dL_law_1326 (by decide) ?_
  refine lv_iadd hx hb dL_law_1327 ?_
  refine z_cst (v := 3) (by decide +kernel) ?_
  refine z_sld (v := (xs 3)) (j := 3) hx hb hX hbl hbA hS rfl (Nat.le_of_ble_eq_true rfl) rfl dL_law_1328 ?_
  refine lv_aload_n hx hb dL_law_1329 rfl (lv_at hl 1 rfl) ?_
  refine z_hcalli [(qx, zO 9 9 (zc0 u v))] [(qm, zO 10 83 (zc71 u v)), (qo, zJ K 1 (fun _ => 0))] [0] [1, 2] hP hD hS hA rfl rfl (by decide +kernel) (by decide +kernel) (by decide +kernel) 125 1863522 rfl rfl (fun hPc hDc hF => z_xrunH (As := [.ref qx, .int (xs 1), .int (xs 2), .int (xs 3), .ref qo]) (rest := []) ⟨hx, hb, hml, hown, hg⟩ (cL_rule_1 l hl9 K H.size qx qo (zc0 u v) (xs 1) (xs 2) (xs 3) (by rw [Int32.lt_iff_toInt_lt, show (0 : Int32).toInt = 0 from by decide]; omega)) kS_RL_156 hd_L_rule rfl rfl ⟨(Nat.le_of_ble_eq_true rfl), (Nat.le_of_ble_eq_true rfl)⟩ hK hS hZ hPc hDc hF rfl hl.1 rfl (Nat.le_of_ble_eq_true rfl) dL_law_1330 ⟨(Nat.le_of_ble_eq_true rfl), (Nat.le_of_ble_eq_true rfl)⟩) (fun r3 u1 H locs w2 hP hD hS => ?_)
  subst w2
  have hP : va_P K.1 classes [(qm, zO 10 83 (zc71 u v)), (qo, zJ K 1 (fun _ => 0))] H := hP
  have hD : va_D A [(qm, zO 10 83 (zc71 u v)), (qo, zJ K 1 (fun _ => 0))] := hD
  refine lv_istore (lv' := [(5, .int 1), (4, .int 0), (3, .ref qo), (2, .ref qm), (1, .ref qx), (0, .ref b)]) hx hb dL_law_1333 hl (by decide) rfl (fun ls hl => ?_)
  refine lv_aload_n hx hb dL_law_1335 rfl (lv_at hl 3 rfl) ?_
  refine lv_aload_n hx hb dL_law_1336 rfl (lv_at hl 5 rfl) ?_
  refine lv_iload hx hb dL_law_1337 (lv_at hl 1 rfl) ?_
  refine lv_iconst (v := 1) hx hb dL_law_1339 (by decide) ?_
  refine lv_iadd hx hb dL_law_1340 ?_
  refine z_cst (v := 1) (by decide +kernel) ?_
  refine z_sld (v := (xs 1)) (j := 1) hx hb hX hbl hbA hS rfl (Nat.le_of_ble_eq_true rfl) rfl dL_law_1341 ?_
  refine lv_aload_n hx hb dL_law_1342 rfl (lv_at hl 5 rfl) ?_
  refine lv_iload hx hb dL_law_1343 (lv_at hl 1 rfl) ?_
  refine lv_iconst (v := 2) hx hb dL_law_1345 (by decide) ?_
  refine lv_iadd hx hb dL_law_1346 ?_
  refine z_cst (v := 2) (by decide +kernel) ?_
  refine z_sld (v := (xs 2)) (j := 2) hx hb hX hbl hbA hS rfl (Nat.le_of_ble_eq_true rfl) rfl dL_law_1347 ?_
  refine lv_aload_n hx hb dL_law_1348 rfl (lv_at hl 5 rfl) ?_
  refine lv_iload hx hb dL_law_1349 (lv_at hl 1 rfl) ?_
  refine lv_iconst (v := 3) hx hb dL_law_1351 (by decide) ?_
  refine lv_iadd hx hb dL_law_1352 ?_
  refine z_cst (v := 3) (by decide +kernel) ?_
  refine z_sld (v := (xs 3)) (j := 3) hx hb hX hbl hbA hS rfl (Nat.le_of_ble_eq_true rfl) rfl dL_law_1353 ?_
  refine z_calli [(qm, zO 10 83 (zc71 u v))] [(qo, zJ K 1 (fun _ => 0))] [0] [1] hP hD hS hA rfl rfl (by decide +kernel) (by decide +kernel) (by decide +kernel) 125 1863522 rfl rfl (fun hPc hDc hF => z_runV (As := [.int (xs 1), .int (xs 2), .int (xs 3)]) (rest := []) ⟨hx, hb, hml, hown, hg⟩ (cX12_rule_1 l K H.size qm (zc71 u v) (xs 1) (xs 2) (xs 3) (by rw [Int32.lt_iff_toInt_lt, show (0 : Int32).toInt = 0 from by decide]; omega)) kV_RL_158 hd_X12_rule rfl rfl ⟨(Nat.le_of_ble_eq_true rfl), (Nat.le_of_ble_eq_true rfl)⟩ hK hS hZ hPc hDc hF 0 rfl rfl rfl hl.1 rfl (Nat.le_of_ble_eq_true rfl) dL_law_1354 ⟨(Nat.le_of_ble_eq_true rfl), (Nat.le_of_ble_eq_true rfl)⟩) (fun r6 u4 H locs w5 hP hD hS => ?_)
  subst w5
  have hP : va_P K.1 classes [(qo, zJ K 1 (fun _ => 0)), (qm, zO 10 83 (va_up (zc71 u v) 81 (.int 1)))] H := hP
  have hD : va_D A [(qo, zJ K 1 (fun _ => 0)), (qm, zO 10 83 (va_up (zc71 u v) 81 (.int 1)))] := hD
  refine lv_istore (lv' := [(6, .int 0), (5, .int 1), (4, .int 0), (3, .ref qo), (2, .ref qm), (1, .ref qx), (0, .ref b)]) hx hb dL_law_1357 hl (by decide) rfl (fun ls hl => ?_)
  refine lv_aload_n hx hb dL_law_1359 rfl (lv_at hl 4 rfl) ?_
  refine z_calli [(qm, zO 10 83 (va_up (zc71 u v) 81 (.int 1)))] [(qo, zJ K 1 (fun _ => 0))] [1] [0] hP hD hS hA rfl rfl (by decide +kernel) (by decide +kernel) (by decide +kernel) 125 1863522 rfl rfl (fun hPc hDc hF => z_runV (As := []) (rest := []) ⟨hx, hb, hml, hown, hg⟩ (cX12_thrown_2 l K H.size qm (va_up (zc71 u v) 81 (.int 1)) zu_eq) kV_RL_104 hd_X12_thrown rfl rfl ⟨(Nat.le_of_ble_eq_true rfl), (Nat.le_of_ble_eq_true rfl)⟩ hK hS hZ hPc hDc hF 0 rfl rfl rfl hl.1 rfl (Nat.le_of_ble_eq_true rfl) dL_law_1360 ⟨(Nat.le_of_ble_eq_true rfl), (Nat.le_of_ble_eq_true rfl)⟩) (fun r9 u7 H locs w8 hP hD hS => ?_)
  subst w8
  have hP : va_P K.1 classes [(qo, zJ K 1 (fun _ => 0)), (qm, zO 10 83 (va_up (zc71 u v) 81 (.int 1)))] H := hP
  have hD : va_D A [(qo, zJ K 1 (fun _ => 0)), (qm, zO 10 83 (va_up (zc71 u v) 81 (.int 1)))] := hD
  refine lv_iload hx hb dL_law_1363 (lv_at hl 1 rfl) ?_
  refine lv_icmp_eq (tgt := 1370) hx hb dL_law_1365 (by decide) (fun _ => ?_) (fun c => absurd (by decide) c)
  refine lv_iload hx hb dL_law_1370 (lv_at hl 1 rfl) ?_
  refine lv_if_ne (tgt := 1387) hx hb dL_law_1372 (by decide) (fun _ => ?_) (fun c => absurd c (by decide))
  refine lv_goto (tgt := 2026) hx hb dL_law_1387 (by decide) ?_
  exact law_back ⟨hx, hb, hr, hml, hown, hg, hX, hbl, hlocks, hK, hZ, hl9, hAA, hA, hbA⟩ (Nat.le_of_ble_eq_true rfl) (Nat.le_of_ble_eq_true rfl) hS (lv_sub hl [2, 6] rfl)
set_option maxHeartbeats 4000000 in
set_option maxRecDepth 100000 in
theorem lawS_16_1 {p : Program} {l : Launch} {e : Env} {s : State} {m : MethodId} {below : List Frame} {meth : Method} {c : Code} {b : Nat} {xs : Nat → Int32} {K : zK} {A : Nat → Prop} {H : Heap} {locs : List Loc} {ls : Array Slot} (C : zC p l s m meth c b xs K A) (qx qm qo : Nat) (u v : Nat → Nat) (h0 : 0 ≤ (xs 1).toInt) (h1 : (xs 1).toInt < 8) (h2 : (xs 2).toInt < 0) (hP : va_P K.1 classes (lwW K qx qm qo u v) H) (hD : va_D A (lwW K qx qm qo u v)) (hS : va_S A s.heap H locs) (hl : lv_has ls 7 [(4, .int 0), (3, .ref qo), (2, .ref qm), (1, .ref qx), (0, .ref b)]) : W p l e room_1 s m #[Value.ref b] below meth c H locs 124 1863516 (lw_Z below #[Value.ref b] s) (F0 m 1310 ls []) := by
  obtain ⟨hx, hb, hr, hml, hown, hg, hX, hbl, hlocks, hK, hZ, hl9, hAA, hA, hbA⟩ := C
  have hP : va_P K.1 classes [(qx, zO 9 9 (zc0 u v)), (qm, zO 10 83 (zc71 u v)), (qo, zJ K 1 (fun _ => 0))] H := hP.sub [0, 71, 123] rfl
  have hD : va_D A [(qx, zO 9 9 (zc0 u v)), (qm, zO 10 83 (zc71 u v)), (qo, zJ K 1 (fun _ => 0))] := hD.sub [0, 71, 123] (by decide +kernel) rfl
  obtain ⟨t1, ht1, v1⟩ : ∃ j : Nat, j < 8 ∧ xs 1 = nI j := z_nat (n := 8) (by omega) (by omega) (by decide)
  refine lv_aload_n hx hb dL_law_1310 rfl (lv_at hl 3 rfl) ?_
  refine lv_aload_n hx hb dL_law_1311 rfl (lv_at hl 4 rfl) ?_
  refine lv_iload hx hb dL_law_1312 (lv_at hl 0 rfl) ?_
  refine lv_iconst (v := 1) hx hb dL_law_1314 (by decide) ?_
  refine lv_iadd hx hb dL_law_1315 ?_
  refine z_cst (v := 1) (by decide +kernel) ?_
  refine z_sld (v := (nI t1)) (j := 1) hx hb hX hbl hbA hS rfl (Nat.le_of_ble_eq_true rfl) v1 dL_law_1316 ?_
  refine lv_aload_n hx hb dL_law_1317 rfl (lv_at hl 4 rfl) ?_
  refine lv_iload hx hb dL_law_1318 (lv_at hl 0 rfl) ?_
  refine lv_iconst (v := 2) hx hb dL_law_1320 (by decide) ?_
  refine lv_iadd hx hb dL_law_1321 ?_
  refine z_cst (v := 2) (by decide +kernel) ?_
  refine z_sld (v := (xs 2)) (j := 2) hx hb hX hbl hbA hS rfl (Nat.le_of_ble_eq_true rfl) rfl dL_law_1322 ?_
  refine lv_aload_n hx hb dL_law_1323 rfl (lv_at hl 4 rfl) ?_
  refine lv_iload hx hb dL_law_1324 (lv_at hl 0 rfl) ?_
  refine lv_iconst (v := 3) hx hb dL_law_1326 (by decide) ?_
  refine lv_iadd hx hb dL_law_1327 ?_
  refine z_cst (v := 3) (by decide +kernel) ?_
  refine z_sld (v := (xs 3)) (j := 3) hx hb hX hbl hbA hS rfl (Nat.le_of_ble_eq_true rfl) rfl dL_law_1328 ?_
  refine lv_aload_n hx hb dL_law_1329 rfl (lv_at hl 1 rfl) ?_
  refine z_hcalli [(qx, zO 9 9 (zc0 u v))] [(qm, zO 10 83 (zc71 u v)), (qo, zJ K 1 (fun _ => 0))] [0] [1, 2] hP hD hS hA rfl rfl (by decide +kernel) (by decide +kernel) (by decide +kernel) 125 1863522 rfl rfl (fun hPc hDc hF => z_xrunH (As := [.ref qx, .int (nI t1), .int (xs 2), .int (xs 3), .ref qo]) (rest := []) ⟨hx, hb, hml, hown, hg⟩ (cL_rule_2 l hl9 K H.size qx qo (zc0 u v) t1 ht1 (xs 2) (xs 3) (by rw [Int32.lt_iff_toInt_lt, show (0 : Int32).toInt = 0 from by decide]; omega)) kS_RL_156 hd_L_rule rfl rfl ⟨(Nat.le_of_ble_eq_true rfl), (Nat.le_of_ble_eq_true rfl)⟩ hK hS hZ hPc hDc hF rfl hl.1 rfl (Nat.le_of_ble_eq_true rfl) dL_law_1330 ⟨(Nat.le_of_ble_eq_true rfl), (Nat.le_of_ble_eq_true rfl)⟩) (fun r3 u1 H locs w2 hP hD hS => ?_)
  subst w2
  have hP : va_P K.1 classes [(qm, zO 10 83 (zc71 u v)), (qo, zJ K 1 (fun _ => 0))] H := hP
  have hD : va_D A [(qm, zO 10 83 (zc71 u v)), (qo, zJ K 1 (fun _ => 0))] := hD
  refine lv_istore (lv' := [(5, .int 1), (4, .int 0), (3, .ref qo), (2, .ref qm), (1, .ref qx), (0, .ref b)]) hx hb dL_law_1333 hl (by decide) rfl (fun ls hl => ?_)
  refine lv_aload_n hx hb dL_law_1335 rfl (lv_at hl 3 rfl) ?_
  refine lv_aload_n hx hb dL_law_1336 rfl (lv_at hl 5 rfl) ?_
  refine lv_iload hx hb dL_law_1337 (lv_at hl 1 rfl) ?_
  refine lv_iconst (v := 1) hx hb dL_law_1339 (by decide) ?_
  refine lv_iadd hx hb dL_law_1340 ?_
  refine z_cst (v := 1) (by decide +kernel) ?_
  refine z_sld (v := (nI t1)) (j := 1) hx hb hX hbl hbA hS rfl (Nat.le_of_ble_eq_true rfl) v1 dL_law_1341 ?_
  refine lv_aload_n hx hb dL_law_1342 rfl (lv_at hl 5 rfl) ?_
  refine lv_iload hx hb dL_law_1343 (lv_at hl 1 rfl) ?_
  refine lv_iconst (v := 2) hx hb dL_law_1345 (by decide) ?_
  refine lv_iadd hx hb dL_law_1346 ?_
  refine z_cst (v := 2) (by decide +kernel) ?_
  refine z_sld (v := (xs 2)) (j := 2) hx hb hX hbl hbA hS rfl (Nat.le_of_ble_eq_true rfl) rfl dL_law_1347 ?_
  refine lv_aload_n hx hb dL_law_1348 rfl (lv_at hl 5 rfl) ?_
  refine lv_iload hx hb dL_law_1349 (lv_at hl 1 rfl) ?_
  refine lv_iconst (v := 3) hx hb dL_law_1351 (by decide) ?_
  refine lv_iadd hx hb dL_law_1352 ?_
  refine z_cst (v := 3) (by decide +kernel) ?_
  refine z_sld (v := (xs 3)) (j := 3) hx hb hX hbl hbA hS rfl (Nat.le_of_ble_eq_true rfl) rfl dL_law_1353 ?_
  refine z_calli [(qm, zO 10 83 (zc71 u v))] [(qo, zJ K 1 (fun _ => 0))] [0] [1] hP hD hS hA rfl rfl (by decide +kernel) (by decide +kernel) (by decide +kernel) 125 1863522 rfl rfl (fun hPc hDc hF => z_runV (As := [.int (nI t1), .int (xs 2), .int (xs 3)]) (rest := []) ⟨hx, hb, hml, hown, hg⟩ (cX12_rule_2 l K H.size qm (zc71 u v) t1 ht1 (xs 2) (xs 3) (by rw [Int32.lt_iff_toInt_lt, show (0 : Int32).toInt = 0 from by decide]; omega)) kV_RL_158 hd_X12_rule rfl rfl ⟨(Nat.le_of_ble_eq_true rfl), (Nat.le_of_ble_eq_true rfl)⟩ hK hS hZ hPc hDc hF 0 rfl rfl rfl hl.1 rfl (Nat.le_of_ble_eq_true rfl) dL_law_1354 ⟨(Nat.le_of_ble_eq_true rfl), (Nat.le_of_ble_eq_true rfl)⟩) (fun r6 u4 H locs w5 hP hD hS => ?_)
  subst w5
  have hP : va_P K.1 classes [(qo, zJ K 1 (fun _ => 0)), (qm, zO 10 83 (va_up (zc71 u v) 81 (.int 1)))] H := hP
  have hD : va_D A [(qo, zJ K 1 (fun _ => 0)), (qm, zO 10 83 (va_up (zc71 u v) 81 (.int 1)))] := hD
  refine lv_istore (lv' := [(6, .int 0), (5, .int 1), (4, .int 0), (3, .ref qo), (2, .ref qm), (1, .ref qx), (0, .ref b)]) hx hb dL_law_1357 hl (by decide) rfl (fun ls hl => ?_)
  refine lv_aload_n hx hb dL_law_1359 rfl (lv_at hl 4 rfl) ?_
  refine z_calli [(qm, zO 10 83 (va_up (zc71 u v) 81 (.int 1)))] [(qo, zJ K 1 (fun _ => 0))] [1] [0] hP hD hS hA rfl rfl (by decide +kernel) (by decide +kernel) (by decide +kernel) 125 1863522 rfl rfl (fun hPc hDc hF => z_runV (As := []) (rest := []) ⟨hx, hb, hml, hown, hg⟩ (cX12_thrown_2 l K H.size qm (va_up (zc71 u v) 81 (.int 1)) zu_eq) kV_RL_104 hd_X12_thrown rfl rfl ⟨(Nat.le_of_ble_eq_true rfl), (Nat.le_of_ble_eq_true rfl)⟩ hK hS hZ hPc hDc hF 0 rfl rfl rfl hl.1 rfl (Nat.le_of_ble_eq_true rfl) dL_law_1360 ⟨(Nat.le_of_ble_eq_true rfl), (Nat.le_of_ble_eq_true rfl)⟩) (fun r9 u7 H locs w8 hP hD hS => ?_)
  subst w8
  have hP : va_P K.1 classes [(qo, zJ K 1 (fun _ => 0)), (qm, zO 10 83 (va_up (zc71 u v) 81 (.int 1)))] H := hP
  have hD : va_D A [(qo, zJ K 1 (fun _ => 0)), (qm, zO 10 83 (va_up (zc71 u v) 81 (.int 1)))] := hD
  refine lv_iload hx hb dL_law_1363 (lv_at hl 1 rfl) ?_
  refine lv_icmp_eq (tgt := 1370) hx hb dL_law_1365 (by decide) (fun _ => ?_) (fun c => absurd (by decide) c)
  refine lv_iload hx hb dL_law_1370 (lv_at hl 1 rfl) ?_
  refine lv_if_ne (tgt := 1387) hx hb dL_law_1372 (by decide) (fun _ => ?_) (fun c => absurd c (by decide))
  refine lv_goto (tgt := 2026) hx hb dL_law_1387 (by decide) ?_
  exact law_back ⟨hx, hb, hr, hml, hown, hg, hX, hbl, hlocks, hK, hZ, hl9, hAA, hA, hbA⟩ (Nat.le_of_ble_eq_true rfl) (Nat.le_of_ble_eq_true rfl) hS (lv_sub hl [2, 6] rfl)
set_option maxHeartbeats 4000000 in
set_option maxRecDepth 100000 in
theorem lawS_16_2 {p : Program} {l : Launch} {e : Env} {s : State} {m : MethodId} {below : List Frame} {meth : Method} {c : Code} {b : Nat} {xs : Nat → Int32} {K : zK} {A : Nat → Prop} {H : Heap} {locs : List Loc} {ls : Array Slot} (C : zC p l s m meth c b xs K A) (qx qm qo : Nat) (u v : Nat → Nat) (h0 : 0 ≤ (xs 1).toInt) (h1 : (xs 1).toInt < 8) (h2 : 0 ≤ (xs 2).toInt) (h3 : (xs 2).toInt < 8) (h4 : (xs 3).toInt < 0) (hP : va_P K.1 classes (lwW K qx qm qo u v) H) (hD : va_D A (lwW K qx qm qo u v)) (hS : va_S A s.heap H locs) (hl : lv_has ls 7 [(4, .int 0), (3, .ref qo), (2, .ref qm), (1, .ref qx), (0, .ref b)]) : W p l e room_1 s m #[Value.ref b] below meth c H locs 124 1863516 (lw_Z below #[Value.ref b] s) (F0 m 1310 ls []) := by
  obtain ⟨hx, hb, hr, hml, hown, hg, hX, hbl, hlocks, hK, hZ, hl9, hAA, hA, hbA⟩ := C
  have hP : va_P K.1 classes [(qx, zO 9 9 (zc0 u v)), (qm, zO 10 83 (zc71 u v)), (qo, zJ K 1 (fun _ => 0))] H := hP.sub [0, 71, 123] rfl
  have hD : va_D A [(qx, zO 9 9 (zc0 u v)), (qm, zO 10 83 (zc71 u v)), (qo, zJ K 1 (fun _ => 0))] := hD.sub [0, 71, 123] (by decide +kernel) rfl
  obtain ⟨t1, ht1, v1⟩ : ∃ j : Nat, j < 8 ∧ xs 1 = nI j := z_nat (n := 8) (by omega) (by omega) (by decide)
  obtain ⟨t2, ht2, v2⟩ : ∃ j : Nat, j < 8 ∧ xs 2 = nI j := z_nat (n := 8) (by omega) (by omega) (by decide)
  refine lv_aload_n hx hb dL_law_1310 rfl (lv_at hl 3 rfl) ?_
  refine lv_aload_n hx hb dL_law_1311 rfl (lv_at hl 4 rfl) ?_
  refine lv_iload hx hb dL_law_1312 (lv_at hl 0 rfl) ?_
  refine lv_iconst (v := 1) hx hb dL_law_1314 (by decide) ?_
  refine lv_iadd hx hb dL_law_1315 ?_
  refine z_cst (v := 1) (by decide +kernel) ?_
  refine z_sld (v := (nI t1)) (j := 1) hx hb hX hbl hbA hS rfl (Nat.le_of_ble_eq_true rfl) v1 dL_law_1316 ?_
  refine lv_aload_n hx hb dL_law_1317 rfl (lv_at hl 4 rfl) ?_
  refine lv_iload hx hb dL_law_1318 (lv_at hl 0 rfl) ?_
  refine lv_iconst (v := 2) hx hb dL_law_1320 (by decide) ?_
  refine lv_iadd hx hb dL_law_1321 ?_
  refine z_cst (v := 2) (by decide +kernel) ?_
  refine z_sld (v := (nI t2)) (j := 2) hx hb hX hbl hbA hS rfl (Nat.le_of_ble_eq_true rfl) v2 dL_law_1322 ?_
  refine lv_aload_n hx hb dL_law_1323 rfl (lv_at hl 4 rfl) ?_
  refine lv_iload hx hb dL_law_1324 (lv_at hl 0 rfl) ?_
  refine lv_iconst (v := 3) hx hb dL_law_1326 (by decide) ?_
  refine lv_iadd hx hb dL_law_1327 ?_
  refine z_cst (v := 3) (by decide +kernel) ?_
  refine z_sld (v := (xs 3)) (j := 3) hx hb hX hbl hbA hS rfl (Nat.le_of_ble_eq_true rfl) rfl dL_law_1328 ?_
  refine lv_aload_n hx hb dL_law_1329 rfl (lv_at hl 1 rfl) ?_
  refine z_hcalli [(qx, zO 9 9 (zc0 u v))] [(qm, zO 10 83 (zc71 u v)), (qo, zJ K 1 (fun _ => 0))] [0] [1, 2] hP hD hS hA rfl rfl (by decide +kernel) (by decide +kernel) (by decide +kernel) 125 1863522 rfl rfl (fun hPc hDc hF => z_xrunH (As := [.ref qx, .int (nI t1), .int (nI t2), .int (xs 3), .ref qo]) (rest := []) ⟨hx, hb, hml, hown, hg⟩ (cL_rule_3 l hl9 K H.size qx qo (zc0 u v) t1 ht1 t2 ht2 (xs 3) (by rw [Int32.lt_iff_toInt_lt, show (0 : Int32).toInt = 0 from by decide]; omega)) kS_RL_156 hd_L_rule rfl rfl ⟨(Nat.le_of_ble_eq_true rfl), (Nat.le_of_ble_eq_true rfl)⟩ hK hS hZ hPc hDc hF rfl hl.1 rfl (Nat.le_of_ble_eq_true rfl) dL_law_1330 ⟨(Nat.le_of_ble_eq_true rfl), (Nat.le_of_ble_eq_true rfl)⟩) (fun r3 u1 H locs w2 hP hD hS => ?_)
  subst w2
  have hP : va_P K.1 classes [(qm, zO 10 83 (zc71 u v)), (qo, zJ K 1 (fun _ => 0))] H := hP
  have hD : va_D A [(qm, zO 10 83 (zc71 u v)), (qo, zJ K 1 (fun _ => 0))] := hD
  refine lv_istore (lv' := [(5, .int 1), (4, .int 0), (3, .ref qo), (2, .ref qm), (1, .ref qx), (0, .ref b)]) hx hb dL_law_1333 hl (by decide) rfl (fun ls hl => ?_)
  refine lv_aload_n hx hb dL_law_1335 rfl (lv_at hl 3 rfl) ?_
  refine lv_aload_n hx hb dL_law_1336 rfl (lv_at hl 5 rfl) ?_
  refine lv_iload hx hb dL_law_1337 (lv_at hl 1 rfl) ?_
  refine lv_iconst (v := 1) hx hb dL_law_1339 (by decide) ?_
  refine lv_iadd hx hb dL_law_1340 ?_
  refine z_cst (v := 1) (by decide +kernel) ?_
  refine z_sld (v := (nI t1)) (j := 1) hx hb hX hbl hbA hS rfl (Nat.le_of_ble_eq_true rfl) v1 dL_law_1341 ?_
  refine lv_aload_n hx hb dL_law_1342 rfl (lv_at hl 5 rfl) ?_
  refine lv_iload hx hb dL_law_1343 (lv_at hl 1 rfl) ?_
  refine lv_iconst (v := 2) hx hb dL_law_1345 (by decide) ?_
  refine lv_iadd hx hb dL_law_1346 ?_
  refine z_cst (v := 2) (by decide +kernel) ?_
  refine z_sld (v := (nI t2)) (j := 2) hx hb hX hbl hbA hS rfl (Nat.le_of_ble_eq_true rfl) v2 dL_law_1347 ?_
  refine lv_aload_n hx hb dL_law_1348 rfl (lv_at hl 5 rfl) ?_
  refine lv_iload hx hb dL_law_1349 (lv_at hl 1 rfl) ?_
  refine lv_iconst (v := 3) hx hb dL_law_1351 (by decide) ?_
  refine lv_iadd hx hb dL_law_1352 ?_
  refine z_cst (v := 3) (by decide +kernel) ?_
  refine z_sld (v := (xs 3)) (j := 3) hx hb hX hbl hbA hS rfl (Nat.le_of_ble_eq_true rfl) rfl dL_law_1353 ?_
  refine z_calli [(qm, zO 10 83 (zc71 u v))] [(qo, zJ K 1 (fun _ => 0))] [0] [1] hP hD hS hA rfl rfl (by decide +kernel) (by decide +kernel) (by decide +kernel) 125 1863522 rfl rfl (fun hPc hDc hF => z_runV (As := [.int (nI t1), .int (nI t2), .int (xs 3)]) (rest := []) ⟨hx, hb, hml, hown, hg⟩ (cX12_rule_3 l K H.size qm (zc71 u v) t1 ht1 t2 ht2 (xs 3) (by rw [Int32.lt_iff_toInt_lt, show (0 : Int32).toInt = 0 from by decide]; omega)) kV_RL_158 hd_X12_rule rfl rfl ⟨(Nat.le_of_ble_eq_true rfl), (Nat.le_of_ble_eq_true rfl)⟩ hK hS hZ hPc hDc hF 0 rfl rfl rfl hl.1 rfl (Nat.le_of_ble_eq_true rfl) dL_law_1354 ⟨(Nat.le_of_ble_eq_true rfl), (Nat.le_of_ble_eq_true rfl)⟩) (fun r6 u4 H locs w5 hP hD hS => ?_)
  subst w5
  have hP : va_P K.1 classes [(qo, zJ K 1 (fun _ => 0)), (qm, zO 10 83 (va_up (zc71 u v) 81 (.int 1)))] H := hP
  have hD : va_D A [(qo, zJ K 1 (fun _ => 0)), (qm, zO 10 83 (va_up (zc71 u v) 81 (.int 1)))] := hD
  refine lv_istore (lv' := [(6, .int 0), (5, .int 1), (4, .int 0), (3, .ref qo), (2, .ref qm), (1, .ref qx), (0, .ref b)]) hx hb dL_law_1357 hl (by decide) rfl (fun ls hl => ?_)
  refine lv_aload_n hx hb dL_law_1359 rfl (lv_at hl 4 rfl) ?_
  refine z_calli [(qm, zO 10 83 (va_up (zc71 u v) 81 (.int 1)))] [(qo, zJ K 1 (fun _ => 0))] [1] [0] hP hD hS hA rfl rfl (by decide +kernel) (by decide +kernel) (by decide +kernel) 125 1863522 rfl rfl (fun hPc hDc hF => z_runV (As := []) (rest := []) ⟨hx, hb, hml, hown, hg⟩ (cX12_thrown_2 l K H.size qm (va_up (zc71 u v) 81 (.int 1)) zu_eq) kV_RL_104 hd_X12_thrown rfl rfl ⟨(Nat.le_of_ble_eq_true rfl), (Nat.le_of_ble_eq_true rfl)⟩ hK hS hZ hPc hDc hF 0 rfl rfl rfl hl.1 rfl (Nat.le_of_ble_eq_true rfl) dL_law_1360 ⟨(Nat.le_of_ble_eq_true rfl), (Nat.le_of_ble_eq_true rfl)⟩) (fun r9 u7 H locs w8 hP hD hS => ?_)
  subst w8
  have hP : va_P K.1 classes [(qo, zJ K 1 (fun _ => 0)), (qm, zO 10 83 (va_up (zc71 u v) 81 (.int 1)))] H := hP
  have hD : va_D A [(qo, zJ K 1 (fun _ => 0)), (qm, zO 10 83 (va_up (zc71 u v) 81 (.int 1)))] := hD
  refine lv_iload hx hb dL_law_1363 (lv_at hl 1 rfl) ?_
  refine lv_icmp_eq (tgt := 1370) hx hb dL_law_1365 (by decide) (fun _ => ?_) (fun c => absurd (by decide) c)
  refine lv_iload hx hb dL_law_1370 (lv_at hl 1 rfl) ?_
  refine lv_if_ne (tgt := 1387) hx hb dL_law_1372 (by decide) (fun _ => ?_) (fun c => absurd c (by decide))
  refine lv_goto (tgt := 2026) hx hb dL_law_1387 (by decide) ?_
  exact law_back ⟨hx, hb, hr, hml, hown, hg, hX, hbl, hlocks, hK, hZ, hl9, hAA, hA, hbA⟩ (Nat.le_of_ble_eq_true rfl) (Nat.le_of_ble_eq_true rfl) hS (lv_sub hl [2, 6] rfl)
set_option maxHeartbeats 4000000 in
set_option maxRecDepth 100000 in
theorem lawS_16_3 {p : Program} {l : Launch} {e : Env} {s : State} {m : MethodId} {below : List Frame} {meth : Method} {c : Code} {b : Nat} {xs : Nat → Int32} {K : zK} {A : Nat → Prop} {H : Heap} {locs : List Loc} {ls : Array Slot} (C : zC p l s m meth c b xs K A) (qx qm qo : Nat) (u v : Nat → Nat) (h0 : 0 ≤ (xs 1).toInt) (h1 : (xs 1).toInt < 8) (h2 : 0 ≤ (xs 2).toInt) (h3 : (xs 2).toInt < 8) (h4 : 0 ≤ (xs 3).toInt) (h5 : (xs 3).toInt < 8) (hP : va_P K.1 classes (lwW K qx qm qo u v) H) (hD : va_D A (lwW K qx qm qo u v)) (hS : va_S A s.heap H locs) (hl : lv_has ls 7 [(4, .int 0), (3, .ref qo), (2, .ref qm), (1, .ref qx), (0, .ref b)]) : W p l e room_1 s m #[Value.ref b] below meth c H locs 124 1863516 (lw_Z below #[Value.ref b] s) (F0 m 1310 ls []) := by
  obtain ⟨hx, hb, hr, hml, hown, hg, hX, hbl, hlocks, hK, hZ, hl9, hAA, hA, hbA⟩ := C
  have hP : va_P K.1 classes [(qx, zO 9 9 (zc0 u v)), ((u 43), zO 5 9 (zc44 u v)), ((u 56), zI K 8 (fun _ => 0)), ((u 57), zI K 8 (fun _ => 0)), ((u 58), zI K 8 (fun _ => 0)), (qm, zO 10 83 (zc71 u v)), ((v 14), zI K 24 (fun _ => 0)), (qo, zJ K 1 (fun _ => 0))] H := hP.sub [0, 44, 57, 58, 59, 71, 86, 123] rfl
  have hD : va_D A [(qx, zO 9 9 (zc0 u v)), ((u 43), zO 5 9 (zc44 u v)), ((u 56), zI K 8 (fun _ => 0)), ((u 57), zI K 8 (fun _ => 0)), ((u 58), zI K 8 (fun _ => 0)), (qm, zO 10 83 (zc71 u v)), ((v 14), zI K 24 (fun _ => 0)), (qo, zJ K 1 (fun _ => 0))] := hD.sub [0, 44, 57, 58, 59, 71, 86, 123] (by decide +kernel) rfl
  obtain ⟨t1, ht1, v1⟩ : ∃ j : Nat, j < 8 ∧ xs 1 = nI j := z_nat (n := 8) (by omega) (by omega) (by decide)
  obtain ⟨t2, ht2, v2⟩ : ∃ j : Nat, j < 8 ∧ xs 2 = nI j := z_nat (n := 8) (by omega) (by omega) (by decide)
  obtain ⟨t3, ht3, v3⟩ : ∃ j : Nat, j < 8 ∧ xs 3 = nI j := z_nat (n := 8) (by omega) (by omega) (by decide)
  refine lv_aload_n hx hb dL_law_1310 rfl (lv_at hl 3 rfl) ?_
  refine lv_aload_n hx hb dL_law_1311 rfl (lv_at hl 4 rfl) ?_
  refine lv_iload hx hb dL_law_1312 (lv_at hl 0 rfl) ?_
  refine lv_iconst (v := 1) hx hb dL_law_1314 (by decide) ?_
  refine lv_iadd hx hb dL_law_1315 ?_
  refine z_cst (v := 1) (by decide +kernel) ?_
  refine z_sld (v := (nI t1)) (j := 1) hx hb hX hbl hbA hS rfl (Nat.le_of_ble_eq_true rfl) v1 dL_law_1316 ?_
  refine lv_aload_n hx hb dL_law_1317 rfl (lv_at hl 4 rfl) ?_
  refine lv_iload hx hb dL_law_1318 (lv_at hl 0 rfl) ?_
  refine lv_iconst (v := 2) hx hb dL_law_1320 (by decide) ?_
  refine lv_iadd hx hb dL_law_1321 ?_
  refine z_cst (v := 2) (by decide +kernel) ?_
  refine z_sld (v := (nI t2)) (j := 2) hx hb hX hbl hbA hS rfl (Nat.le_of_ble_eq_true rfl) v2 dL_law_1322 ?_
  refine lv_aload_n hx hb dL_law_1323 rfl (lv_at hl 4 rfl) ?_
  refine lv_iload hx hb dL_law_1324 (lv_at hl 0 rfl) ?_
  refine lv_iconst (v := 3) hx hb dL_law_1326 (by decide) ?_
  refine lv_iadd hx hb dL_law_1327 ?_
  refine z_cst (v := 3) (by decide +kernel) ?_
  refine z_sld (v := (nI t3)) (j := 3) hx hb hX hbl hbA hS rfl (Nat.le_of_ble_eq_true rfl) v3 dL_law_1328 ?_
  refine lv_aload_n hx hb dL_law_1329 rfl (lv_at hl 1 rfl) ?_
  refine z_hcalli [(qx, zO 9 9 (zc0 u v)), ((u 43), zO 5 9 (zc44 u v)), ((u 56), zI K 8 (fun _ => 0)), ((u 57), zI K 8 (fun _ => 0)), ((u 58), zI K 8 (fun _ => 0)), (qo, zJ K 1 (fun _ => 0))] [(qm, zO 10 83 (zc71 u v)), ((v 14), zI K 24 (fun _ => 0))] [0, 1, 2, 3, 4, 7] [5, 6] hP hD hS hA rfl rfl (by decide +kernel) (by decide +kernel) (by decide +kernel) 124 1863516 rfl rfl (fun hPc hDc hF => z_xrunH (As := [.ref qx, .int (nI t1), .int (nI t2), .int (nI t3), .ref qo]) (rest := []) ⟨hx, hb, hml, hown, hg⟩ (cL_rule_4 l hl9 K H.size qx qo (u 43) (u 56) (u 57) (u 58) (zc0 u v) (zc44 u v) (fun _ => 0) (fun _ => 0) (fun _ => 0) (fun _ => 0) t1 ht1 t2 ht2 t3 ht3 (zc0_6 u v) (zc44_8 u v) (zc44_5 u v) (zc44_6 u v) (zc44_7 u v)) kS_RL_156 hd_L_rule rfl rfl ⟨(Nat.le_of_ble_eq_true rfl), (Nat.le_of_ble_eq_true rfl)⟩ hK hS hZ hPc hDc hF rfl hl.1 rfl (Nat.le_of_ble_eq_true rfl) dL_law_1330 ⟨(Nat.le_of_ble_eq_true rfl), (Nat.le_of_ble_eq_true rfl)⟩) (fun r3 u1 H locs w2 hP hD hS => ?_)
  subst w2
  have hP : va_P K.1 classes [(qm, zO 10 83 (zc71 u v)), ((v 14), zI K 24 (fun _ => 0)), (qo, zJ K 1 (va_up (fun _ => 0) 0 1))] H := hP
  have hD : va_D A [(qm, zO 10 83 (zc71 u v)), ((v 14), zI K 24 (fun _ => 0)), (qo, zJ K 1 (va_up (fun _ => 0) 0 1))] := hD
  refine lv_istore (lv' := [(5, .int 0), (4, .int 0), (3, .ref qo), (2, .ref qm), (1, .ref qx), (0, .ref b)]) hx hb dL_law_1333 hl (by decide) rfl (fun ls hl => ?_)
  refine lv_aload_n hx hb dL_law_1335 rfl (lv_at hl 3 rfl) ?_
  refine lv_aload_n hx hb dL_law_1336 rfl (lv_at hl 5 rfl) ?_
  refine lv_iload hx hb dL_law_1337 (lv_at hl 1 rfl) ?_
  refine lv_iconst (v := 1) hx hb dL_law_1339 (by decide) ?_
  refine lv_iadd hx hb dL_law_1340 ?_
  refine z_cst (v := 1) (by decide +kernel) ?_
  refine z_sld (v := (nI t1)) (j := 1) hx hb hX hbl hbA hS rfl (Nat.le_of_ble_eq_true rfl) v1 dL_law_1341 ?_
  refine lv_aload_n hx hb dL_law_1342 rfl (lv_at hl 5 rfl) ?_
  refine lv_iload hx hb dL_law_1343 (lv_at hl 1 rfl) ?_
  refine lv_iconst (v := 2) hx hb dL_law_1345 (by decide) ?_
  refine lv_iadd hx hb dL_law_1346 ?_
  refine z_cst (v := 2) (by decide +kernel) ?_
  refine z_sld (v := (nI t2)) (j := 2) hx hb hX hbl hbA hS rfl (Nat.le_of_ble_eq_true rfl) v2 dL_law_1347 ?_
  refine lv_aload_n hx hb dL_law_1348 rfl (lv_at hl 5 rfl) ?_
  refine lv_iload hx hb dL_law_1349 (lv_at hl 1 rfl) ?_
  refine lv_iconst (v := 3) hx hb dL_law_1351 (by decide) ?_
  refine lv_iadd hx hb dL_law_1352 ?_
  refine z_cst (v := 3) (by decide +kernel) ?_
  refine z_sld (v := (nI t3)) (j := 3) hx hb hX hbl hbA hS rfl (Nat.le_of_ble_eq_true rfl) v3 dL_law_1353 ?_
  refine z_calli [(qm, zO 10 83 (zc71 u v)), ((v 14), zI K 24 (fun _ => 0))] [(qo, zJ K 1 (va_up (fun _ => 0) 0 1))] [0, 1] [2] hP hD hS hA rfl rfl (by decide +kernel) (by decide +kernel) (by decide +kernel) 124 1863516 rfl rfl (fun hPc hDc hF => z_runV (As := [.int (nI t1), .int (nI t2), .int (nI t3)]) (rest := []) ⟨hx, hb, hml, hown, hg⟩ (cX12_rule_4 l K H.size qm (v 14) (zc71 u v) (fun _ => 0) t1 ht1 t2 ht2 t3 ht3 (zc71_16 u v) (zc71_17 u v)) kV_RL_158 hd_X12_rule rfl rfl ⟨(Nat.le_of_ble_eq_true rfl), (Nat.le_of_ble_eq_true rfl)⟩ hK hS hZ hPc hDc hF 0 rfl rfl rfl hl.1 rfl (Nat.le_of_ble_eq_true rfl) dL_law_1354 ⟨(Nat.le_of_ble_eq_true rfl), (Nat.le_of_ble_eq_true rfl)⟩) (fun r6 u4 H locs w5 hP hD hS => ?_)
  subst w5
  have hP : va_P K.1 classes [(qo, zJ K 1 (va_up (fun _ => 0) 0 1)), (qm, zO 10 83 (va_up (va_up (zc71 u v) 81 (.int 0)) 16 (.int 1)))] H := hP
  have hD : va_D A [(qo, zJ K 1 (va_up (fun _ => 0) 0 1)), (qm, zO 10 83 (va_up (va_up (zc71 u v) 81 (.int 0)) 16 (.int 1)))] := hD
  refine lv_istore (lv' := [(6, .int 1), (5, .int 0), (4, .int 0), (3, .ref qo), (2, .ref qm), (1, .ref qx), (0, .ref b)]) hx hb dL_law_1357 hl (by decide) rfl (fun ls hl => ?_)
  refine lv_aload_n hx hb dL_law_1359 rfl (lv_at hl 4 rfl) ?_
  refine z_calli [(qm, zO 10 83 (va_up (va_up (zc71 u v) 81 (.int 0)) 16 (.int 1)))] [(qo, zJ K 1 (va_up (fun _ => 0) 0 1))] [1] [0] hP hD hS hA rfl rfl (by decide +kernel) (by decide +kernel) (by decide +kernel) 124 1863516 rfl rfl (fun hPc hDc hF => z_runV (As := []) (rest := []) ⟨hx, hb, hml, hown, hg⟩ (cX12_thrown_1 l K H.size qm (va_up (va_up (zc71 u v) 81 (.int 0)) 16 (.int 1)) (zu_ne (by decide) zu_eq)) kV_RL_104 hd_X12_thrown rfl rfl ⟨(Nat.le_of_ble_eq_true rfl), (Nat.le_of_ble_eq_true rfl)⟩ hK hS hZ hPc hDc hF 0 rfl rfl rfl hl.1 rfl (Nat.le_of_ble_eq_true rfl) dL_law_1360 ⟨(Nat.le_of_ble_eq_true rfl), (Nat.le_of_ble_eq_true rfl)⟩) (fun r9 u7 H locs w8 hP hD hS => ?_)
  subst w8
  have hP : va_P K.1 classes [(qo, zJ K 1 (va_up (fun _ => 0) 0 1)), (qm, zO 10 83 (va_up (va_up (zc71 u v) 81 (.int 0)) 16 (.int 1)))] H := hP
  have hD : va_D A [(qo, zJ K 1 (va_up (fun _ => 0) 0 1)), (qm, zO 10 83 (va_up (va_up (zc71 u v) 81 (.int 0)) 16 (.int 1)))] := hD
  refine lv_iload hx hb dL_law_1363 (lv_at hl 1 rfl) ?_
  refine lv_icmp_eq (tgt := 1370) hx hb dL_law_1365 (by decide) (fun _ => ?_) (fun c => absurd (by decide) c)
  refine lv_iload hx hb dL_law_1370 (lv_at hl 1 rfl) ?_
  refine lv_if_ne (tgt := 1387) hx hb dL_law_1372 (by decide) (fun c => absurd (by decide) c) (fun _ => ?_)
  refine lv_aload_n hx hb dL_law_1375 rfl (lv_at hl 3 rfl) ?_
  refine lv_iconst (v := 0) hx hb dL_law_1376 (by decide) ?_
  refine z_lald (v := 1) (j := 0) hx hb hK hP 0 rfl rfl (Nat.le_of_ble_eq_true rfl) (Nat.le_of_ble_eq_true rfl) zu_eq dL_law_1377 ?_
  refine lv_iload hx hb dL_law_1378 (lv_at hl 0 rfl) ?_
  refine lv_i2l hx hb dL_law_1380 rfl ?_
  refine z_cstl (v := 1) (by decide +kernel) ?_
  refine W.lcmp hx hb dL_law_1381 ?_
  refine z_cst (v := 0) (by decide +kernel) ?_
  refine lv_if_eq (tgt := 1387) hx hb dL_law_1382 (by decide) (fun _ => ?_) (fun c => absurd (by decide) c)
  refine lv_goto (tgt := 2026) hx hb dL_law_1387 (by decide) ?_
  exact law_back ⟨hx, hb, hr, hml, hown, hg, hX, hbl, hlocks, hK, hZ, hl9, hAA, hA, hbA⟩ (Nat.le_of_ble_eq_true rfl) (Nat.le_of_ble_eq_true rfl) hS (lv_sub hl [2, 6] rfl)
set_option maxHeartbeats 4000000 in
set_option maxRecDepth 100000 in
theorem lawS_16_4 {p : Program} {l : Launch} {e : Env} {s : State} {m : MethodId} {below : List Frame} {meth : Method} {c : Code} {b : Nat} {xs : Nat → Int32} {K : zK} {A : Nat → Prop} {H : Heap} {locs : List Loc} {ls : Array Slot} (C : zC p l s m meth c b xs K A) (qx qm qo : Nat) (u v : Nat → Nat) (h0 : 0 ≤ (xs 1).toInt) (h1 : (xs 1).toInt < 8) (h2 : 0 ≤ (xs 2).toInt) (h3 : (xs 2).toInt < 8) (h4 : 0 ≤ (xs 3).toInt) (h5 : 8 ≤ (xs 3).toInt) (hP : va_P K.1 classes (lwW K qx qm qo u v) H) (hD : va_D A (lwW K qx qm qo u v)) (hS : va_S A s.heap H locs) (hl : lv_has ls 7 [(4, .int 0), (3, .ref qo), (2, .ref qm), (1, .ref qx), (0, .ref b)]) : W p l e room_1 s m #[Value.ref b] below meth c H locs 124 1863516 (lw_Z below #[Value.ref b] s) (F0 m 1310 ls []) := by
  obtain ⟨hx, hb, hr, hml, hown, hg, hX, hbl, hlocks, hK, hZ, hl9, hAA, hA, hbA⟩ := C
  have hP : va_P K.1 classes [(qx, zO 9 9 (zc0 u v)), (qm, zO 10 83 (zc71 u v)), (qo, zJ K 1 (fun _ => 0))] H := hP.sub [0, 71, 123] rfl
  have hD : va_D A [(qx, zO 9 9 (zc0 u v)), (qm, zO 10 83 (zc71 u v)), (qo, zJ K 1 (fun _ => 0))] := hD.sub [0, 71, 123] (by decide +kernel) rfl
  obtain ⟨t1, ht1, v1⟩ : ∃ j : Nat, j < 8 ∧ xs 1 = nI j := z_nat (n := 8) (by omega) (by omega) (by decide)
  obtain ⟨t2, ht2, v2⟩ : ∃ j : Nat, j < 8 ∧ xs 2 = nI j := z_nat (n := 8) (by omega) (by omega) (by decide)
  refine lv_aload_n hx hb dL_law_1310 rfl (lv_at hl 3 rfl) ?_
  refine lv_aload_n hx hb dL_law_1311 rfl (lv_at hl 4 rfl) ?_
  refine lv_iload hx hb dL_law_1312 (lv_at hl 0 rfl) ?_
  refine lv_iconst (v := 1) hx hb dL_law_1314 (by decide) ?_
  refine lv_iadd hx hb dL_law_1315 ?_
  refine z_cst (v := 1) (by decide +kernel) ?_
  refine z_sld (v := (nI t1)) (j := 1) hx hb hX hbl hbA hS rfl (Nat.le_of_ble_eq_true rfl) v1 dL_law_1316 ?_
  refine lv_aload_n hx hb dL_law_1317 rfl (lv_at hl 4 rfl) ?_
  refine lv_iload hx hb dL_law_1318 (lv_at hl 0 rfl) ?_
  refine lv_iconst (v := 2) hx hb dL_law_1320 (by decide) ?_
  refine lv_iadd hx hb dL_law_1321 ?_
  refine z_cst (v := 2) (by decide +kernel) ?_
  refine z_sld (v := (nI t2)) (j := 2) hx hb hX hbl hbA hS rfl (Nat.le_of_ble_eq_true rfl) v2 dL_law_1322 ?_
  refine lv_aload_n hx hb dL_law_1323 rfl (lv_at hl 4 rfl) ?_
  refine lv_iload hx hb dL_law_1324 (lv_at hl 0 rfl) ?_
  refine lv_iconst (v := 3) hx hb dL_law_1326 (by decide) ?_
  refine lv_iadd hx hb dL_law_1327 ?_
  refine z_cst (v := 3) (by decide +kernel) ?_
  refine z_sld (v := (xs 3)) (j := 3) hx hb hX hbl hbA hS rfl (Nat.le_of_ble_eq_true rfl) rfl dL_law_1328 ?_
  refine lv_aload_n hx hb dL_law_1329 rfl (lv_at hl 1 rfl) ?_
  refine z_hcalli [(qx, zO 9 9 (zc0 u v))] [(qm, zO 10 83 (zc71 u v)), (qo, zJ K 1 (fun _ => 0))] [0] [1, 2] hP hD hS hA rfl rfl (by decide +kernel) (by decide +kernel) (by decide +kernel) 125 1863522 rfl rfl (fun hPc hDc hF => z_xrunH (As := [.ref qx, .int (nI t1), .int (nI t2), .int (xs 3), .ref qo]) (rest := []) ⟨hx, hb, hml, hown, hg⟩ (cL_rule_5 l hl9 K H.size qx qo (zc0 u v) t1 ht1 t2 ht2 (xs 3) (by rw [Int32.lt_iff_toInt_lt, show (0 : Int32).toInt = 0 from by decide]; omega) (by rw [Int32.lt_iff_toInt_lt, show (8 : Int32).toInt = 8 from by decide]; omega)) kS_RL_156 hd_L_rule rfl rfl ⟨(Nat.le_of_ble_eq_true rfl), (Nat.le_of_ble_eq_true rfl)⟩ hK hS hZ hPc hDc hF rfl hl.1 rfl (Nat.le_of_ble_eq_true rfl) dL_law_1330 ⟨(Nat.le_of_ble_eq_true rfl), (Nat.le_of_ble_eq_true rfl)⟩) (fun r3 u1 H locs w2 hP hD hS => ?_)
  subst w2
  have hP : va_P K.1 classes [(qm, zO 10 83 (zc71 u v)), (qo, zJ K 1 (fun _ => 0))] H := hP
  have hD : va_D A [(qm, zO 10 83 (zc71 u v)), (qo, zJ K 1 (fun _ => 0))] := hD
  refine lv_istore (lv' := [(5, .int 1), (4, .int 0), (3, .ref qo), (2, .ref qm), (1, .ref qx), (0, .ref b)]) hx hb dL_law_1333 hl (by decide) rfl (fun ls hl => ?_)
  refine lv_aload_n hx hb dL_law_1335 rfl (lv_at hl 3 rfl) ?_
  refine lv_aload_n hx hb dL_law_1336 rfl (lv_at hl 5 rfl) ?_
  refine lv_iload hx hb dL_law_1337 (lv_at hl 1 rfl) ?_
  refine lv_iconst (v := 1) hx hb dL_law_1339 (by decide) ?_
  refine lv_iadd hx hb dL_law_1340 ?_
  refine z_cst (v := 1) (by decide +kernel) ?_
  refine z_sld (v := (nI t1)) (j := 1) hx hb hX hbl hbA hS rfl (Nat.le_of_ble_eq_true rfl) v1 dL_law_1341 ?_
  refine lv_aload_n hx hb dL_law_1342 rfl (lv_at hl 5 rfl) ?_
  refine lv_iload hx hb dL_law_1343 (lv_at hl 1 rfl) ?_
  refine lv_iconst (v := 2) hx hb dL_law_1345 (by decide) ?_
  refine lv_iadd hx hb dL_law_1346 ?_
  refine z_cst (v := 2) (by decide +kernel) ?_
  refine z_sld (v := (nI t2)) (j := 2) hx hb hX hbl hbA hS rfl (Nat.le_of_ble_eq_true rfl) v2 dL_law_1347 ?_
  refine lv_aload_n hx hb dL_law_1348 rfl (lv_at hl 5 rfl) ?_
  refine lv_iload hx hb dL_law_1349 (lv_at hl 1 rfl) ?_
  refine lv_iconst (v := 3) hx hb dL_law_1351 (by decide) ?_
  refine lv_iadd hx hb dL_law_1352 ?_
  refine z_cst (v := 3) (by decide +kernel) ?_
  refine z_sld (v := (xs 3)) (j := 3) hx hb hX hbl hbA hS rfl (Nat.le_of_ble_eq_true rfl) rfl dL_law_1353 ?_
  refine z_calli [(qm, zO 10 83 (zc71 u v))] [(qo, zJ K 1 (fun _ => 0))] [0] [1] hP hD hS hA rfl rfl (by decide +kernel) (by decide +kernel) (by decide +kernel) 125 1863522 rfl rfl (fun hPc hDc hF => z_runV (As := [.int (nI t1), .int (nI t2), .int (xs 3)]) (rest := []) ⟨hx, hb, hml, hown, hg⟩ (cX12_rule_5 l K H.size qm (zc71 u v) t1 ht1 t2 ht2 (xs 3) (by rw [Int32.lt_iff_toInt_lt, show (0 : Int32).toInt = 0 from by decide]; omega) (by rw [Int32.lt_iff_toInt_lt, show (7 : Int32).toInt = 7 from by decide]; omega)) kV_RL_158 hd_X12_rule rfl rfl ⟨(Nat.le_of_ble_eq_true rfl), (Nat.le_of_ble_eq_true rfl)⟩ hK hS hZ hPc hDc hF 0 rfl rfl rfl hl.1 rfl (Nat.le_of_ble_eq_true rfl) dL_law_1354 ⟨(Nat.le_of_ble_eq_true rfl), (Nat.le_of_ble_eq_true rfl)⟩) (fun r6 u4 H locs w5 hP hD hS => ?_)
  subst w5
  have hP : va_P K.1 classes [(qo, zJ K 1 (fun _ => 0)), (qm, zO 10 83 (va_up (zc71 u v) 81 (.int 1)))] H := hP
  have hD : va_D A [(qo, zJ K 1 (fun _ => 0)), (qm, zO 10 83 (va_up (zc71 u v) 81 (.int 1)))] := hD
  refine lv_istore (lv' := [(6, .int 0), (5, .int 1), (4, .int 0), (3, .ref qo), (2, .ref qm), (1, .ref qx), (0, .ref b)]) hx hb dL_law_1357 hl (by decide) rfl (fun ls hl => ?_)
  refine lv_aload_n hx hb dL_law_1359 rfl (lv_at hl 4 rfl) ?_
  refine z_calli [(qm, zO 10 83 (va_up (zc71 u v) 81 (.int 1)))] [(qo, zJ K 1 (fun _ => 0))] [1] [0] hP hD hS hA rfl rfl (by decide +kernel) (by decide +kernel) (by decide +kernel) 125 1863522 rfl rfl (fun hPc hDc hF => z_runV (As := []) (rest := []) ⟨hx, hb, hml, hown, hg⟩ (cX12_thrown_2 l K H.size qm (va_up (zc71 u v) 81 (.int 1)) zu_eq) kV_RL_104 hd_X12_thrown rfl rfl ⟨(Nat.le_of_ble_eq_true rfl), (Nat.le_of_ble_eq_true rfl)⟩ hK hS hZ hPc hDc hF 0 rfl rfl rfl hl.1 rfl (Nat.le_of_ble_eq_true rfl) dL_law_1360 ⟨(Nat.le_of_ble_eq_true rfl), (Nat.le_of_ble_eq_true rfl)⟩) (fun r9 u7 H locs w8 hP hD hS => ?_)
  subst w8
  have hP : va_P K.1 classes [(qo, zJ K 1 (fun _ => 0)), (qm, zO 10 83 (va_up (zc71 u v) 81 (.int 1)))] H := hP
  have hD : va_D A [(qo, zJ K 1 (fun _ => 0)), (qm, zO 10 83 (va_up (zc71 u v) 81 (.int 1)))] := hD
  refine lv_iload hx hb dL_law_1363 (lv_at hl 1 rfl) ?_
  refine lv_icmp_eq (tgt := 1370) hx hb dL_law_1365 (by decide) (fun _ => ?_) (fun c => absurd (by decide) c)
  refine lv_iload hx hb dL_law_1370 (lv_at hl 1 rfl) ?_
  refine lv_if_ne (tgt := 1387) hx hb dL_law_1372 (by decide) (fun _ => ?_) (fun c => absurd c (by decide))
  refine lv_goto (tgt := 2026) hx hb dL_law_1387 (by decide) ?_
  exact law_back ⟨hx, hb, hr, hml, hown, hg, hX, hbl, hlocks, hK, hZ, hl9, hAA, hA, hbA⟩ (Nat.le_of_ble_eq_true rfl) (Nat.le_of_ble_eq_true rfl) hS (lv_sub hl [2, 6] rfl)
set_option maxHeartbeats 4000000 in
set_option maxRecDepth 100000 in
theorem lawS_16_5 {p : Program} {l : Launch} {e : Env} {s : State} {m : MethodId} {below : List Frame} {meth : Method} {c : Code} {b : Nat} {xs : Nat → Int32} {K : zK} {A : Nat → Prop} {H : Heap} {locs : List Loc} {ls : Array Slot} (C : zC p l s m meth c b xs K A) (qx qm qo : Nat) (u v : Nat → Nat) (h0 : 0 ≤ (xs 1).toInt) (h1 : (xs 1).toInt < 8) (h2 : 0 ≤ (xs 2).toInt) (h3 : 8 ≤ (xs 2).toInt) (hP : va_P K.1 classes (lwW K qx qm qo u v) H) (hD : va_D A (lwW K qx qm qo u v)) (hS : va_S A s.heap H locs) (hl : lv_has ls 7 [(4, .int 0), (3, .ref qo), (2, .ref qm), (1, .ref qx), (0, .ref b)]) : W p l e room_1 s m #[Value.ref b] below meth c H locs 124 1863516 (lw_Z below #[Value.ref b] s) (F0 m 1310 ls []) := by
  obtain ⟨hx, hb, hr, hml, hown, hg, hX, hbl, hlocks, hK, hZ, hl9, hAA, hA, hbA⟩ := C
  have hP : va_P K.1 classes [(qx, zO 9 9 (zc0 u v)), (qm, zO 10 83 (zc71 u v)), (qo, zJ K 1 (fun _ => 0))] H := hP.sub [0, 71, 123] rfl
  have hD : va_D A [(qx, zO 9 9 (zc0 u v)), (qm, zO 10 83 (zc71 u v)), (qo, zJ K 1 (fun _ => 0))] := hD.sub [0, 71, 123] (by decide +kernel) rfl
  obtain ⟨t1, ht1, v1⟩ : ∃ j : Nat, j < 8 ∧ xs 1 = nI j := z_nat (n := 8) (by omega) (by omega) (by decide)
  refine lv_aload_n hx hb dL_law_1310 rfl (lv_at hl 3 rfl) ?_
  refine lv_aload_n hx hb dL_law_1311 rfl (lv_at hl 4 rfl) ?_
  refine lv_iload hx hb dL_law_1312 (lv_at hl 0 rfl) ?_
  refine lv_iconst (v := 1) hx hb dL_law_1314 (by decide) ?_
  refine lv_iadd hx hb dL_law_1315 ?_
  refine z_cst (v := 1) (by decide +kernel) ?_
  refine z_sld (v := (nI t1)) (j := 1) hx hb hX hbl hbA hS rfl (Nat.le_of_ble_eq_true rfl) v1 dL_law_1316 ?_
  refine lv_aload_n hx hb dL_law_1317 rfl (lv_at hl 4 rfl) ?_
  refine lv_iload hx hb dL_law_1318 (lv_at hl 0 rfl) ?_
  refine lv_iconst (v := 2) hx hb dL_law_1320 (by decide) ?_
  refine lv_iadd hx hb dL_law_1321 ?_
  refine z_cst (v := 2) (by decide +kernel) ?_
  refine z_sld (v := (xs 2)) (j := 2) hx hb hX hbl hbA hS rfl (Nat.le_of_ble_eq_true rfl) rfl dL_law_1322 ?_
  refine lv_aload_n hx hb dL_law_1323 rfl (lv_at hl 4 rfl) ?_
  refine lv_iload hx hb dL_law_1324 (lv_at hl 0 rfl) ?_
  refine lv_iconst (v := 3) hx hb dL_law_1326 (by decide) ?_
  refine lv_iadd hx hb dL_law_1327 ?_
  refine z_cst (v := 3) (by decide +kernel) ?_
  refine z_sld (v := (xs 3)) (j := 3) hx hb hX hbl hbA hS rfl (Nat.le_of_ble_eq_true rfl) rfl dL_law_1328 ?_
  refine lv_aload_n hx hb dL_law_1329 rfl (lv_at hl 1 rfl) ?_
  refine z_hcalli [(qx, zO 9 9 (zc0 u v))] [(qm, zO 10 83 (zc71 u v)), (qo, zJ K 1 (fun _ => 0))] [0] [1, 2] hP hD hS hA rfl rfl (by decide +kernel) (by decide +kernel) (by decide +kernel) 125 1863522 rfl rfl (fun hPc hDc hF => z_xrunH (As := [.ref qx, .int (nI t1), .int (xs 2), .int (xs 3), .ref qo]) (rest := []) ⟨hx, hb, hml, hown, hg⟩ (cL_rule_6 l hl9 K H.size qx qo (zc0 u v) t1 ht1 (xs 2) (xs 3) (by rw [Int32.lt_iff_toInt_lt, show (0 : Int32).toInt = 0 from by decide]; omega) (by rw [Int32.lt_iff_toInt_lt, show (8 : Int32).toInt = 8 from by decide]; omega)) kS_RL_156 hd_L_rule rfl rfl ⟨(Nat.le_of_ble_eq_true rfl), (Nat.le_of_ble_eq_true rfl)⟩ hK hS hZ hPc hDc hF rfl hl.1 rfl (Nat.le_of_ble_eq_true rfl) dL_law_1330 ⟨(Nat.le_of_ble_eq_true rfl), (Nat.le_of_ble_eq_true rfl)⟩) (fun r3 u1 H locs w2 hP hD hS => ?_)
  subst w2
  have hP : va_P K.1 classes [(qm, zO 10 83 (zc71 u v)), (qo, zJ K 1 (fun _ => 0))] H := hP
  have hD : va_D A [(qm, zO 10 83 (zc71 u v)), (qo, zJ K 1 (fun _ => 0))] := hD
  refine lv_istore (lv' := [(5, .int 1), (4, .int 0), (3, .ref qo), (2, .ref qm), (1, .ref qx), (0, .ref b)]) hx hb dL_law_1333 hl (by decide) rfl (fun ls hl => ?_)
  refine lv_aload_n hx hb dL_law_1335 rfl (lv_at hl 3 rfl) ?_
  refine lv_aload_n hx hb dL_law_1336 rfl (lv_at hl 5 rfl) ?_
  refine lv_iload hx hb dL_law_1337 (lv_at hl 1 rfl) ?_
  refine lv_iconst (v := 1) hx hb dL_law_1339 (by decide) ?_
  refine lv_iadd hx hb dL_law_1340 ?_
  refine z_cst (v := 1) (by decide +kernel) ?_
  refine z_sld (v := (nI t1)) (j := 1) hx hb hX hbl hbA hS rfl (Nat.le_of_ble_eq_true rfl) v1 dL_law_1341 ?_
  refine lv_aload_n hx hb dL_law_1342 rfl (lv_at hl 5 rfl) ?_
  refine lv_iload hx hb dL_law_1343 (lv_at hl 1 rfl) ?_
  refine lv_iconst (v := 2) hx hb dL_law_1345 (by decide) ?_
  refine lv_iadd hx hb dL_law_1346 ?_
  refine z_cst (v := 2) (by decide +kernel) ?_
  refine z_sld (v := (xs 2)) (j := 2) hx hb hX hbl hbA hS rfl (Nat.le_of_ble_eq_true rfl) rfl dL_law_1347 ?_
  refine lv_aload_n hx hb dL_law_1348 rfl (lv_at hl 5 rfl) ?_
  refine lv_iload hx hb dL_law_1349 (lv_at hl 1 rfl) ?_
  refine lv_iconst (v := 3) hx hb dL_law_1351 (by decide) ?_
  refine lv_iadd hx hb dL_law_1352 ?_
  refine z_cst (v := 3) (by decide +kernel) ?_
  refine z_sld (v := (xs 3)) (j := 3) hx hb hX hbl hbA hS rfl (Nat.le_of_ble_eq_true rfl) rfl dL_law_1353 ?_
  refine z_calli [(qm, zO 10 83 (zc71 u v))] [(qo, zJ K 1 (fun _ => 0))] [0] [1] hP hD hS hA rfl rfl (by decide +kernel) (by decide +kernel) (by decide +kernel) 125 1863522 rfl rfl (fun hPc hDc hF => z_runV (As := [.int (nI t1), .int (xs 2), .int (xs 3)]) (rest := []) ⟨hx, hb, hml, hown, hg⟩ (cX12_rule_6 l K H.size qm (zc71 u v) t1 ht1 (xs 2) (xs 3) (by rw [Int32.lt_iff_toInt_lt, show (0 : Int32).toInt = 0 from by decide]; omega) (by rw [Int32.lt_iff_toInt_lt, show (7 : Int32).toInt = 7 from by decide]; omega)) kV_RL_158 hd_X12_rule rfl rfl ⟨(Nat.le_of_ble_eq_true rfl), (Nat.le_of_ble_eq_true rfl)⟩ hK hS hZ hPc hDc hF 0 rfl rfl rfl hl.1 rfl (Nat.le_of_ble_eq_true rfl) dL_law_1354 ⟨(Nat.le_of_ble_eq_true rfl), (Nat.le_of_ble_eq_true rfl)⟩) (fun r6 u4 H locs w5 hP hD hS => ?_)
  subst w5
  have hP : va_P K.1 classes [(qo, zJ K 1 (fun _ => 0)), (qm, zO 10 83 (va_up (zc71 u v) 81 (.int 1)))] H := hP
  have hD : va_D A [(qo, zJ K 1 (fun _ => 0)), (qm, zO 10 83 (va_up (zc71 u v) 81 (.int 1)))] := hD
  refine lv_istore (lv' := [(6, .int 0), (5, .int 1), (4, .int 0), (3, .ref qo), (2, .ref qm), (1, .ref qx), (0, .ref b)]) hx hb dL_law_1357 hl (by decide) rfl (fun ls hl => ?_)
  refine lv_aload_n hx hb dL_law_1359 rfl (lv_at hl 4 rfl) ?_
  refine z_calli [(qm, zO 10 83 (va_up (zc71 u v) 81 (.int 1)))] [(qo, zJ K 1 (fun _ => 0))] [1] [0] hP hD hS hA rfl rfl (by decide +kernel) (by decide +kernel) (by decide +kernel) 125 1863522 rfl rfl (fun hPc hDc hF => z_runV (As := []) (rest := []) ⟨hx, hb, hml, hown, hg⟩ (cX12_thrown_2 l K H.size qm (va_up (zc71 u v) 81 (.int 1)) zu_eq) kV_RL_104 hd_X12_thrown rfl rfl ⟨(Nat.le_of_ble_eq_true rfl), (Nat.le_of_ble_eq_true rfl)⟩ hK hS hZ hPc hDc hF 0 rfl rfl rfl hl.1 rfl (Nat.le_of_ble_eq_true rfl) dL_law_1360 ⟨(Nat.le_of_ble_eq_true rfl), (Nat.le_of_ble_eq_true rfl)⟩) (fun r9 u7 H locs w8 hP hD hS => ?_)
  subst w8
  have hP : va_P K.1 classes [(qo, zJ K 1 (fun _ => 0)), (qm, zO 10 83 (va_up (zc71 u v) 81 (.int 1)))] H := hP
  have hD : va_D A [(qo, zJ K 1 (fun _ => 0)), (qm, zO 10 83 (va_up (zc71 u v) 81 (.int 1)))] := hD
  refine lv_iload hx hb dL_law_1363 (lv_at hl 1 rfl) ?_
  refine lv_icmp_eq (tgt := 1370) hx hb dL_law_1365 (by decide) (fun _ => ?_) (fun c => absurd (by decide) c)
  refine lv_iload hx hb dL_law_1370 (lv_at hl 1 rfl) ?_
  refine lv_if_ne (tgt := 1387) hx hb dL_law_1372 (by decide) (fun _ => ?_) (fun c => absurd c (by decide))
  refine lv_goto (tgt := 2026) hx hb dL_law_1387 (by decide) ?_
  exact law_back ⟨hx, hb, hr, hml, hown, hg, hX, hbl, hlocks, hK, hZ, hl9, hAA, hA, hbA⟩ (Nat.le_of_ble_eq_true rfl) (Nat.le_of_ble_eq_true rfl) hS (lv_sub hl [2, 6] rfl)
set_option maxHeartbeats 4000000 in
set_option maxRecDepth 100000 in
theorem lawS_16_6 {p : Program} {l : Launch} {e : Env} {s : State} {m : MethodId} {below : List Frame} {meth : Method} {c : Code} {b : Nat} {xs : Nat → Int32} {K : zK} {A : Nat → Prop} {H : Heap} {locs : List Loc} {ls : Array Slot} (C : zC p l s m meth c b xs K A) (qx qm qo : Nat) (u v : Nat → Nat) (h0 : 0 ≤ (xs 1).toInt) (h1 : 8 ≤ (xs 1).toInt) (hP : va_P K.1 classes (lwW K qx qm qo u v) H) (hD : va_D A (lwW K qx qm qo u v)) (hS : va_S A s.heap H locs) (hl : lv_has ls 7 [(4, .int 0), (3, .ref qo), (2, .ref qm), (1, .ref qx), (0, .ref b)]) : W p l e room_1 s m #[Value.ref b] below meth c H locs 124 1863516 (lw_Z below #[Value.ref b] s) (F0 m 1310 ls []) := by
  obtain ⟨hx, hb, hr, hml, hown, hg, hX, hbl, hlocks, hK, hZ, hl9, hAA, hA, hbA⟩ := C
  have hP : va_P K.1 classes [(qx, zO 9 9 (zc0 u v)), (qm, zO 10 83 (zc71 u v)), (qo, zJ K 1 (fun _ => 0))] H := hP.sub [0, 71, 123] rfl
  have hD : va_D A [(qx, zO 9 9 (zc0 u v)), (qm, zO 10 83 (zc71 u v)), (qo, zJ K 1 (fun _ => 0))] := hD.sub [0, 71, 123] (by decide +kernel) rfl
  refine lv_aload_n hx hb dL_law_1310 rfl (lv_at hl 3 rfl) ?_
  refine lv_aload_n hx hb dL_law_1311 rfl (lv_at hl 4 rfl) ?_
  refine lv_iload hx hb dL_law_1312 (lv_at hl 0 rfl) ?_
  refine lv_iconst (v := 1) hx hb dL_law_1314 (by decide) ?_
  refine lv_iadd hx hb dL_law_1315 ?_
  refine z_cst (v := 1) (by decide +kernel) ?_
  refine z_sld (v := (xs 1)) (j := 1) hx hb hX hbl hbA hS rfl (Nat.le_of_ble_eq_true rfl) rfl dL_law_1316 ?_
  refine lv_aload_n hx hb dL_law_1317 rfl (lv_at hl 4 rfl) ?_
  refine lv_iload hx hb dL_law_1318 (lv_at hl 0 rfl) ?_
  refine lv_iconst (v := 2) hx hb dL_law_1320 (by decide) ?_
  refine lv_iadd hx hb dL_law_1321 ?_
  refine z_cst (v := 2) (by decide +kernel) ?_
  refine z_sld (v := (xs 2)) (j := 2) hx hb hX hbl hbA hS rfl (Nat.le_of_ble_eq_true rfl) rfl dL_law_1322 ?_
  refine lv_aload_n hx hb dL_law_1323 rfl (lv_at hl 4 rfl) ?_
  refine lv_iload hx hb dL_law_1324 (lv_at hl 0 rfl) ?_
  refine lv_iconst (v := 3) hx hb dL_law_1326 (by decide) ?_
  refine lv_iadd hx hb dL_law_1327 ?_
  refine z_cst (v := 3) (by decide +kernel) ?_
  refine z_sld (v := (xs 3)) (j := 3) hx hb hX hbl hbA hS rfl (Nat.le_of_ble_eq_true rfl) rfl dL_law_1328 ?_
  refine lv_aload_n hx hb dL_law_1329 rfl (lv_at hl 1 rfl) ?_
  refine z_hcalli [(qx, zO 9 9 (zc0 u v))] [(qm, zO 10 83 (zc71 u v)), (qo, zJ K 1 (fun _ => 0))] [0] [1, 2] hP hD hS hA rfl rfl (by decide +kernel) (by decide +kernel) (by decide +kernel) 125 1863522 rfl rfl (fun hPc hDc hF => z_xrunH (As := [.ref qx, .int (xs 1), .int (xs 2), .int (xs 3), .ref qo]) (rest := []) ⟨hx, hb, hml, hown, hg⟩ (cL_rule_7 l hl9 K H.size qx qo (zc0 u v) (xs 1) (xs 2) (xs 3) (by rw [Int32.lt_iff_toInt_lt, show (0 : Int32).toInt = 0 from by decide]; omega) (by rw [Int32.lt_iff_toInt_lt, show (8 : Int32).toInt = 8 from by decide]; omega)) kS_RL_156 hd_L_rule rfl rfl ⟨(Nat.le_of_ble_eq_true rfl), (Nat.le_of_ble_eq_true rfl)⟩ hK hS hZ hPc hDc hF rfl hl.1 rfl (Nat.le_of_ble_eq_true rfl) dL_law_1330 ⟨(Nat.le_of_ble_eq_true rfl), (Nat.le_of_ble_eq_true rfl)⟩) (fun r3 u1 H locs w2 hP hD hS => ?_)
  subst w2
  have hP : va_P K.1 classes [(qm, zO 10 83 (zc71 u v)), (qo, zJ K 1 (fun _ => 0))] H := hP
  have hD : va_D A [(qm, zO 10 83 (zc71 u v)), (qo, zJ K 1 (fun _ => 0))] := hD
  refine lv_istore (lv' := [(5, .int 1), (4, .int 0), (3, .ref qo), (2, .ref qm), (1, .ref qx), (0, .ref b)]) hx hb dL_law_1333 hl (by decide) rfl (fun ls hl => ?_)
  refine lv_aload_n hx hb dL_law_1335 rfl (lv_at hl 3 rfl) ?_
  refine lv_aload_n hx hb dL_law_1336 rfl (lv_at hl 5 rfl) ?_
  refine lv_iload hx hb dL_law_1337 (lv_at hl 1 rfl) ?_
  refine lv_iconst (v := 1) hx hb dL_law_1339 (by decide) ?_
  refine lv_iadd hx hb dL_law_1340 ?_
  refine z_cst (v := 1) (by decide +kernel) ?_
  refine z_sld (v := (xs 1)) (j := 1) hx hb hX hbl hbA hS rfl (Nat.le_of_ble_eq_true rfl) rfl dL_law_1341 ?_
  refine lv_aload_n hx hb dL_law_1342 rfl (lv_at hl 5 rfl) ?_
  refine lv_iload hx hb dL_law_1343 (lv_at hl 1 rfl) ?_
  refine lv_iconst (v := 2) hx hb dL_law_1345 (by decide) ?_
  refine lv_iadd hx hb dL_law_1346 ?_
  refine z_cst (v := 2) (by decide +kernel) ?_
  refine z_sld (v := (xs 2)) (j := 2) hx hb hX hbl hbA hS rfl (Nat.le_of_ble_eq_true rfl) rfl dL_law_1347 ?_
  refine lv_aload_n hx hb dL_law_1348 rfl (lv_at hl 5 rfl) ?_
  refine lv_iload hx hb dL_law_1349 (lv_at hl 1 rfl) ?_
  refine lv_iconst (v := 3) hx hb dL_law_1351 (by decide) ?_
  refine lv_iadd hx hb dL_law_1352 ?_
  refine z_cst (v := 3) (by decide +kernel) ?_
  refine z_sld (v := (xs 3)) (j := 3) hx hb hX hbl hbA hS rfl (Nat.le_of_ble_eq_true rfl) rfl dL_law_1353 ?_
  refine z_calli [(qm, zO 10 83 (zc71 u v))] [(qo, zJ K 1 (fun _ => 0))] [0] [1] hP hD hS hA rfl rfl (by decide +kernel) (by decide +kernel) (by decide +kernel) 125 1863522 rfl rfl (fun hPc hDc hF => z_runV (As := [.int (xs 1), .int (xs 2), .int (xs 3)]) (rest := []) ⟨hx, hb, hml, hown, hg⟩ (cX12_rule_7 l K H.size qm (zc71 u v) (xs 1) (xs 2) (xs 3) (by rw [Int32.lt_iff_toInt_lt, show (0 : Int32).toInt = 0 from by decide]; omega) (by rw [Int32.lt_iff_toInt_lt, show (7 : Int32).toInt = 7 from by decide]; omega)) kV_RL_158 hd_X12_rule rfl rfl ⟨(Nat.le_of_ble_eq_true rfl), (Nat.le_of_ble_eq_true rfl)⟩ hK hS hZ hPc hDc hF 0 rfl rfl rfl hl.1 rfl (Nat.le_of_ble_eq_true rfl) dL_law_1354 ⟨(Nat.le_of_ble_eq_true rfl), (Nat.le_of_ble_eq_true rfl)⟩) (fun r6 u4 H locs w5 hP hD hS => ?_)
  subst w5
  have hP : va_P K.1 classes [(qo, zJ K 1 (fun _ => 0)), (qm, zO 10 83 (va_up (zc71 u v) 81 (.int 1)))] H := hP
  have hD : va_D A [(qo, zJ K 1 (fun _ => 0)), (qm, zO 10 83 (va_up (zc71 u v) 81 (.int 1)))] := hD
  refine lv_istore (lv' := [(6, .int 0), (5, .int 1), (4, .int 0), (3, .ref qo), (2, .ref qm), (1, .ref qx), (0, .ref b)]) hx hb dL_law_1357 hl (by decide) rfl (fun ls hl => ?_)
  refine lv_aload_n hx hb dL_law_1359 rfl (lv_at hl 4 rfl) ?_
  refine z_calli [(qm, zO 10 83 (va_up (zc71 u v) 81 (.int 1)))] [(qo, zJ K 1 (fun _ => 0))] [1] [0] hP hD hS hA rfl rfl (by decide +kernel) (by decide +kernel) (by decide +kernel) 125 1863522 rfl rfl (fun hPc hDc hF => z_runV (As := []) (rest := []) ⟨hx, hb, hml, hown, hg⟩ (cX12_thrown_2 l K H.size qm (va_up (zc71 u v) 81 (.int 1)) zu_eq) kV_RL_104 hd_X12_thrown rfl rfl ⟨(Nat.le_of_ble_eq_true rfl), (Nat.le_of_ble_eq_true rfl)⟩ hK hS hZ hPc hDc hF 0 rfl rfl rfl hl.1 rfl (Nat.le_of_ble_eq_true rfl) dL_law_1360 ⟨(Nat.le_of_ble_eq_true rfl), (Nat.le_of_ble_eq_true rfl)⟩) (fun r9 u7 H locs w8 hP hD hS => ?_)
  subst w8
  have hP : va_P K.1 classes [(qo, zJ K 1 (fun _ => 0)), (qm, zO 10 83 (va_up (zc71 u v) 81 (.int 1)))] H := hP
  have hD : va_D A [(qo, zJ K 1 (fun _ => 0)), (qm, zO 10 83 (va_up (zc71 u v) 81 (.int 1)))] := hD
  refine lv_iload hx hb dL_law_1363 (lv_at hl 1 rfl) ?_
  refine lv_icmp_eq (tgt := 1370) hx hb dL_law_1365 (by decide) (fun _ => ?_) (fun c => absurd (by decide) c)
  refine lv_iload hx hb dL_law_1370 (lv_at hl 1 rfl) ?_
  refine lv_if_ne (tgt := 1387) hx hb dL_law_1372 (by decide) (fun _ => ?_) (fun c => absurd c (by decide))
  refine lv_goto (tgt := 2026) hx hb dL_law_1387 (by decide) ?_
  exact law_back ⟨hx, hb, hr, hml, hown, hg, hX, hbl, hlocks, hK, hZ, hl9, hAA, hA, hbA⟩ (Nat.le_of_ble_eq_true rfl) (Nat.le_of_ble_eq_true rfl) hS (lv_sub hl [2, 6] rfl)
theorem lawC_16 {p : Program} {l : Launch} {e : Env} {s : State} {m : MethodId} {below : List Frame} {meth : Method} {c : Code} {b : Nat} {xs : Nat → Int32} {K : zK} {A : Nat → Prop} {H : Heap} {locs : List Loc} {ls : Array Slot} (C : zC p l s m meth c b xs K A) (qx qm qo : Nat) (u v : Nat → Nat) (hP : va_P K.1 classes (lwW K qx qm qo u v) H) (hD : va_D A (lwW K qx qm qo u v)) (hS : va_S A s.heap H locs) (hl : lv_has ls 7 [(4, .int 0), (3, .ref qo), (2, .ref qm), (1, .ref qx), (0, .ref b)]) : W p l e room_1 s m #[Value.ref b] below meth c H locs 124 1863516 (lw_Z below #[Value.ref b] s) (F0 m 1310 ls []) := by
  rcases z_split (xs 1) (0) with h0 | h0
  · exact lawS_16_0 C qx qm qo u v h0 hP hD hS hl
  · rcases z_split (xs 1) (8) with h1 | h1
    · rcases z_split (xs 2) (0) with h2 | h2
      · exact lawS_16_1 C qx qm qo u v h0 h1 h2 hP hD hS hl
      · rcases z_split (xs 2) (8) with h3 | h3
        · rcases z_split (xs 3) (0) with h4 | h4
          · exact lawS_16_2 C qx qm qo u v h0 h1 h2 h3 h4 hP hD hS hl
          · rcases z_split (xs 3) (8) with h5 | h5
            · exact lawS_16_3 C qx qm qo u v h0 h1 h2 h3 h4 h5 hP hD hS hl
            · exact lawS_16_4 C qx qm qo u v h0 h1 h2 h3 h4 h5 hP hD hS hl
        · exact lawS_16_5 C qx qm qo u v h0 h1 h2 h3 hP hD hS hl
    · exact lawS_16_6 C qx qm qo u v h0 h1 hP hD hS hl
set_option maxHeartbeats 4000000 in
set_option maxRecDepth 100000 in
theorem lawS_17_0 {p : Program} {l : Launch} {e : Env} {s : State} {m : MethodId} {below : List Frame} {meth : Method} {c : Code} {b : Nat} {xs : Nat → Int32} {K : zK} {A : Nat → Prop} {H : Heap} {locs : List Loc} {ls : Array Slot} (C : zC p l s m meth c b xs K A) (qx qm qo : Nat) (u v : Nat → Nat) (hP : va_P K.1 classes (lwW K qx qm qo u v) H) (hD : va_D A (lwW K qx qm qo u v)) (hS : va_S A s.heap H locs) (hl : lv_has ls 7 [(4, .int 0), (3, .ref qo), (2, .ref qm), (1, .ref qx), (0, .ref b)]) : W p l e room_1 s m #[Value.ref b] below meth c H locs 124 1863516 (lw_Z below #[Value.ref b] s) (F0 m 1390 ls []) := by
  obtain ⟨hx, hb, hr, hml, hown, hg, hX, hbl, hlocks, hK, hZ, hl9, hAA, hA, hbA⟩ := C
  have hP : va_P K.1 classes [(qx, zO 9 9 (zc0 u v)), ((u 8), zO 4 6 (zc9 u v)), ((u 15), zI K 8 (fun _ => 0)), ((u 20), zO 4 6 (zc21 u v)), ((u 27), zI K 8 (fun _ => 0)), ((u 28), zI K 8 (fun _ => 0)), ((u 29), zJ K 8 (fun _ => 0)), (qm, zO 10 83 (zc71 u v)), ((v 7), zI K 1290 (fun _ => 0)), ((v 8), zI K 1290 (fun _ => 0)), ((v 9), zI K 1290 (fun _ => 0)), ((v 10), zI K 1290 (fun _ => 0)), ((v 11), zI K 1290 (fun _ => 0)), ((v 12), zI K 1290 (fun _ => 0)), ((v 13), zI K 16 (fun _ => 0)), ((v 25), zI K 60000 (fun _ => 0)), (qo, zJ K 1 (fun _ => 0))] H := hP.sub [0, 9, 16, 21, 28, 29, 30, 71, 79, 80, 81, 82, 83, 84, 85, 97, 123] rfl
  have hD : va_D A [(qx, zO 9 9 (zc0 u v)), ((u 8), zO 4 6 (zc9 u v)), ((u 15), zI K 8 (fun _ => 0)), ((u 20), zO 4 6 (zc21 u v)), ((u 27), zI K 8 (fun _ => 0)), ((u 28), zI K 8 (fun _ => 0)), ((u 29), zJ K 8 (fun _ => 0)), (qm, zO 10 83 (zc71 u v)), ((v 7), zI K 1290 (fun _ => 0)), ((v 8), zI K 1290 (fun _ => 0)), ((v 9), zI K 1290 (fun _ => 0)), ((v 10), zI K 1290 (fun _ => 0)), ((v 11), zI K 1290 (fun _ => 0)), ((v 12), zI K 1290 (fun _ => 0)), ((v 13), zI K 16 (fun _ => 0)), ((v 25), zI K 60000 (fun _ => 0)), (qo, zJ K 1 (fun _ => 0))] := hD.sub [0, 9, 16, 21, 28, 29, 30, 71, 79, 80, 81, 82, 83, 84, 85, 97, 123] (by decide +kernel) rfl
  refine lv_aload_n hx hb dL_law_1390 rfl (lv_at hl 3 rfl) ?_
  refine z_calli [(qx, zO 9 9 (zc0 u v)), ((u 20), zO 4 6 (zc21 u v)), ((u 27), zI K 8 (fun _ => 0)), ((u 8), zO 4 6 (zc9 u v)), ((u 15), zI K 8 (fun _ => 0)), ((u 28), zI K 8 (fun _ => 0)), ((u 29), zJ K 8 (fun _ => 0))] [(qm, zO 10 83 (zc71 u v)), ((v 7), zI K 1290 (fun _ => 0)), ((v 8), zI K 1290 (fun _ => 0)), ((v 9), zI K 1290 (fun _ => 0)), ((v 10), zI K 1290 (fun _ => 0)), ((v 11), zI K 1290 (fun _ => 0)), ((v 12), zI K 1290 (fun _ => 0)), ((v 13), zI K 16 (fun _ => 0)), ((v 25), zI K 60000 (fun _ => 0)), (qo, zJ K 1 (fun _ => 0))] [0, 3, 4, 1, 2, 5, 6] [7, 8, 9, 10, 11, 12, 13, 14, 15, 16] hP hD hS hA rfl rfl (by decide +kernel) (by decide +kernel) (by decide +kernel) 124 1863516 rfl rfl (fun hPc hDc hF => z_runV (As := []) (rest := []) ⟨hx, hb, hml, hown, hg⟩ (cX11_begin_1 l K H.size qx (u 20) (u 8) (u 27) (u 15) (u 28) (u 29) (zc0 u v) (zc21 u v) (fun _ => 0) (zc9 u v) (fun _ => 0) (fun _ => 0) (fun _ => 0) (zc0_4 u v) (zc0_3 u v) (zc21_1 u v) (zc9_1 u v) rfl rfl rfl rfl rfl rfl rfl rfl (zc21_2 u v) (zc21_3 u v)) kV_RL_159 hd_X11_begin rfl rfl ⟨(Nat.le_of_ble_eq_true rfl), (Nat.le_of_ble_eq_true rfl)⟩ hK hS hZ hPc hDc hF 0 rfl rfl rfl hl.1 rfl (Nat.le_of_ble_eq_true rfl) dL_law_1391 ⟨(Nat.le_of_ble_eq_true rfl), (Nat.le_of_ble_eq_true rfl)⟩) (fun r3 u1 H locs w2 hP hD hS => ?_)
  subst w2
  have hP : va_P K.1 classes [(qm, zO 10 83 (zc71 u v)), ((v 7), zI K 1290 (fun _ => 0)), ((v 8), zI K 1290 (fun _ => 0)), ((v 9), zI K 1290 (fun _ => 0)), ((v 10), zI K 1290 (fun _ => 0)), ((v 11), zI K 1290 (fun _ => 0)), ((v 12), zI K 1290 (fun _ => 0)), ((v 13), zI K 16 (fun _ => 0)), ((v 25), zI K 60000 (fun _ => 0)), (qo, zJ K 1 (fun _ => 0))] H := hP
  have hD : va_D A [(qm, zO 10 83 (zc71 u v)), ((v 7), zI K 1290 (fun _ => 0)), ((v 8), zI K 1290 (fun _ => 0)), ((v 9), zI K 1290 (fun _ => 0)), ((v 10), zI K 1290 (fun _ => 0)), ((v 11), zI K 1290 (fun _ => 0)), ((v 12), zI K 1290 (fun _ => 0)), ((v 13), zI K 16 (fun _ => 0)), ((v 25), zI K 60000 (fun _ => 0)), (qo, zJ K 1 (fun _ => 0))] := hD
  refine lv_aload_n hx hb dL_law_1394 rfl (lv_at hl 2 rfl) ?_
  refine z_calli [(qm, zO 10 83 (zc71 u v)), ((v 13), zI K 16 (fun _ => 0)), ((v 7), zI K 1290 (fun _ => 0)), ((v 8), zI K 1290 (fun _ => 0)), ((v 9), zI K 1290 (fun _ => 0)), ((v 10), zI K 1290 (fun _ => 0)), ((v 11), zI K 1290 (fun _ => 0)), ((v 12), zI K 1290 (fun _ => 0)), ((v 25), zI K 60000 (fun _ => 0))] [(qo, zJ K 1 (fun _ => 0))] [0, 7, 1, 2, 3, 4, 5, 6, 8] [9] hP hD hS hA rfl rfl (by decide +kernel) (by decide +kernel) (by decide +kernel) 124 1863516 rfl rfl (fun hPc hDc hF => z_runV (As := []) (rest := [.int 0]) ⟨hx, hb, hml, hown, hg⟩ (cX12_begin_1 l K H.size qm (v 13) (v 7) (v 8) (v 9) (v 10) (v 11) (v 12) (v 25) (zc71 u v) (fun _ => 0) (fun _ => 0) (fun _ => 0) (fun _ => 0) (fun _ => 0) (fun _ => 0) (fun _ => 0) (fun _ => 0) (zc71_14 u v) rfl rfl rfl rfl rfl rfl rfl rfl (zc71_8 u v) (zc71_9 u v) (zc71_10 u v) (zc71_11 u v) (zc71_12 u v) (zc71_13 u v) (zc71_33 u v)) kV_RL_162 hd_X12_begin rfl rfl ⟨(Nat.le_of_ble_eq_true rfl), (Nat.le_of_ble_eq_true rfl)⟩ hK hS hZ hPc hDc hF 0 rfl rfl rfl hl.1 rfl (Nat.le_of_ble_eq_true rfl) dL_law_1395 ⟨(Nat.le_of_ble_eq_true rfl), (Nat.le_of_ble_eq_true rfl)⟩) (fun r6 u4 H locs w5 hP hD hS => ?_)
  subst w5
  have hP : va_P K.1 classes [(qo, zJ K 1 (fun _ => 0)), (qm, zO 10 83 (va_up (va_up (zc71 u v) 81 (.int 0)) 15 (.int 1)))] H := hP
  have hD : va_D A [(qo, zJ K 1 (fun _ => 0)), (qm, zO 10 83 (va_up (va_up (zc71 u v) 81 (.int 0)) 15 (.int 1)))] := hD
  refine lv_icmp_eq (tgt := 2026) hx hb dL_law_1398 (by decide) (fun _ => ?_) (fun c => absurd (by decide) c)
  exact law_back ⟨hx, hb, hr, hml, hown, hg, hX, hbl, hlocks, hK, hZ, hl9, hAA, hA, hbA⟩ (Nat.le_of_ble_eq_true rfl) (Nat.le_of_ble_eq_true rfl) hS (lv_sub hl [0, 4] rfl)
theorem lawC_17 {p : Program} {l : Launch} {e : Env} {s : State} {m : MethodId} {below : List Frame} {meth : Method} {c : Code} {b : Nat} {xs : Nat → Int32} {K : zK} {A : Nat → Prop} {H : Heap} {locs : List Loc} {ls : Array Slot} (C : zC p l s m meth c b xs K A) (qx qm qo : Nat) (u v : Nat → Nat) (hP : va_P K.1 classes (lwW K qx qm qo u v) H) (hD : va_D A (lwW K qx qm qo u v)) (hS : va_S A s.heap H locs) (hl : lv_has ls 7 [(4, .int 0), (3, .ref qo), (2, .ref qm), (1, .ref qx), (0, .ref b)]) : W p l e room_1 s m #[Value.ref b] below meth c H locs 124 1863516 (lw_Z below #[Value.ref b] s) (F0 m 1390 ls []) := by
  exact lawS_17_0 C qx qm qo u v hP hD hS hl
set_option maxHeartbeats 4000000 in
set_option maxRecDepth 100000 in
theorem lawS_18_0 {p : Program} {l : Launch} {e : Env} {s : State} {m : MethodId} {below : List Frame} {meth : Method} {c : Code} {b : Nat} {xs : Nat → Int32} {K : zK} {A : Nat → Prop} {H : Heap} {locs : List Loc} {ls : Array Slot} (C : zC p l s m meth c b xs K A) (qx qm qo : Nat) (u v : Nat → Nat) (h0 : (xs 1).toInt < 0) (hP : va_P K.1 classes (lwW K qx qm qo u v) H) (hD : va_D A (lwW K qx qm qo u v)) (hS : va_S A s.heap H locs) (hl : lv_has ls 7 [(4, .int 0), (3, .ref qo), (2, .ref qm), (1, .ref qx), (0, .ref b)]) : W p l e room_1 s m #[Value.ref b] below meth c H locs 124 1863516 (lw_Z below #[Value.ref b] s) (F0 m 1403 ls []) := by
  obtain ⟨hx, hb, hr, hml, hown, hg, hX, hbl, hlocks, hK, hZ, hl9, hAA, hA, hbA⟩ := C
  have hP : va_P K.1 classes [(qx, zO 9 9 (zc0 u v)), (qm, zO 10 83 (zc71 u v)), (qo, zJ K 1 (fun _ => 0))] H := hP.sub [0, 71, 123] rfl
  have hD : va_D A [(qx, zO 9 9 (zc0 u v)), (qm, zO 10 83 (zc71 u v)), (qo, zJ K 1 (fun _ => 0))] := hD.sub [0, 71, 123] (by decide +kernel) rfl
  refine lv_aload_n hx hb dL_law_1403 rfl (lv_at hl 3 rfl) ?_
  refine lv_aload_n hx hb dL_law_1404 rfl (lv_at hl 4 rfl) ?_
  refine lv_iload hx hb dL_law_1405 (lv_at hl 0 rfl) ?_
  refine lv_iconst (v := 1) hx hb dL_law_1407 (by decide) ?_
  refine lv_iadd hx hb dL_law_1408 ?_
  refine z_cst (v := 1) (by decide +kernel) ?_
  refine z_sld (v := (xs 1)) (j := 1) hx hb hX hbl hbA hS rfl (Nat.le_of_ble_eq_true rfl) rfl dL_law_1409 ?_
  refine lv_aload_n hx hb dL_law_1410 rfl (lv_at hl 4 rfl) ?_
  refine lv_iload hx hb dL_law_1411 (lv_at hl 0 rfl) ?_
  refine lv_iconst (v := 2) hx hb dL_law_1413 (by decide) ?_
  refine lv_iadd hx hb dL_law_1414 ?_
  refine z_cst (v := 2) (by decide +kernel) ?_
  refine z_sld (v := (xs 2)) (j := 2) hx hb hX hbl hbA hS rfl (Nat.le_of_ble_eq_true rfl) rfl dL_law_1415 ?_
  refine lv_aload_n hx hb dL_law_1416 rfl (lv_at hl 1 rfl) ?_
  refine z_hcalli [(qx, zO 9 9 (zc0 u v))] [(qm, zO 10 83 (zc71 u v)), (qo, zJ K 1 (fun _ => 0))] [0] [1, 2] hP hD hS hA rfl rfl (by decide +kernel) (by decide +kernel) (by decide +kernel) 125 1863522 rfl rfl (fun hPc hDc hF => z_xrunH (As := [.ref qx, .int (xs 1), .int (xs 2), .ref qo]) (rest := []) ⟨hx, hb, hml, hown, hg⟩ (cL_pass_1 l hl9 K H.size qx qo (zc0 u v) (xs 1) (xs 2) (by rw [Int32.lt_iff_toInt_lt, show (0 : Int32).toInt = 0 from by decide]; omega)) kS_RL_163 hd_L_pass rfl rfl ⟨(Nat.le_of_ble_eq_true rfl), (Nat.le_of_ble_eq_true rfl)⟩ hK hS hZ hPc hDc hF rfl hl.1 rfl (Nat.le_of_ble_eq_true rfl) dL_law_1417 ⟨(Nat.le_of_ble_eq_true rfl), (Nat.le_of_ble_eq_true rfl)⟩) (fun r3 u1 H locs w2 hP hD hS => ?_)
  subst w2
  have hP : va_P K.1 classes [(qm, zO 10 83 (zc71 u v)), (qo, zJ K 1 (fun _ => 0))] H := hP
  have hD : va_D A [(qm, zO 10 83 (zc71 u v)), (qo, zJ K 1 (fun _ => 0))] := hD
  refine lv_istore (lv' := [(5, .int 1), (4, .int 0), (3, .ref qo), (2, .ref qm), (1, .ref qx), (0, .ref b)]) hx hb dL_law_1420 hl (by decide) rfl (fun ls hl => ?_)
  refine lv_aload_n hx hb dL_law_1422 rfl (lv_at hl 3 rfl) ?_
  refine lv_aload_n hx hb dL_law_1423 rfl (lv_at hl 5 rfl) ?_
  refine lv_iload hx hb dL_law_1424 (lv_at hl 1 rfl) ?_
  refine lv_iconst (v := 1) hx hb dL_law_1426 (by decide) ?_
  refine lv_iadd hx hb dL_law_1427 ?_
  refine z_cst (v := 1) (by decide +kernel) ?_
  refine z_sld (v := (xs 1)) (j := 1) hx hb hX hbl hbA hS rfl (Nat.le_of_ble_eq_true rfl) rfl dL_law_1428 ?_
  refine lv_aload_n hx hb dL_law_1429 rfl (lv_at hl 5 rfl) ?_
  refine lv_iload hx hb dL_law_1430 (lv_at hl 1 rfl) ?_
  refine lv_iconst (v := 2) hx hb dL_law_1432 (by decide) ?_
  refine lv_iadd hx hb dL_law_1433 ?_
  refine z_cst (v := 2) (by decide +kernel) ?_
  refine z_sld (v := (xs 2)) (j := 2) hx hb hX hbl hbA hS rfl (Nat.le_of_ble_eq_true rfl) rfl dL_law_1434 ?_
  refine z_calli [(qm, zO 10 83 (zc71 u v))] [(qo, zJ K 1 (fun _ => 0))] [0] [1] hP hD hS hA rfl rfl (by decide +kernel) (by decide +kernel) (by decide +kernel) 125 1863522 rfl rfl (fun hPc hDc hF => z_runV (As := [.int (xs 1), .int (xs 2)]) (rest := []) ⟨hx, hb, hml, hown, hg⟩ (cX12_pass_1 l K H.size qm (zc71 u v) (xs 1) (xs 2) (by rw [Int32.lt_iff_toInt_lt, show (0 : Int32).toInt = 0 from by decide]; omega)) kV_RL_165 hd_X12_pass rfl rfl ⟨(Nat.le_of_ble_eq_true rfl), (Nat.le_of_ble_eq_true rfl)⟩ hK hS hZ hPc hDc hF 0 rfl rfl rfl hl.1 rfl (Nat.le_of_ble_eq_true rfl) dL_law_1435 ⟨(Nat.le_of_ble_eq_true rfl), (Nat.le_of_ble_eq_true rfl)⟩) (fun r6 u4 H locs w5 hP hD hS => ?_)
  subst w5
  have hP : va_P K.1 classes [(qo, zJ K 1 (fun _ => 0)), (qm, zO 10 83 (va_up (zc71 u v) 81 (.int 1)))] H := hP
  have hD : va_D A [(qo, zJ K 1 (fun _ => 0)), (qm, zO 10 83 (va_up (zc71 u v) 81 (.int 1)))] := hD
  refine lv_istore (lv' := [(6, .int 0), (5, .int 1), (4, .int 0), (3, .ref qo), (2, .ref qm), (1, .ref qx), (0, .ref b)]) hx hb dL_law_1438 hl (by decide) rfl (fun ls hl => ?_)
  refine lv_aload_n hx hb dL_law_1440 rfl (lv_at hl 4 rfl) ?_
  refine z_calli [(qm, zO 10 83 (va_up (zc71 u v) 81 (.int 1)))] [(qo, zJ K 1 (fun _ => 0))] [1] [0] hP hD hS hA rfl rfl (by decide +kernel) (by decide +kernel) (by decide +kernel) 125 1863522 rfl rfl (fun hPc hDc hF => z_runV (As := []) (rest := []) ⟨hx, hb, hml, hown, hg⟩ (cX12_thrown_2 l K H.size qm (va_up (zc71 u v) 81 (.int 1)) zu_eq) kV_RL_104 hd_X12_thrown rfl rfl ⟨(Nat.le_of_ble_eq_true rfl), (Nat.le_of_ble_eq_true rfl)⟩ hK hS hZ hPc hDc hF 0 rfl rfl rfl hl.1 rfl (Nat.le_of_ble_eq_true rfl) dL_law_1441 ⟨(Nat.le_of_ble_eq_true rfl), (Nat.le_of_ble_eq_true rfl)⟩) (fun r9 u7 H locs w8 hP hD hS => ?_)
  subst w8
  have hP : va_P K.1 classes [(qo, zJ K 1 (fun _ => 0)), (qm, zO 10 83 (va_up (zc71 u v) 81 (.int 1)))] H := hP
  have hD : va_D A [(qo, zJ K 1 (fun _ => 0)), (qm, zO 10 83 (va_up (zc71 u v) 81 (.int 1)))] := hD
  refine lv_iload hx hb dL_law_1444 (lv_at hl 1 rfl) ?_
  refine lv_icmp_eq (tgt := 1451) hx hb dL_law_1446 (by decide) (fun _ => ?_) (fun c => absurd (by decide) c)
  refine lv_iload hx hb dL_law_1451 (lv_at hl 1 rfl) ?_
  refine lv_if_ne (tgt := 1468) hx hb dL_law_1453 (by decide) (fun _ => ?_) (fun c => absurd c (by decide))
  refine lv_goto (tgt := 2026) hx hb dL_law_1468 (by decide) ?_
  exact law_back ⟨hx, hb, hr, hml, hown, hg, hX, hbl, hlocks, hK, hZ, hl9, hAA, hA, hbA⟩ (Nat.le_of_ble_eq_true rfl) (Nat.le_of_ble_eq_true rfl) hS (lv_sub hl [2, 6] rfl)
set_option maxHeartbeats 4000000 in
set_option maxRecDepth 100000 in
theorem lawS_18_1 {p : Program} {l : Launch} {e : Env} {s : State} {m : MethodId} {below : List Frame} {meth : Method} {c : Code} {b : Nat} {xs : Nat → Int32} {K : zK} {A : Nat → Prop} {H : Heap} {locs : List Loc} {ls : Array Slot} (C : zC p l s m meth c b xs K A) (qx qm qo : Nat) (u v : Nat → Nat) (h0 : 0 ≤ (xs 1).toInt) (h1 : (xs 1).toInt < 9) (h2 : (xs 2).toInt < 0) (hP : va_P K.1 classes (lwW K qx qm qo u v) H) (hD : va_D A (lwW K qx qm qo u v)) (hS : va_S A s.heap H locs) (hl : lv_has ls 7 [(4, .int 0), (3, .ref qo), (2, .ref qm), (1, .ref qx), (0, .ref b)]) : W p l e room_1 s m #[Value.ref b] below meth c H locs 124 1863516 (lw_Z below #[Value.ref b] s) (F0 m 1403 ls []) := by
  obtain ⟨hx, hb, hr, hml, hown, hg, hX, hbl, hlocks, hK, hZ, hl9, hAA, hA, hbA⟩ := C
  have hP : va_P K.1 classes [(qx, zO 9 9 (zc0 u v)), (qm, zO 10 83 (zc71 u v)), (qo, zJ K 1 (fun _ => 0))] H := hP.sub [0, 71, 123] rfl
  have hD : va_D A [(qx, zO 9 9 (zc0 u v)), (qm, zO 10 83 (zc71 u v)), (qo, zJ K 1 (fun _ => 0))] := hD.sub [0, 71, 123] (by decide +kernel) rfl
  obtain ⟨t1, ht1, v1⟩ : ∃ j : Nat, j < 9 ∧ xs 1 = nI j := z_nat (n := 9) (by omega) (by omega) (by decide)
  refine lv_aload_n hx hb dL_law_1403 rfl (lv_at hl 3 rfl) ?_
  refine lv_aload_n hx hb dL_law_1404 rfl (lv_at hl 4 rfl) ?_
  refine lv_iload hx hb dL_law_1405 (lv_at hl 0 rfl) ?_
  refine lv_iconst (v := 1) hx hb dL_law_1407 (by decide) ?_
  refine lv_iadd hx hb dL_law_1408 ?_
  refine z_cst (v := 1) (by decide +kernel) ?_
  refine z_sld (v := (nI t1)) (j := 1) hx hb hX hbl hbA hS rfl (Nat.le_of_ble_eq_true rfl) v1 dL_law_1409 ?_
  refine lv_aload_n hx hb dL_law_1410 rfl (lv_at hl 4 rfl) ?_
  refine lv_iload hx hb dL_law_1411 (lv_at hl 0 rfl) ?_
  refine lv_iconst (v := 2) hx hb dL_law_1413 (by decide) ?_
  refine lv_iadd hx hb dL_law_1414 ?_
  refine z_cst (v := 2) (by decide +kernel) ?_
  refine z_sld (v := (xs 2)) (j := 2) hx hb hX hbl hbA hS rfl (Nat.le_of_ble_eq_true rfl) rfl dL_law_1415 ?_
  refine lv_aload_n hx hb dL_law_1416 rfl (lv_at hl 1 rfl) ?_
  refine z_hcalli [(qx, zO 9 9 (zc0 u v))] [(qm, zO 10 83 (zc71 u v)), (qo, zJ K 1 (fun _ => 0))] [0] [1, 2] hP hD hS hA rfl rfl (by decide +kernel) (by decide +kernel) (by decide +kernel) 125 1863522 rfl rfl (fun hPc hDc hF => z_xrunH (As := [.ref qx, .int (nI t1), .int (xs 2), .ref qo]) (rest := []) ⟨hx, hb, hml, hown, hg⟩ (cL_pass_2 l hl9 K H.size qx qo (zc0 u v) t1 ht1 (xs 2) (by rw [Int32.lt_iff_toInt_lt, show (0 : Int32).toInt = 0 from by decide]; omega)) kS_RL_163 hd_L_pass rfl rfl ⟨(Nat.le_of_ble_eq_true rfl), (Nat.le_of_ble_eq_true rfl)⟩ hK hS hZ hPc hDc hF rfl hl.1 rfl (Nat.le_of_ble_eq_true rfl) dL_law_1417 ⟨(Nat.le_of_ble_eq_true rfl), (Nat.le_of_ble_eq_true rfl)⟩) (fun r3 u1 H locs w2 hP hD hS => ?_)
  subst w2
  have hP : va_P K.1 classes [(qm, zO 10 83 (zc71 u v)), (qo, zJ K 1 (fun _ => 0))] H := hP
  have hD : va_D A [(qm, zO 10 83 (zc71 u v)), (qo, zJ K 1 (fun _ => 0))] := hD
  refine lv_istore (lv' := [(5, .int 1), (4, .int 0), (3, .ref qo), (2, .ref qm), (1, .ref qx), (0, .ref b)]) hx hb dL_law_1420 hl (by decide) rfl (fun ls hl => ?_)
  refine lv_aload_n hx hb dL_law_1422 rfl (lv_at hl 3 rfl) ?_
  refine lv_aload_n hx hb dL_law_1423 rfl (lv_at hl 5 rfl) ?_
  refine lv_iload hx hb dL_law_1424 (lv_at hl 1 rfl) ?_
  refine lv_iconst (v := 1) hx hb dL_law_1426 (by decide) ?_
  refine lv_iadd hx hb dL_law_1427 ?_
  refine z_cst (v := 1) (by decide +kernel) ?_
  refine z_sld (v := (nI t1)) (j := 1) hx hb hX hbl hbA hS rfl (Nat.le_of_ble_eq_true rfl) v1 dL_law_1428 ?_
  refine lv_aload_n hx hb dL_law_1429 rfl (lv_at hl 5 rfl) ?_
  refine lv_iload hx hb dL_law_1430 (lv_at hl 1 rfl) ?_
  refine lv_iconst (v := 2) hx hb dL_law_1432 (by decide) ?_
  refine lv_iadd hx hb dL_law_1433 ?_
  refine z_cst (v := 2) (by decide +kernel) ?_
  refine z_sld (v := (xs 2)) (j := 2) hx hb hX hbl hbA hS rfl (Nat.le_of_ble_eq_true rfl) rfl dL_law_1434 ?_
  refine z_calli [(qm, zO 10 83 (zc71 u v))] [(qo, zJ K 1 (fun _ => 0))] [0] [1] hP hD hS hA rfl rfl (by decide +kernel) (by decide +kernel) (by decide +kernel) 125 1863522 rfl rfl (fun hPc hDc hF => z_runV (As := [.int (nI t1), .int (xs 2)]) (rest := []) ⟨hx, hb, hml, hown, hg⟩ (cX12_pass_2 l K H.size qm (zc71 u v) t1 ht1 (xs 2) (by rw [Int32.lt_iff_toInt_lt, show (0 : Int32).toInt = 0 from by decide]; omega)) kV_RL_165 hd_X12_pass rfl rfl ⟨(Nat.le_of_ble_eq_true rfl), (Nat.le_of_ble_eq_true rfl)⟩ hK hS hZ hPc hDc hF 0 rfl rfl rfl hl.1 rfl (Nat.le_of_ble_eq_true rfl) dL_law_1435 ⟨(Nat.le_of_ble_eq_true rfl), (Nat.le_of_ble_eq_true rfl)⟩) (fun r6 u4 H locs w5 hP hD hS => ?_)
  subst w5
  have hP : va_P K.1 classes [(qo, zJ K 1 (fun _ => 0)), (qm, zO 10 83 (va_up (zc71 u v) 81 (.int 1)))] H := hP
  have hD : va_D A [(qo, zJ K 1 (fun _ => 0)), (qm, zO 10 83 (va_up (zc71 u v) 81 (.int 1)))] := hD
  refine lv_istore (lv' := [(6, .int 0), (5, .int 1), (4, .int 0), (3, .ref qo), (2, .ref qm), (1, .ref qx), (0, .ref b)]) hx hb dL_law_1438 hl (by decide) rfl (fun ls hl => ?_)
  refine lv_aload_n hx hb dL_law_1440 rfl (lv_at hl 4 rfl) ?_
  refine z_calli [(qm, zO 10 83 (va_up (zc71 u v) 81 (.int 1)))] [(qo, zJ K 1 (fun _ => 0))] [1] [0] hP hD hS hA rfl rfl (by decide +kernel) (by decide +kernel) (by decide +kernel) 125 1863522 rfl rfl (fun hPc hDc hF => z_runV (As := []) (rest := []) ⟨hx, hb, hml, hown, hg⟩ (cX12_thrown_2 l K H.size qm (va_up (zc71 u v) 81 (.int 1)) zu_eq) kV_RL_104 hd_X12_thrown rfl rfl ⟨(Nat.le_of_ble_eq_true rfl), (Nat.le_of_ble_eq_true rfl)⟩ hK hS hZ hPc hDc hF 0 rfl rfl rfl hl.1 rfl (Nat.le_of_ble_eq_true rfl) dL_law_1441 ⟨(Nat.le_of_ble_eq_true rfl), (Nat.le_of_ble_eq_true rfl)⟩) (fun r9 u7 H locs w8 hP hD hS => ?_)
  subst w8
  have hP : va_P K.1 classes [(qo, zJ K 1 (fun _ => 0)), (qm, zO 10 83 (va_up (zc71 u v) 81 (.int 1)))] H := hP
  have hD : va_D A [(qo, zJ K 1 (fun _ => 0)), (qm, zO 10 83 (va_up (zc71 u v) 81 (.int 1)))] := hD
  refine lv_iload hx hb dL_law_1444 (lv_at hl 1 rfl) ?_
  refine lv_icmp_eq (tgt := 1451) hx hb dL_law_1446 (by decide) (fun _ => ?_) (fun c => absurd (by decide) c)
  refine lv_iload hx hb dL_law_1451 (lv_at hl 1 rfl) ?_
  refine lv_if_ne (tgt := 1468) hx hb dL_law_1453 (by decide) (fun _ => ?_) (fun c => absurd c (by decide))
  refine lv_goto (tgt := 2026) hx hb dL_law_1468 (by decide) ?_
  exact law_back ⟨hx, hb, hr, hml, hown, hg, hX, hbl, hlocks, hK, hZ, hl9, hAA, hA, hbA⟩ (Nat.le_of_ble_eq_true rfl) (Nat.le_of_ble_eq_true rfl) hS (lv_sub hl [2, 6] rfl)
set_option maxHeartbeats 4000000 in
set_option maxRecDepth 100000 in
theorem lawS_18_2 {p : Program} {l : Launch} {e : Env} {s : State} {m : MethodId} {below : List Frame} {meth : Method} {c : Code} {b : Nat} {xs : Nat → Int32} {K : zK} {A : Nat → Prop} {H : Heap} {locs : List Loc} {ls : Array Slot} (C : zC p l s m meth c b xs K A) (qx qm qo : Nat) (u v : Nat → Nat) (h0 : 0 ≤ (xs 1).toInt) (h1 : (xs 1).toInt < 9) (h2 : 0 ≤ (xs 2).toInt) (h3 : (xs 2).toInt < 8) (hP : va_P K.1 classes (lwW K qx qm qo u v) H) (hD : va_D A (lwW K qx qm qo u v)) (hS : va_S A s.heap H locs) (hl : lv_has ls 7 [(4, .int 0), (3, .ref qo), (2, .ref qm), (1, .ref qx), (0, .ref b)]) : W p l e room_1 s m #[Value.ref b] below meth c H locs 124 1863516 (lw_Z below #[Value.ref b] s) (F0 m 1403 ls []) := by
  obtain ⟨hx, hb, hr, hml, hown, hg, hX, hbl, hlocks, hK, hZ, hl9, hAA, hA, hbA⟩ := C
  have hP : va_P K.1 classes [(qx, zO 9 9 (zc0 u v)), ((u 8), zO 4 6 (zc9 u v)), ((u 15), zI K 8 (fun _ => 0)), (qm, zO 10 83 (zc71 u v)), ((v 13), zI K 16 (fun _ => 0)), (qo, zJ K 1 (fun _ => 0))] H := hP.sub [0, 9, 16, 71, 85, 123] rfl
  have hD : va_D A [(qx, zO 9 9 (zc0 u v)), ((u 8), zO 4 6 (zc9 u v)), ((u 15), zI K 8 (fun _ => 0)), (qm, zO 10 83 (zc71 u v)), ((v 13), zI K 16 (fun _ => 0)), (qo, zJ K 1 (fun _ => 0))] := hD.sub [0, 9, 16, 71, 85, 123] (by decide +kernel) rfl
  obtain ⟨t1, ht1, v1⟩ : ∃ j : Nat, j < 9 ∧ xs 1 = nI j := z_nat (n := 9) (by omega) (by omega) (by decide)
  obtain ⟨t2, ht2, v2⟩ : ∃ j : Nat, j < 8 ∧ xs 2 = nI j := z_nat (n := 8) (by omega) (by omega) (by decide)
  refine lv_aload_n hx hb dL_law_1403 rfl (lv_at hl 3 rfl) ?_
  refine lv_aload_n hx hb dL_law_1404 rfl (lv_at hl 4 rfl) ?_
  refine lv_iload hx hb dL_law_1405 (lv_at hl 0 rfl) ?_
  refine lv_iconst (v := 1) hx hb dL_law_1407 (by decide) ?_
  refine lv_iadd hx hb dL_law_1408 ?_
  refine z_cst (v := 1) (by decide +kernel) ?_
  refine z_sld (v := (nI t1)) (j := 1) hx hb hX hbl hbA hS rfl (Nat.le_of_ble_eq_true rfl) v1 dL_law_1409 ?_
  refine lv_aload_n hx hb dL_law_1410 rfl (lv_at hl 4 rfl) ?_
  refine lv_iload hx hb dL_law_1411 (lv_at hl 0 rfl) ?_
  refine lv_iconst (v := 2) hx hb dL_law_1413 (by decide) ?_
  refine lv_iadd hx hb dL_law_1414 ?_
  refine z_cst (v := 2) (by decide +kernel) ?_
  refine z_sld (v := (nI t2)) (j := 2) hx hb hX hbl hbA hS rfl (Nat.le_of_ble_eq_true rfl) v2 dL_law_1415 ?_
  refine lv_aload_n hx hb dL_law_1416 rfl (lv_at hl 1 rfl) ?_
  refine z_hcalli [(qx, zO 9 9 (zc0 u v)), ((u 8), zO 4 6 (zc9 u v)), ((u 15), zI K 8 (fun _ => 0))] [(qm, zO 10 83 (zc71 u v)), ((v 13), zI K 16 (fun _ => 0)), (qo, zJ K 1 (fun _ => 0))] [0, 1, 2] [3, 4, 5] hP hD hS hA rfl rfl (by decide +kernel) (by decide +kernel) (by decide +kernel) 125 1863522 rfl rfl (fun hPc hDc hF => z_xrunH (As := [.ref qx, .int (nI t1), .int (nI t2), .ref qo]) (rest := []) ⟨hx, hb, hml, hown, hg⟩ (cL_pass_3 l hl9 K H.size qx qo (u 8) (u 15) (zc0 u v) (zc9 u v) (fun _ => 0) t1 ht1 t2 ht2 (zc0_3 u v) (zc9_1 u v) (fun _ => rfl)) kS_RL_163 hd_L_pass rfl rfl ⟨(Nat.le_of_ble_eq_true rfl), (Nat.le_of_ble_eq_true rfl)⟩ hK hS hZ hPc hDc hF rfl hl.1 rfl (Nat.le_of_ble_eq_true rfl) dL_law_1417 ⟨(Nat.le_of_ble_eq_true rfl), (Nat.le_of_ble_eq_true rfl)⟩) (fun r3 u1 H locs w2 hP hD hS => ?_)
  subst w2
  have hP : va_P K.1 classes [(qm, zO 10 83 (zc71 u v)), ((v 13), zI K 16 (fun _ => 0)), (qo, zJ K 1 (fun _ => 0))] H := hP
  have hD : va_D A [(qm, zO 10 83 (zc71 u v)), ((v 13), zI K 16 (fun _ => 0)), (qo, zJ K 1 (fun _ => 0))] := hD
  refine lv_istore (lv' := [(5, .int 2), (4, .int 0), (3, .ref qo), (2, .ref qm), (1, .ref qx), (0, .ref b)]) hx hb dL_law_1420 hl (by decide) rfl (fun ls hl => ?_)
  refine lv_aload_n hx hb dL_law_1422 rfl (lv_at hl 3 rfl) ?_
  refine lv_aload_n hx hb dL_law_1423 rfl (lv_at hl 5 rfl) ?_
  refine lv_iload hx hb dL_law_1424 (lv_at hl 1 rfl) ?_
  refine lv_iconst (v := 1) hx hb dL_law_1426 (by decide) ?_
  refine lv_iadd hx hb dL_law_1427 ?_
  refine z_cst (v := 1) (by decide +kernel) ?_
  refine z_sld (v := (nI t1)) (j := 1) hx hb hX hbl hbA hS rfl (Nat.le_of_ble_eq_true rfl) v1 dL_law_1428 ?_
  refine lv_aload_n hx hb dL_law_1429 rfl (lv_at hl 5 rfl) ?_
  refine lv_iload hx hb dL_law_1430 (lv_at hl 1 rfl) ?_
  refine lv_iconst (v := 2) hx hb dL_law_1432 (by decide) ?_
  refine lv_iadd hx hb dL_law_1433 ?_
  refine z_cst (v := 2) (by decide +kernel) ?_
  refine z_sld (v := (nI t2)) (j := 2) hx hb hX hbl hbA hS rfl (Nat.le_of_ble_eq_true rfl) v2 dL_law_1434 ?_
  refine z_calli [(qm, zO 10 83 (zc71 u v)), ((v 13), zI K 16 (fun _ => 0))] [(qo, zJ K 1 (fun _ => 0))] [0, 1] [2] hP hD hS hA rfl rfl (by decide +kernel) (by decide +kernel) (by decide +kernel) 125 1863522 rfl rfl (fun hPc hDc hF => z_runV (As := [.int (nI t1), .int (nI t2)]) (rest := []) ⟨hx, hb, hml, hown, hg⟩ (cX12_pass_3 l K H.size qm (v 13) (zc71 u v) (fun _ => 0) t1 ht1 t2 ht2 (zc71_14 u v) (fun _ => rfl)) kV_RL_165 hd_X12_pass rfl rfl ⟨(Nat.le_of_ble_eq_true rfl), (Nat.le_of_ble_eq_true rfl)⟩ hK hS hZ hPc hDc hF 0 rfl rfl rfl hl.1 rfl (Nat.le_of_ble_eq_true rfl) dL_law_1435 ⟨(Nat.le_of_ble_eq_true rfl), (Nat.le_of_ble_eq_true rfl)⟩) (fun r6 u4 H locs w5 hP hD hS => ?_)
  subst w5
  have hP : va_P K.1 classes [(qo, zJ K 1 (fun _ => 0)), (qm, zO 10 83 (va_up (zc71 u v) 81 (.int 2)))] H := hP
  have hD : va_D A [(qo, zJ K 1 (fun _ => 0)), (qm, zO 10 83 (va_up (zc71 u v) 81 (.int 2)))] := hD
  refine lv_istore (lv' := [(6, .int 0), (5, .int 2), (4, .int 0), (3, .ref qo), (2, .ref qm), (1, .ref qx), (0, .ref b)]) hx hb dL_law_1438 hl (by decide) rfl (fun ls hl => ?_)
  refine lv_aload_n hx hb dL_law_1440 rfl (lv_at hl 4 rfl) ?_
  refine z_calli [(qm, zO 10 83 (va_up (zc71 u v) 81 (.int 2)))] [(qo, zJ K 1 (fun _ => 0))] [1] [0] hP hD hS hA rfl rfl (by decide +kernel) (by decide +kernel) (by decide +kernel) 125 1863522 rfl rfl (fun hPc hDc hF => z_runV (As := []) (rest := []) ⟨hx, hb, hml, hown, hg⟩ (cX12_thrown_3 l K H.size qm (va_up (zc71 u v) 81 (.int 2)) zu_eq) kV_RL_104 hd_X12_thrown rfl rfl ⟨(Nat.le_of_ble_eq_true rfl), (Nat.le_of_ble_eq_true rfl)⟩ hK hS hZ hPc hDc hF 0 rfl rfl rfl hl.1 rfl (Nat.le_of_ble_eq_true rfl) dL_law_1441 ⟨(Nat.le_of_ble_eq_true rfl), (Nat.le_of_ble_eq_true rfl)⟩) (fun r9 u7 H locs w8 hP hD hS => ?_)
  subst w8
  have hP : va_P K.1 classes [(qo, zJ K 1 (fun _ => 0)), (qm, zO 10 83 (va_up (zc71 u v) 81 (.int 2)))] H := hP
  have hD : va_D A [(qo, zJ K 1 (fun _ => 0)), (qm, zO 10 83 (va_up (zc71 u v) 81 (.int 2)))] := hD
  refine lv_iload hx hb dL_law_1444 (lv_at hl 1 rfl) ?_
  refine lv_icmp_eq (tgt := 1451) hx hb dL_law_1446 (by decide) (fun _ => ?_) (fun c => absurd (by decide) c)
  refine lv_iload hx hb dL_law_1451 (lv_at hl 1 rfl) ?_
  refine lv_if_ne (tgt := 1468) hx hb dL_law_1453 (by decide) (fun _ => ?_) (fun c => absurd c (by decide))
  refine lv_goto (tgt := 2026) hx hb dL_law_1468 (by decide) ?_
  exact law_back ⟨hx, hb, hr, hml, hown, hg, hX, hbl, hlocks, hK, hZ, hl9, hAA, hA, hbA⟩ (Nat.le_of_ble_eq_true rfl) (Nat.le_of_ble_eq_true rfl) hS (lv_sub hl [2, 6] rfl)
set_option maxHeartbeats 4000000 in
set_option maxRecDepth 100000 in
theorem lawS_18_3 {p : Program} {l : Launch} {e : Env} {s : State} {m : MethodId} {below : List Frame} {meth : Method} {c : Code} {b : Nat} {xs : Nat → Int32} {K : zK} {A : Nat → Prop} {H : Heap} {locs : List Loc} {ls : Array Slot} (C : zC p l s m meth c b xs K A) (qx qm qo : Nat) (u v : Nat → Nat) (h0 : 0 ≤ (xs 1).toInt) (h1 : (xs 1).toInt < 9) (h2 : 0 ≤ (xs 2).toInt) (h3 : 8 ≤ (xs 2).toInt) (hP : va_P K.1 classes (lwW K qx qm qo u v) H) (hD : va_D A (lwW K qx qm qo u v)) (hS : va_S A s.heap H locs) (hl : lv_has ls 7 [(4, .int 0), (3, .ref qo), (2, .ref qm), (1, .ref qx), (0, .ref b)]) : W p l e room_1 s m #[Value.ref b] below meth c H locs 124 1863516 (lw_Z below #[Value.ref b] s) (F0 m 1403 ls []) := by
  obtain ⟨hx, hb, hr, hml, hown, hg, hX, hbl, hlocks, hK, hZ, hl9, hAA, hA, hbA⟩ := C
  have hP : va_P K.1 classes [(qx, zO 9 9 (zc0 u v)), (qm, zO 10 83 (zc71 u v)), (qo, zJ K 1 (fun _ => 0))] H := hP.sub [0, 71, 123] rfl
  have hD : va_D A [(qx, zO 9 9 (zc0 u v)), (qm, zO 10 83 (zc71 u v)), (qo, zJ K 1 (fun _ => 0))] := hD.sub [0, 71, 123] (by decide +kernel) rfl
  obtain ⟨t1, ht1, v1⟩ : ∃ j : Nat, j < 9 ∧ xs 1 = nI j := z_nat (n := 9) (by omega) (by omega) (by decide)
  refine lv_aload_n hx hb dL_law_1403 rfl (lv_at hl 3 rfl) ?_
  refine lv_aload_n hx hb dL_law_1404 rfl (lv_at hl 4 rfl) ?_
  refine lv_iload hx hb dL_law_1405 (lv_at hl 0 rfl) ?_
  refine lv_iconst (v := 1) hx hb dL_law_1407 (by decide) ?_
  refine lv_iadd hx hb dL_law_1408 ?_
  refine z_cst (v := 1) (by decide +kernel) ?_
  refine z_sld (v := (nI t1)) (j := 1) hx hb hX hbl hbA hS rfl (Nat.le_of_ble_eq_true rfl) v1 dL_law_1409 ?_
  refine lv_aload_n hx hb dL_law_1410 rfl (lv_at hl 4 rfl) ?_
  refine lv_iload hx hb dL_law_1411 (lv_at hl 0 rfl) ?_
  refine lv_iconst (v := 2) hx hb dL_law_1413 (by decide) ?_
  refine lv_iadd hx hb dL_law_1414 ?_
  refine z_cst (v := 2) (by decide +kernel) ?_
  refine z_sld (v := (xs 2)) (j := 2) hx hb hX hbl hbA hS rfl (Nat.le_of_ble_eq_true rfl) rfl dL_law_1415 ?_
  refine lv_aload_n hx hb dL_law_1416 rfl (lv_at hl 1 rfl) ?_
  refine z_hcalli [(qx, zO 9 9 (zc0 u v))] [(qm, zO 10 83 (zc71 u v)), (qo, zJ K 1 (fun _ => 0))] [0] [1, 2] hP hD hS hA rfl rfl (by decide +kernel) (by decide +kernel) (by decide +kernel) 125 1863522 rfl rfl (fun hPc hDc hF => z_xrunH (As := [.ref qx, .int (nI t1), .int (xs 2), .ref qo]) (rest := []) ⟨hx, hb, hml, hown, hg⟩ (cL_pass_4 l hl9 K H.size qx qo (zc0 u v) t1 ht1 (xs 2) (by rw [Int32.lt_iff_toInt_lt, show (0 : Int32).toInt = 0 from by decide]; omega) (by rw [Int32.lt_iff_toInt_lt, show (8 : Int32).toInt = 8 from by decide]; omega)) kS_RL_163 hd_L_pass rfl rfl ⟨(Nat.le_of_ble_eq_true rfl), (Nat.le_of_ble_eq_true rfl)⟩ hK hS hZ hPc hDc hF rfl hl.1 rfl (Nat.le_of_ble_eq_true rfl) dL_law_1417 ⟨(Nat.le_of_ble_eq_true rfl), (Nat.le_of_ble_eq_true rfl)⟩) (fun r3 u1 H locs w2 hP hD hS => ?_)
  subst w2
  have hP : va_P K.1 classes [(qm, zO 10 83 (zc71 u v)), (qo, zJ K 1 (fun _ => 0))] H := hP
  have hD : va_D A [(qm, zO 10 83 (zc71 u v)), (qo, zJ K 1 (fun _ => 0))] := hD
  refine lv_istore (lv' := [(5, .int 1), (4, .int 0), (3, .ref qo), (2, .ref qm), (1, .ref qx), (0, .ref b)]) hx hb dL_law_1420 hl (by decide) rfl (fun ls hl => ?_)
  refine lv_aload_n hx hb dL_law_1422 rfl (lv_at hl 3 rfl) ?_
  refine lv_aload_n hx hb dL_law_1423 rfl (lv_at hl 5 rfl) ?_
  refine lv_iload hx hb dL_law_1424 (lv_at hl 1 rfl) ?_
  refine lv_iconst (v := 1) hx hb dL_law_1426 (by decide) ?_
  refine lv_iadd hx hb dL_law_1427 ?_
  refine z_cst (v := 1) (by decide +kernel) ?_
  refine z_sld (v := (nI t1)) (j := 1) hx hb hX hbl hbA hS rfl (Nat.le_of_ble_eq_true rfl) v1 dL_law_1428 ?_
  refine lv_aload_n hx hb dL_law_1429 rfl (lv_at hl 5 rfl) ?_
  refine lv_iload hx hb dL_law_1430 (lv_at hl 1 rfl) ?_
  refine lv_iconst (v := 2) hx hb dL_law_1432 (by decide) ?_
  refine lv_iadd hx hb dL_law_1433 ?_
  refine z_cst (v := 2) (by decide +kernel) ?_
  refine z_sld (v := (xs 2)) (j := 2) hx hb hX hbl hbA hS rfl (Nat.le_of_ble_eq_true rfl) rfl dL_law_1434 ?_
  refine z_calli [(qm, zO 10 83 (zc71 u v))] [(qo, zJ K 1 (fun _ => 0))] [0] [1] hP hD hS hA rfl rfl (by decide +kernel) (by decide +kernel) (by decide +kernel) 125 1863522 rfl rfl (fun hPc hDc hF => z_runV (As := [.int (nI t1), .int (xs 2)]) (rest := []) ⟨hx, hb, hml, hown, hg⟩ (cX12_pass_4 l K H.size qm (zc71 u v) t1 ht1 (xs 2) (by rw [Int32.lt_iff_toInt_lt, show (0 : Int32).toInt = 0 from by decide]; omega) (by rw [Int32.lt_iff_toInt_lt, show (7 : Int32).toInt = 7 from by decide]; omega)) kV_RL_165 hd_X12_pass rfl rfl ⟨(Nat.le_of_ble_eq_true rfl), (Nat.le_of_ble_eq_true rfl)⟩ hK hS hZ hPc hDc hF 0 rfl rfl rfl hl.1 rfl (Nat.le_of_ble_eq_true rfl) dL_law_1435 ⟨(Nat.le_of_ble_eq_true rfl), (Nat.le_of_ble_eq_true rfl)⟩) (fun r6 u4 H locs w5 hP hD hS => ?_)
  subst w5
  have hP : va_P K.1 classes [(qo, zJ K 1 (fun _ => 0)), (qm, zO 10 83 (va_up (zc71 u v) 81 (.int 1)))] H := hP
  have hD : va_D A [(qo, zJ K 1 (fun _ => 0)), (qm, zO 10 83 (va_up (zc71 u v) 81 (.int 1)))] := hD
  refine lv_istore (lv' := [(6, .int 0), (5, .int 1), (4, .int 0), (3, .ref qo), (2, .ref qm), (1, .ref qx), (0, .ref b)]) hx hb dL_law_1438 hl (by decide) rfl (fun ls hl => ?_)
  refine lv_aload_n hx hb dL_law_1440 rfl (lv_at hl 4 rfl) ?_
  refine z_calli [(qm, zO 10 83 (va_up (zc71 u v) 81 (.int 1)))] [(qo, zJ K 1 (fun _ => 0))] [1] [0] hP hD hS hA rfl rfl (by decide +kernel) (by decide +kernel) (by decide +kernel) 125 1863522 rfl rfl (fun hPc hDc hF => z_runV (As := []) (rest := []) ⟨hx, hb, hml, hown, hg⟩ (cX12_thrown_2 l K H.size qm (va_up (zc71 u v) 81 (.int 1)) zu_eq) kV_RL_104 hd_X12_thrown rfl rfl ⟨(Nat.le_of_ble_eq_true rfl), (Nat.le_of_ble_eq_true rfl)⟩ hK hS hZ hPc hDc hF 0 rfl rfl rfl hl.1 rfl (Nat.le_of_ble_eq_true rfl) dL_law_1441 ⟨(Nat.le_of_ble_eq_true rfl), (Nat.le_of_ble_eq_true rfl)⟩) (fun r9 u7 H locs w8 hP hD hS => ?_)
  subst w8
  have hP : va_P K.1 classes [(qo, zJ K 1 (fun _ => 0)), (qm, zO 10 83 (va_up (zc71 u v) 81 (.int 1)))] H := hP
  have hD : va_D A [(qo, zJ K 1 (fun _ => 0)), (qm, zO 10 83 (va_up (zc71 u v) 81 (.int 1)))] := hD
  refine lv_iload hx hb dL_law_1444 (lv_at hl 1 rfl) ?_
  refine lv_icmp_eq (tgt := 1451) hx hb dL_law_1446 (by decide) (fun _ => ?_) (fun c => absurd (by decide) c)
  refine lv_iload hx hb dL_law_1451 (lv_at hl 1 rfl) ?_
  refine lv_if_ne (tgt := 1468) hx hb dL_law_1453 (by decide) (fun _ => ?_) (fun c => absurd c (by decide))
  refine lv_goto (tgt := 2026) hx hb dL_law_1468 (by decide) ?_
  exact law_back ⟨hx, hb, hr, hml, hown, hg, hX, hbl, hlocks, hK, hZ, hl9, hAA, hA, hbA⟩ (Nat.le_of_ble_eq_true rfl) (Nat.le_of_ble_eq_true rfl) hS (lv_sub hl [2, 6] rfl)
set_option maxHeartbeats 4000000 in
set_option maxRecDepth 100000 in
theorem lawS_18_4 {p : Program} {l : Launch} {e : Env} {s : State} {m : MethodId} {below : List Frame} {meth : Method} {c : Code} {b : Nat} {xs : Nat → Int32} {K : zK} {A : Nat → Prop} {H : Heap} {locs : List Loc} {ls : Array Slot} (C : zC p l s m meth c b xs K A) (qx qm qo : Nat) (u v : Nat → Nat) (h0 : 0 ≤ (xs 1).toInt) (h1 : 9 ≤ (xs 1).toInt) (hP : va_P K.1 classes (lwW K qx qm qo u v) H) (hD : va_D A (lwW K qx qm qo u v)) (hS : va_S A s.heap H locs) (hl : lv_has ls 7 [(4, .int 0), (3, .ref qo), (2, .ref qm), (1, .ref qx), (0, .ref b)]) : W p l e room_1 s m #[Value.ref b] below meth c H locs 124 1863516 (lw_Z below #[Value.ref b] s) (F0 m 1403 ls []) := by
  obtain ⟨hx, hb, hr, hml, hown, hg, hX, hbl, hlocks, hK, hZ, hl9, hAA, hA, hbA⟩ := C
  have hP : va_P K.1 classes [(qx, zO 9 9 (zc0 u v)), (qm, zO 10 83 (zc71 u v)), (qo, zJ K 1 (fun _ => 0))] H := hP.sub [0, 71, 123] rfl
  have hD : va_D A [(qx, zO 9 9 (zc0 u v)), (qm, zO 10 83 (zc71 u v)), (qo, zJ K 1 (fun _ => 0))] := hD.sub [0, 71, 123] (by decide +kernel) rfl
  refine lv_aload_n hx hb dL_law_1403 rfl (lv_at hl 3 rfl) ?_
  refine lv_aload_n hx hb dL_law_1404 rfl (lv_at hl 4 rfl) ?_
  refine lv_iload hx hb dL_law_1405 (lv_at hl 0 rfl) ?_
  refine lv_iconst (v := 1) hx hb dL_law_1407 (by decide) ?_
  refine lv_iadd hx hb dL_law_1408 ?_
  refine z_cst (v := 1) (by decide +kernel) ?_
  refine z_sld (v := (xs 1)) (j := 1) hx hb hX hbl hbA hS rfl (Nat.le_of_ble_eq_true rfl) rfl dL_law_1409 ?_
  refine lv_aload_n hx hb dL_law_1410 rfl (lv_at hl 4 rfl) ?_
  refine lv_iload hx hb dL_law_1411 (lv_at hl 0 rfl) ?_
  refine lv_iconst (v := 2) hx hb dL_law_1413 (by decide) ?_
  refine lv_iadd hx hb dL_law_1414 ?_
  refine z_cst (v := 2) (by decide +kernel) ?_
  refine z_sld (v := (xs 2)) (j := 2) hx hb hX hbl hbA hS rfl (Nat.le_of_ble_eq_true rfl) rfl dL_law_1415 ?_
  refine lv_aload_n hx hb dL_law_1416 rfl (lv_at hl 1 rfl) ?_
  refine z_hcalli [(qx, zO 9 9 (zc0 u v))] [(qm, zO 10 83 (zc71 u v)), (qo, zJ K 1 (fun _ => 0))] [0] [1, 2] hP hD hS hA rfl rfl (by decide +kernel) (by decide +kernel) (by decide +kernel) 125 1863522 rfl rfl (fun hPc hDc hF => z_xrunH (As := [.ref qx, .int (xs 1), .int (xs 2), .ref qo]) (rest := []) ⟨hx, hb, hml, hown, hg⟩ (cL_pass_5 l hl9 K H.size qx qo (zc0 u v) (xs 1) (xs 2) (by rw [Int32.lt_iff_toInt_lt, show (0 : Int32).toInt = 0 from by decide]; omega) (by rw [Int32.lt_iff_toInt_lt, show (9 : Int32).toInt = 9 from by decide]; omega)) kS_RL_163 hd_L_pass rfl rfl ⟨(Nat.le_of_ble_eq_true rfl), (Nat.le_of_ble_eq_true rfl)⟩ hK hS hZ hPc hDc hF rfl hl.1 rfl (Nat.le_of_ble_eq_true rfl) dL_law_1417 ⟨(Nat.le_of_ble_eq_true rfl), (Nat.le_of_ble_eq_true rfl)⟩) (fun r3 u1 H locs w2 hP hD hS => ?_)
  subst w2
  have hP : va_P K.1 classes [(qm, zO 10 83 (zc71 u v)), (qo, zJ K 1 (fun _ => 0))] H := hP
  have hD : va_D A [(qm, zO 10 83 (zc71 u v)), (qo, zJ K 1 (fun _ => 0))] := hD
  refine lv_istore (lv' := [(5, .int 1), (4, .int 0), (3, .ref qo), (2, .ref qm), (1, .ref qx), (0, .ref b)]) hx hb dL_law_1420 hl (by decide) rfl (fun ls hl => ?_)
  refine lv_aload_n hx hb dL_law_1422 rfl (lv_at hl 3 rfl) ?_
  refine lv_aload_n hx hb dL_law_1423 rfl (lv_at hl 5 rfl) ?_
  refine lv_iload hx hb dL_law_1424 (lv_at hl 1 rfl) ?_
  refine lv_iconst (v := 1) hx hb dL_law_1426 (by decide) ?_
  refine lv_iadd hx hb dL_law_1427 ?_
  refine z_cst (v := 1) (by decide +kernel) ?_
  refine z_sld (v := (xs 1)) (j := 1) hx hb hX hbl hbA hS rfl (Nat.le_of_ble_eq_true rfl) rfl dL_law_1428 ?_
  refine lv_aload_n hx hb dL_law_1429 rfl (lv_at hl 5 rfl) ?_
  refine lv_iload hx hb dL_law_1430 (lv_at hl 1 rfl) ?_
  refine lv_iconst (v := 2) hx hb dL_law_1432 (by decide) ?_
  refine lv_iadd hx hb dL_law_1433 ?_
  refine z_cst (v := 2) (by decide +kernel) ?_
  refine z_sld (v := (xs 2)) (j := 2) hx hb hX hbl hbA hS rfl (Nat.le_of_ble_eq_true rfl) rfl dL_law_1434 ?_
  refine z_calli [(qm, zO 10 83 (zc71 u v))] [(qo, zJ K 1 (fun _ => 0))] [0] [1] hP hD hS hA rfl rfl (by decide +kernel) (by decide +kernel) (by decide +kernel) 125 1863522 rfl rfl (fun hPc hDc hF => z_runV (As := [.int (xs 1), .int (xs 2)]) (rest := []) ⟨hx, hb, hml, hown, hg⟩ (cX12_pass_5 l K H.size qm (zc71 u v) (xs 1) (xs 2) (by rw [Int32.lt_iff_toInt_lt, show (0 : Int32).toInt = 0 from by decide]; omega) (by rw [Int32.lt_iff_toInt_lt, show (8 : Int32).toInt = 8 from by decide]; omega)) kV_RL_165 hd_X12_pass rfl rfl ⟨(Nat.le_of_ble_eq_true rfl), (Nat.le_of_ble_eq_true rfl)⟩ hK hS hZ hPc hDc hF 0 rfl rfl rfl hl.1 rfl (Nat.le_of_ble_eq_true rfl) dL_law_1435 ⟨(Nat.le_of_ble_eq_true rfl), (Nat.le_of_ble_eq_true rfl)⟩) (fun r6 u4 H locs w5 hP hD hS => ?_)
  subst w5
  have hP : va_P K.1 classes [(qo, zJ K 1 (fun _ => 0)), (qm, zO 10 83 (va_up (zc71 u v) 81 (.int 1)))] H := hP
  have hD : va_D A [(qo, zJ K 1 (fun _ => 0)), (qm, zO 10 83 (va_up (zc71 u v) 81 (.int 1)))] := hD
  refine lv_istore (lv' := [(6, .int 0), (5, .int 1), (4, .int 0), (3, .ref qo), (2, .ref qm), (1, .ref qx), (0, .ref b)]) hx hb dL_law_1438 hl (by decide) rfl (fun ls hl => ?_)
  refine lv_aload_n hx hb dL_law_1440 rfl (lv_at hl 4 rfl) ?_
  refine z_calli [(qm, zO 10 83 (va_up (zc71 u v) 81 (.int 1)))] [(qo, zJ K 1 (fun _ => 0))] [1] [0] hP hD hS hA rfl rfl (by decide +kernel) (by decide +kernel) (by decide +kernel) 125 1863522 rfl rfl (fun hPc hDc hF => z_runV (As := []) (rest := []) ⟨hx, hb, hml, hown, hg⟩ (cX12_thrown_2 l K H.size qm (va_up (zc71 u v) 81 (.int 1)) zu_eq) kV_RL_104 hd_X12_thrown rfl rfl ⟨(Nat.le_of_ble_eq_true rfl), (Nat.le_of_ble_eq_true rfl)⟩ hK hS hZ hPc hDc hF 0 rfl rfl rfl hl.1 rfl (Nat.le_of_ble_eq_true rfl) dL_law_1441 ⟨(Nat.le_of_ble_eq_true rfl), (Nat.le_of_ble_eq_true rfl)⟩) (fun r9 u7 H locs w8 hP hD hS => ?_)
  subst w8
  have hP : va_P K.1 classes [(qo, zJ K 1 (fun _ => 0)), (qm, zO 10 83 (va_up (zc71 u v) 81 (.int 1)))] H := hP
  have hD : va_D A [(qo, zJ K 1 (fun _ => 0)), (qm, zO 10 83 (va_up (zc71 u v) 81 (.int 1)))] := hD
  refine lv_iload hx hb dL_law_1444 (lv_at hl 1 rfl) ?_
  refine lv_icmp_eq (tgt := 1451) hx hb dL_law_1446 (by decide) (fun _ => ?_) (fun c => absurd (by decide) c)
  refine lv_iload hx hb dL_law_1451 (lv_at hl 1 rfl) ?_
  refine lv_if_ne (tgt := 1468) hx hb dL_law_1453 (by decide) (fun _ => ?_) (fun c => absurd c (by decide))
  refine lv_goto (tgt := 2026) hx hb dL_law_1468 (by decide) ?_
  exact law_back ⟨hx, hb, hr, hml, hown, hg, hX, hbl, hlocks, hK, hZ, hl9, hAA, hA, hbA⟩ (Nat.le_of_ble_eq_true rfl) (Nat.le_of_ble_eq_true rfl) hS (lv_sub hl [2, 6] rfl)
theorem lawC_18 {p : Program} {l : Launch} {e : Env} {s : State} {m : MethodId} {below : List Frame} {meth : Method} {c : Code} {b : Nat} {xs : Nat → Int32} {K : zK} {A : Nat → Prop} {H : Heap} {locs : List Loc} {ls : Array Slot} (C : zC p l s m meth c b xs K A) (qx qm qo : Nat) (u v : Nat → Nat) (hP : va_P K.1 classes (lwW K qx qm qo u v) H) (hD : va_D A (lwW K qx qm qo u v)) (hS : va_S A s.heap H locs) (hl : lv_has ls 7 [(4, .int 0), (3, .ref qo), (2, .ref qm), (1, .ref qx), (0, .ref b)]) : W p l e room_1 s m #[Value.ref b] below meth c H locs 124 1863516 (lw_Z below #[Value.ref b] s) (F0 m 1403 ls []) := by
  rcases z_split (xs 1) (0) with h0 | h0
  · exact lawS_18_0 C qx qm qo u v h0 hP hD hS hl
  · rcases z_split (xs 1) (9) with h1 | h1
    · rcases z_split (xs 2) (0) with h2 | h2
      · exact lawS_18_1 C qx qm qo u v h0 h1 h2 hP hD hS hl
      · rcases z_split (xs 2) (8) with h3 | h3
        · exact lawS_18_2 C qx qm qo u v h0 h1 h2 h3 hP hD hS hl
        · exact lawS_18_3 C qx qm qo u v h0 h1 h2 h3 hP hD hS hl
    · exact lawS_18_4 C qx qm qo u v h0 h1 hP hD hS hl
set_option maxHeartbeats 4000000 in
set_option maxRecDepth 100000 in
theorem lawS_19_0 {p : Program} {l : Launch} {e : Env} {s : State} {m : MethodId} {below : List Frame} {meth : Method} {c : Code} {b : Nat} {xs : Nat → Int32} {K : zK} {A : Nat → Prop} {H : Heap} {locs : List Loc} {ls : Array Slot} (C : zC p l s m meth c b xs K A) (qx qm qo : Nat) (u v : Nat → Nat) (h0 : xs 6 = 0) (h1 : (xs 5).toInt < 0) (h2 : (xs 1).toInt < 0) (hP : va_P K.1 classes (lwW K qx qm qo u v) H) (hD : va_D A (lwW K qx qm qo u v)) (hS : va_S A s.heap H locs) (hl : lv_has ls 7 [(4, .int 0), (3, .ref qo), (2, .ref qm), (1, .ref qx), (0, .ref b)]) : W p l e room_1 s m #[Value.ref b] below meth c H locs 124 1863516 (lw_Z below #[Value.ref b] s) (F0 m 1471 ls []) := by
  obtain ⟨hx, hb, hr, hml, hown, hg, hX, hbl, hlocks, hK, hZ, hl9, hAA, hA, hbA⟩ := C
  have hP : va_P K.1 classes [(qx, zO 9 9 (zc0 u v)), (qm, zO 10 83 (zc71 u v)), (qo, zJ K 1 (fun _ => 0))] H := hP.sub [0, 71, 123] rfl
  have hD : va_D A [(qx, zO 9 9 (zc0 u v)), (qm, zO 10 83 (zc71 u v)), (qo, zJ K 1 (fun _ => 0))] := hD.sub [0, 71, 123] (by decide +kernel) rfl
  refine lv_aload_n hx hb dL_law_1471 rfl (lv_at hl 3 rfl) ?_
  refine lv_aload_n hx hb dL_law_1472 rfl (lv_at hl 4 rfl) ?_
  refine lv_iload hx hb dL_law_1473 (lv_at hl 0 rfl) ?_
  refine lv_iconst (v := 1) hx hb dL_law_1475 (by decide) ?_
  refine lv_iadd hx hb dL_law_1476 ?_
  refine z_cst (v := 1) (by decide +kernel) ?_
  refine z_sld (v := (xs 1)) (j := 1) hx hb hX hbl hbA hS rfl (Nat.le_of_ble_eq_true rfl) rfl dL_law_1477 ?_
  refine lv_aload_n hx hb dL_law_1478 rfl (lv_at hl 4 rfl) ?_
  refine lv_iload hx hb dL_law_1479 (lv_at hl 0 rfl) ?_
  refine lv_iconst (v := 2) hx hb dL_law_1481 (by decide) ?_
  refine lv_iadd hx hb dL_law_1482 ?_
  refine z_cst (v := 2) (by decide +kernel) ?_
  refine z_sld (v := (xs 2)) (j := 2) hx hb hX hbl hbA hS rfl (Nat.le_of_ble_eq_true rfl) rfl dL_law_1483 ?_
  refine lv_aload_n hx hb dL_law_1484 rfl (lv_at hl 4 rfl) ?_
  refine lv_iload hx hb dL_law_1485 (lv_at hl 0 rfl) ?_
  refine lv_iconst (v := 3) hx hb dL_law_1487 (by decide) ?_
  refine lv_iadd hx hb dL_law_1488 ?_
  refine z_cst (v := 3) (by decide +kernel) ?_
  refine z_sld (v := (xs 3)) (j := 3) hx hb hX hbl hbA hS rfl (Nat.le_of_ble_eq_true rfl) rfl dL_law_1489 ?_
  refine lv_aload_n hx hb dL_law_1490 rfl (lv_at hl 4 rfl) ?_
  refine lv_iload hx hb dL_law_1491 (lv_at hl 0 rfl) ?_
  refine lv_iconst (v := 4) hx hb dL_law_1493 (by decide) ?_
  refine lv_iadd hx hb dL_law_1494 ?_
  refine z_cst (v := 4) (by decide +kernel) ?_
  refine z_sld (v := (xs 4)) (j := 4) hx hb hX hbl hbA hS rfl (Nat.le_of_ble_eq_true rfl) rfl dL_law_1495 ?_
  refine lv_aload_n hx hb dL_law_1496 rfl (lv_at hl 4 rfl) ?_
  refine lv_iload hx hb dL_law_1497 (lv_at hl 0 rfl) ?_
  refine lv_iconst (v := 5) hx hb dL_law_1499 (by decide) ?_
  refine lv_iadd hx hb dL_law_1500 ?_
  refine z_cst (v := 5) (by decide +kernel) ?_
  refine z_sld (v := (xs 5)) (j := 5) hx hb hX hbl hbA hS rfl (Nat.le_of_ble_eq_true rfl) rfl dL_law_1501 ?_
  refine lv_aload_n hx hb dL_law_1502 rfl (lv_at hl 4 rfl) ?_
  refine lv_iload hx hb dL_law_1503 (lv_at hl 0 rfl) ?_
  refine lv_bipush (v := 6) hx hb dL_law_1505 (by decide) ?_
  refine lv_iadd hx hb dL_law_1507 ?_
  refine z_cst (v := 6) (by decide +kernel) ?_
  refine z_sld (v := 0) (j := 6) hx hb hX hbl hbA hS rfl (Nat.le_of_ble_eq_true rfl) h0 dL_law_1508 ?_
  refine lv_if_eq (tgt := 1516) hx hb dL_law_1509 (by decide) (fun _ => ?_) (fun c => absurd (by decide) c)
  refine lv_iconst (v := 0) hx hb dL_law_1516 (by decide) ?_
  refine lv_aload_n hx hb dL_law_1517 rfl (lv_at hl 1 rfl) ?_
  refine z_hcalli [(qx, zO 9 9 (zc0 u v))] [(qm, zO 10 83 (zc71 u v)), (qo, zJ K 1 (fun _ => 0))] [0] [1, 2] hP hD hS hA rfl rfl (by decide +kernel) (by decide +kernel) (by decide +kernel) 125 1863522 rfl rfl (fun hPc hDc hF => z_xrunH (As := [.ref qx, .int (xs 1), .int (xs 2), .int (xs 3), .int (xs 4), .int (xs 5), .int 0, .ref qo]) (rest := []) ⟨hx, hb, hml, hown, hg⟩ (cL_run_1 l hl9 K H.size qx qo (zc0 u v) (xs 1) (xs 2) (xs 3) (xs 4) (xs 5) (by rw [Int32.lt_iff_toInt_lt, show (0 : Int32).toInt = 0 from by decide]; omega)) kS_RL_166 hd_L_run rfl rfl ⟨(Nat.le_of_ble_eq_true rfl), (Nat.le_of_ble_eq_true rfl)⟩ hK hS hZ hPc hDc hF rfl hl.1 rfl (Nat.le_of_ble_eq_true rfl) dL_law_1518 ⟨(Nat.le_of_ble_eq_true rfl), (Nat.le_of_ble_eq_true rfl)⟩) (fun r3 u1 H locs w2 hP hD hS => ?_)
  subst w2
  have hP : va_P K.1 classes [(qm, zO 10 83 (zc71 u v)), (qo, zJ K 1 (fun _ => 0))] H := hP
  have hD : va_D A [(qm, zO 10 83 (zc71 u v)), (qo, zJ K 1 (fun _ => 0))] := hD
  refine lv_istore (lv' := [(5, .int 1), (4, .int 0), (3, .ref qo), (2, .ref qm), (1, .ref qx), (0, .ref b)]) hx hb dL_law_1521 hl (by decide) rfl (fun ls hl => ?_)
  refine lv_aload_n hx hb dL_law_1523 rfl (lv_at hl 3 rfl) ?_
  refine lv_aload_n hx hb dL_law_1524 rfl (lv_at hl 5 rfl) ?_
  refine lv_iload hx hb dL_law_1525 (lv_at hl 1 rfl) ?_
  refine lv_iconst (v := 1) hx hb dL_law_1527 (by decide) ?_
  refine lv_iadd hx hb dL_law_1528 ?_
  refine z_cst (v := 1) (by decide +kernel) ?_
  refine z_sld (v := (xs 1)) (j := 1) hx hb hX hbl hbA hS rfl (Nat.le_of_ble_eq_true rfl) rfl dL_law_1529 ?_
  refine lv_aload_n hx hb dL_law_1530 rfl (lv_at hl 5 rfl) ?_
  refine lv_iload hx hb dL_law_1531 (lv_at hl 1 rfl) ?_
  refine lv_iconst (v := 2) hx hb dL_law_1533 (by decide) ?_
  refine lv_iadd hx hb dL_law_1534 ?_
  refine z_cst (v := 2) (by decide +kernel) ?_
  refine z_sld (v := (xs 2)) (j := 2) hx hb hX hbl hbA hS rfl (Nat.le_of_ble_eq_true rfl) rfl dL_law_1535 ?_
  refine lv_aload_n hx hb dL_law_1536 rfl (lv_at hl 5 rfl) ?_
  refine lv_iload hx hb dL_law_1537 (lv_at hl 1 rfl) ?_
  refine lv_iconst (v := 3) hx hb dL_law_1539 (by decide) ?_
  refine lv_iadd hx hb dL_law_1540 ?_
  refine z_cst (v := 3) (by decide +kernel) ?_
  refine z_sld (v := (xs 3)) (j := 3) hx hb hX hbl hbA hS rfl (Nat.le_of_ble_eq_true rfl) rfl dL_law_1541 ?_
  refine lv_aload_n hx hb dL_law_1542 rfl (lv_at hl 5 rfl) ?_
  refine lv_iload hx hb dL_law_1543 (lv_at hl 1 rfl) ?_
  refine lv_iconst (v := 4) hx hb dL_law_1545 (by decide) ?_
  refine lv_iadd hx hb dL_law_1546 ?_
  refine z_cst (v := 4) (by decide +kernel) ?_
  refine z_sld (v := (xs 4)) (j := 4) hx hb hX hbl hbA hS rfl (Nat.le_of_ble_eq_true rfl) rfl dL_law_1547 ?_
  refine lv_aload_n hx hb dL_law_1548 rfl (lv_at hl 5 rfl) ?_
  refine lv_iload hx hb dL_law_1549 (lv_at hl 1 rfl) ?_
  refine lv_iconst (v := 5) hx hb dL_law_1551 (by decide) ?_
  refine lv_iadd hx hb dL_law_1552 ?_
  refine z_cst (v := 5) (by decide +kernel) ?_
  refine z_sld (v := (xs 5)) (j := 5) hx hb hX hbl hbA hS rfl (Nat.le_of_ble_eq_true rfl) rfl dL_law_1553 ?_
  refine lv_aload_n hx hb dL_law_1554 rfl (lv_at hl 5 rfl) ?_
  refine lv_iload hx hb dL_law_1555 (lv_at hl 1 rfl) ?_
  refine lv_bipush (v := 6) hx hb dL_law_1557 (by decide) ?_
  refine lv_iadd hx hb dL_law_1559 ?_
  refine z_cst (v := 6) (by decide +kernel) ?_
  refine z_sld (v := 0) (j := 6) hx hb hX hbl hbA hS rfl (Nat.le_of_ble_eq_true rfl) h0 dL_law_1560 ?_
  refine lv_if_eq (tgt := 1568) hx hb dL_law_1561 (by decide) (fun _ => ?_) (fun c => absurd (by decide) c)
  refine lv_iconst (v := 0) hx hb dL_law_1568 (by decide) ?_
  refine z_calli [(qm, zO 10 83 (zc71 u v))] [(qo, zJ K 1 (fun _ => 0))] [0] [1] hP hD hS hA rfl rfl (by decide +kernel) (by decide +kernel) (by decide +kernel) 125 1863522 rfl rfl (fun hPc hDc hF => z_runV (As := [.int (xs 1), .int (xs 2), .int (xs 3), .int (xs 4), .int (xs 5), .int 0]) (rest := []) ⟨hx, hb, hml, hown, hg⟩ (cX12_run_1 l K H.size qm (zc71 u v) (xs 1) (xs 2) (xs 3) (xs 4) (xs 5) (by rw [Int32.lt_iff_toInt_lt, show (0 : Int32).toInt = 0 from by decide]; omega) (by rw [Int32.lt_iff_toInt_lt, show (0 : Int32).toInt = 0 from by decide]; omega)) kV_RL_169 hd_X12_run rfl rfl ⟨(Nat.le_of_ble_eq_true rfl), (Nat.le_of_ble_eq_true rfl)⟩ hK hS hZ hPc hDc hF 0 rfl rfl rfl hl.1 rfl (Nat.le_of_ble_eq_true rfl) dL_law_1569 ⟨(Nat.le_of_ble_eq_true rfl), (Nat.le_of_ble_eq_true rfl)⟩) (fun r6 u4 H locs w5 hP hD hS => ?_)
  subst w5
  have hP : va_P K.1 classes [(qo, zJ K 1 (fun _ => 0)), (qm, zO 10 83 (va_up (zc71 u v) 81 (.int 1)))] H := hP
  have hD : va_D A [(qo, zJ K 1 (fun _ => 0)), (qm, zO 10 83 (va_up (zc71 u v) 81 (.int 1)))] := hD
  refine lv_istore (lv' := [(6, .int 0), (5, .int 1), (4, .int 0), (3, .ref qo), (2, .ref qm), (1, .ref qx), (0, .ref b)]) hx hb dL_law_1572 hl (by decide) rfl (fun ls hl => ?_)
  refine lv_aload_n hx hb dL_law_1574 rfl (lv_at hl 4 rfl) ?_
  refine z_calli [(qm, zO 10 83 (va_up (zc71 u v) 81 (.int 1)))] [(qo, zJ K 1 (fun _ => 0))] [1] [0] hP hD hS hA rfl rfl (by decide +kernel) (by decide +kernel) (by decide +kernel) 125 1863522 rfl rfl (fun hPc hDc hF => z_runV (As := []) (rest := []) ⟨hx, hb, hml, hown, hg⟩ (cX12_thrown_2 l K H.size qm (va_up (zc71 u v) 81 (.int 1)) zu_eq) kV_RL_104 hd_X12_thrown rfl rfl ⟨(Nat.le_of_ble_eq_true rfl), (Nat.le_of_ble_eq_true rfl)⟩ hK hS hZ hPc hDc hF 0 rfl rfl rfl hl.1 rfl (Nat.le_of_ble_eq_true rfl) dL_law_1575 ⟨(Nat.le_of_ble_eq_true rfl), (Nat.le_of_ble_eq_true rfl)⟩) (fun r9 u7 H locs w8 hP hD hS => ?_)
  subst w8
  have hP : va_P K.1 classes [(qo, zJ K 1 (fun _ => 0)), (qm, zO 10 83 (va_up (zc71 u v) 81 (.int 1)))] H := hP
  have hD : va_D A [(qo, zJ K 1 (fun _ => 0)), (qm, zO 10 83 (va_up (zc71 u v) 81 (.int 1)))] := hD
  refine lv_iload hx hb dL_law_1578 (lv_at hl 1 rfl) ?_
  refine lv_icmp_eq (tgt := 1585) hx hb dL_law_1580 (by decide) (fun _ => ?_) (fun c => absurd (by decide) c)
  refine lv_iload hx hb dL_law_1585 (lv_at hl 1 rfl) ?_
  refine lv_if_ne (tgt := 1602) hx hb dL_law_1587 (by decide) (fun _ => ?_) (fun c => absurd c (by decide))
  refine lv_goto (tgt := 2026) hx hb dL_law_1602 (by decide) ?_
  exact law_back ⟨hx, hb, hr, hml, hown, hg, hX, hbl, hlocks, hK, hZ, hl9, hAA, hA, hbA⟩ (Nat.le_of_ble_eq_true rfl) (Nat.le_of_ble_eq_true rfl) hS (lv_sub hl [2, 6] rfl)
set_option maxHeartbeats 4000000 in
set_option maxRecDepth 100000 in
theorem lawS_19_1 {p : Program} {l : Launch} {e : Env} {s : State} {m : MethodId} {below : List Frame} {meth : Method} {c : Code} {b : Nat} {xs : Nat → Int32} {K : zK} {A : Nat → Prop} {H : Heap} {locs : List Loc} {ls : Array Slot} (C : zC p l s m meth c b xs K A) (qx qm qo : Nat) (u v : Nat → Nat) (h0 : xs 6 = 0) (h1 : (xs 5).toInt < 0) (h2 : 0 ≤ (xs 1).toInt) (h3 : (xs 1).toInt < 8) (h4 : (xs 2).toInt < 0) (hP : va_P K.1 classes (lwW K qx qm qo u v) H) (hD : va_D A (lwW K qx qm qo u v)) (hS : va_S A s.heap H locs) (hl : lv_has ls 7 [(4, .int 0), (3, .ref qo), (2, .ref qm), (1, .ref qx), (0, .ref b)]) : W p l e room_1 s m #[Value.ref b] below meth c H locs 124 1863516 (lw_Z below #[Value.ref b] s) (F0 m 1471 ls []) := by
  obtain ⟨hx, hb, hr, hml, hown, hg, hX, hbl, hlocks, hK, hZ, hl9, hAA, hA, hbA⟩ := C
  have hP : va_P K.1 classes [(qx, zO 9 9 (zc0 u v)), (qm, zO 10 83 (zc71 u v)), (qo, zJ K 1 (fun _ => 0))] H := hP.sub [0, 71, 123] rfl
  have hD : va_D A [(qx, zO 9 9 (zc0 u v)), (qm, zO 10 83 (zc71 u v)), (qo, zJ K 1 (fun _ => 0))] := hD.sub [0, 71, 123] (by decide +kernel) rfl
  obtain ⟨t1, ht1, v1⟩ : ∃ j : Nat, j < 8 ∧ xs 1 = nI j := z_nat (n := 8) (by omega) (by omega) (by decide)
  refine lv_aload_n hx hb dL_law_1471 rfl (lv_at hl 3 rfl) ?_
  refine lv_aload_n hx hb dL_law_1472 rfl (lv_at hl 4 rfl) ?_
  refine lv_iload hx hb dL_law_1473 (lv_at hl 0 rfl) ?_
  refine lv_iconst (v := 1) hx hb dL_law_1475 (by decide) ?_
  refine lv_iadd hx hb dL_law_1476 ?_
  refine z_cst (v := 1) (by decide +kernel) ?_
  refine z_sld (v := (nI t1)) (j := 1) hx hb hX hbl hbA hS rfl (Nat.le_of_ble_eq_true rfl) v1 dL_law_1477 ?_
  refine lv_aload_n hx hb dL_law_1478 rfl (lv_at hl 4 rfl) ?_
  refine lv_iload hx hb dL_law_1479 (lv_at hl 0 rfl) ?_
  refine lv_iconst (v := 2) hx hb dL_law_1481 (by decide) ?_
  refine lv_iadd hx hb dL_law_1482 ?_
  refine z_cst (v := 2) (by decide +kernel) ?_
  refine z_sld (v := (xs 2)) (j := 2) hx hb hX hbl hbA hS rfl (Nat.le_of_ble_eq_true rfl) rfl dL_law_1483 ?_
  refine lv_aload_n hx hb dL_law_1484 rfl (lv_at hl 4 rfl) ?_
  refine lv_iload hx hb dL_law_1485 (lv_at hl 0 rfl) ?_
  refine lv_iconst (v := 3) hx hb dL_law_1487 (by decide) ?_
  refine lv_iadd hx hb dL_law_1488 ?_
  refine z_cst (v := 3) (by decide +kernel) ?_
  refine z_sld (v := (xs 3)) (j := 3) hx hb hX hbl hbA hS rfl (Nat.le_of_ble_eq_true rfl) rfl dL_law_1489 ?_
  refine lv_aload_n hx hb dL_law_1490 rfl (lv_at hl 4 rfl) ?_
  refine lv_iload hx hb dL_law_1491 (lv_at hl 0 rfl) ?_
  refine lv_iconst (v := 4) hx hb dL_law_1493 (by decide) ?_
  refine lv_iadd hx hb dL_law_1494 ?_
  refine z_cst (v := 4) (by decide +kernel) ?_
  refine z_sld (v := (xs 4)) (j := 4) hx hb hX hbl hbA hS rfl (Nat.le_of_ble_eq_true rfl) rfl dL_law_1495 ?_
  refine lv_aload_n hx hb dL_law_1496 rfl (lv_at hl 4 rfl) ?_
  refine lv_iload hx hb dL_law_1497 (lv_at hl 0 rfl) ?_
  refine lv_iconst (v := 5) hx hb dL_law_1499 (by decide) ?_
  refine lv_iadd hx hb dL_law_1500 ?_
  refine z_cst (v := 5) (by decide +kernel) ?_
  refine z_sld (v := (xs 5)) (j := 5) hx hb hX hbl hbA hS rfl (Nat.le_of_ble_eq_true rfl) rfl dL_law_1501 ?_
  refine lv_aload_n hx hb dL_law_1502 rfl (lv_at hl 4 rfl) ?_
  refine lv_iload hx hb dL_law_1503 (lv_at hl 0 rfl) ?_
  refine lv_bipush (v := 6) hx hb dL_law_1505 (by decide) ?_
  refine lv_iadd hx hb dL_law_1507 ?_
  refine z_cst (v := 6) (by decide +kernel) ?_
  refine z_sld (v := 0) (j := 6) hx hb hX hbl hbA hS rfl (Nat.le_of_ble_eq_true rfl) h0 dL_law_1508 ?_
  refine lv_if_eq (tgt := 1516) hx hb dL_law_1509 (by decide) (fun _ => ?_) (fun c => absurd (by decide) c)
  refine lv_iconst (v := 0) hx hb dL_law_1516 (by decide) ?_
  refine lv_aload_n hx hb dL_law_1517 rfl (lv_at hl 1 rfl) ?_
  refine z_hcalli [(qx, zO 9 9 (zc0 u v))] [(qm, zO 10 83 (zc71 u v)), (qo, zJ K 1 (fun _ => 0))] [0] [1, 2] hP hD hS hA rfl rfl (by decide +kernel) (by decide +kernel) (by decide +kernel) 125 1863522 rfl rfl (fun hPc hDc hF => z_xrunH (As := [.ref qx, .int (nI t1), .int (xs 2), .int (xs 3), .int (xs 4), .int (xs 5), .int 0, .ref qo]) (rest := []) ⟨hx, hb, hml, hown, hg⟩ (cL_run_2 l hl9 K H.size qx qo (zc0 u v) t1 ht1 (xs 2) (xs 3) (xs 4) (xs 5) (by rw [Int32.lt_iff_toInt_lt, show (0 : Int32).toInt = 0 from by decide]; omega)) kS_RL_166 hd_L_run rfl rfl ⟨(Nat.le_of_ble_eq_true rfl), (Nat.le_of_ble_eq_true rfl)⟩ hK hS hZ hPc hDc hF rfl hl.1 rfl (Nat.le_of_ble_eq_true rfl) dL_law_1518 ⟨(Nat.le_of_ble_eq_true rfl), (Nat.le_of_ble_eq_true rfl)⟩) (fun r3 u1 H locs w2 hP hD hS => ?_)
  subst w2
  have hP : va_P K.1 classes [(qm, zO 10 83 (zc71 u v)), (qo, zJ K 1 (fun _ => 0))] H := hP
  have hD : va_D A [(qm, zO 10 83 (zc71 u v)), (qo, zJ K 1 (fun _ => 0))] := hD
  refine lv_istore (lv' := [(5, .int 1), (4, .int 0), (3, .ref qo), (2, .ref qm), (1, .ref qx), (0, .ref b)]) hx hb dL_law_1521 hl (by decide) rfl (fun ls hl => ?_)
  refine lv_aload_n hx hb dL_law_1523 rfl (lv_at hl 3 rfl) ?_
  refine lv_aload_n hx hb dL_law_1524 rfl (lv_at hl 5 rfl) ?_
  refine lv_iload hx hb dL_law_1525 (lv_at hl 1 rfl) ?_
  refine lv_iconst (v := 1) hx hb dL_law_1527 (by decide) ?_
  refine lv_iadd hx hb dL_law_1528 ?_
  refine z_cst (v := 1) (by decide +kernel) ?_
  refine z_sld (v := (nI t1)) (j := 1) hx hb hX hbl hbA hS rfl (Nat.le_of_ble_eq_true rfl) v1 dL_law_1529 ?_
  refine lv_aload_n hx hb dL_law_1530 rfl (lv_at hl 5 rfl) ?_
  refine lv_iload hx hb dL_law_1531 (lv_at hl 1 rfl) ?_
  refine lv_iconst (v := 2) hx hb dL_law_1533 (by decide) ?_
  refine lv_iadd hx hb dL_law_1534 ?_
  refine z_cst (v := 2) (by decide +kernel) ?_
  refine z_sld (v := (xs 2)) (j := 2) hx hb hX hbl hbA hS rfl (Nat.le_of_ble_eq_true rfl) rfl dL_law_1535 ?_
  refine lv_aload_n hx hb dL_law_1536 rfl (lv_at hl 5 rfl) ?_
  refine lv_iload hx hb dL_law_1537 (lv_at hl 1 rfl) ?_
  refine lv_iconst (v := 3) hx hb dL_law_1539 (by decide) ?_
  refine lv_iadd hx hb dL_law_1540 ?_
  refine z_cst (v := 3) (by decide +kernel) ?_
  refine z_sld (v := (xs 3)) (j := 3) hx hb hX hbl hbA hS rfl (Nat.le_of_ble_eq_true rfl) rfl dL_law_1541 ?_
  refine lv_aload_n hx hb dL_law_1542 rfl (lv_at hl 5 rfl) ?_
  refine lv_iload hx hb dL_law_1543 (lv_at hl 1 rfl) ?_
  refine lv_iconst (v := 4) hx hb dL_law_1545 (by decide) ?_
  refine lv_iadd hx hb dL_law_1546 ?_
  refine z_cst (v := 4) (by decide +kernel) ?_
  refine z_sld (v := (xs 4)) (j := 4) hx hb hX hbl hbA hS rfl (Nat.le_of_ble_eq_true rfl) rfl dL_law_1547 ?_
  refine lv_aload_n hx hb dL_law_1548 rfl (lv_at hl 5 rfl) ?_
  refine lv_iload hx hb dL_law_1549 (lv_at hl 1 rfl) ?_
  refine lv_iconst (v := 5) hx hb dL_law_1551 (by decide) ?_
  refine lv_iadd hx hb dL_law_1552 ?_
  refine z_cst (v := 5) (by decide +kernel) ?_
  refine z_sld (v := (xs 5)) (j := 5) hx hb hX hbl hbA hS rfl (Nat.le_of_ble_eq_true rfl) rfl dL_law_1553 ?_
  refine lv_aload_n hx hb dL_law_1554 rfl (lv_at hl 5 rfl) ?_
  refine lv_iload hx hb dL_law_1555 (lv_at hl 1 rfl) ?_
  refine lv_bipush (v := 6) hx hb dL_law_1557 (by decide) ?_
  refine lv_iadd hx hb dL_law_1559 ?_
  refine z_cst (v := 6) (by decide +kernel) ?_
  refine z_sld (v := 0) (j := 6) hx hb hX hbl hbA hS rfl (Nat.le_of_ble_eq_true rfl) h0 dL_law_1560 ?_
  refine lv_if_eq (tgt := 1568) hx hb dL_law_1561 (by decide) (fun _ => ?_) (fun c => absurd (by decide) c)
  refine lv_iconst (v := 0) hx hb dL_law_1568 (by decide) ?_
  refine z_calli [(qm, zO 10 83 (zc71 u v))] [(qo, zJ K 1 (fun _ => 0))] [0] [1] hP hD hS hA rfl rfl (by decide +kernel) (by decide +kernel) (by decide +kernel) 125 1863522 rfl rfl (fun hPc hDc hF => z_runV (As := [.int (nI t1), .int (xs 2), .int (xs 3), .int (xs 4), .int (xs 5), .int 0]) (rest := []) ⟨hx, hb, hml, hown, hg⟩ (cX12_run_2 l K H.size qm (zc71 u v) t1 ht1 (xs 2) (xs 3) (xs 4) (xs 5) (by rw [Int32.lt_iff_toInt_lt, show (0 : Int32).toInt = 0 from by decide]; omega) (by rw [Int32.lt_iff_toInt_lt, show (0 : Int32).toInt = 0 from by decide]; omega)) kV_RL_169 hd_X12_run rfl rfl ⟨(Nat.le_of_ble_eq_true rfl), (Nat.le_of_ble_eq_true rfl)⟩ hK hS hZ hPc hDc hF 0 rfl rfl rfl hl.1 rfl (Nat.le_of_ble_eq_true rfl) dL_law_1569 ⟨(Nat.le_of_ble_eq_true rfl), (Nat.le_of_ble_eq_true rfl)⟩) (fun r6 u4 H locs w5 hP hD hS => ?_)
  subst w5
  have hP : va_P K.1 classes [(qo, zJ K 1 (fun _ => 0)), (qm, zO 10 83 (va_up (zc71 u v) 81 (.int 1)))] H := hP
  have hD : va_D A [(qo, zJ K 1 (fun _ => 0)), (qm, zO 10 83 (va_up (zc71 u v) 81 (.int 1)))] := hD
  refine lv_istore (lv' := [(6, .int 0), (5, .int 1), (4, .int 0), (3, .ref qo), (2, .ref qm), (1, .ref qx), (0, .ref b)]) hx hb dL_law_1572 hl (by decide) rfl (fun ls hl => ?_)
  refine lv_aload_n hx hb dL_law_1574 rfl (lv_at hl 4 rfl) ?_
  refine z_calli [(qm, zO 10 83 (va_up (zc71 u v) 81 (.int 1)))] [(qo, zJ K 1 (fun _ => 0))] [1] [0] hP hD hS hA rfl rfl (by decide +kernel) (by decide +kernel) (by decide +kernel) 125 1863522 rfl rfl (fun hPc hDc hF => z_runV (As := []) (rest := []) ⟨hx, hb, hml, hown, hg⟩ (cX12_thrown_2 l K H.size qm (va_up (zc71 u v) 81 (.int 1)) zu_eq) kV_RL_104 hd_X12_thrown rfl rfl ⟨(Nat.le_of_ble_eq_true rfl), (Nat.le_of_ble_eq_true rfl)⟩ hK hS hZ hPc hDc hF 0 rfl rfl rfl hl.1 rfl (Nat.le_of_ble_eq_true rfl) dL_law_1575 ⟨(Nat.le_of_ble_eq_true rfl), (Nat.le_of_ble_eq_true rfl)⟩) (fun r9 u7 H locs w8 hP hD hS => ?_)
  subst w8
  have hP : va_P K.1 classes [(qo, zJ K 1 (fun _ => 0)), (qm, zO 10 83 (va_up (zc71 u v) 81 (.int 1)))] H := hP
  have hD : va_D A [(qo, zJ K 1 (fun _ => 0)), (qm, zO 10 83 (va_up (zc71 u v) 81 (.int 1)))] := hD
  refine lv_iload hx hb dL_law_1578 (lv_at hl 1 rfl) ?_
  refine lv_icmp_eq (tgt := 1585) hx hb dL_law_1580 (by decide) (fun _ => ?_) (fun c => absurd (by decide) c)
  refine lv_iload hx hb dL_law_1585 (lv_at hl 1 rfl) ?_
  refine lv_if_ne (tgt := 1602) hx hb dL_law_1587 (by decide) (fun _ => ?_) (fun c => absurd c (by decide))
  refine lv_goto (tgt := 2026) hx hb dL_law_1602 (by decide) ?_
  exact law_back ⟨hx, hb, hr, hml, hown, hg, hX, hbl, hlocks, hK, hZ, hl9, hAA, hA, hbA⟩ (Nat.le_of_ble_eq_true rfl) (Nat.le_of_ble_eq_true rfl) hS (lv_sub hl [2, 6] rfl)
set_option maxHeartbeats 4000000 in
set_option maxRecDepth 100000 in
theorem lawS_19_2 {p : Program} {l : Launch} {e : Env} {s : State} {m : MethodId} {below : List Frame} {meth : Method} {c : Code} {b : Nat} {xs : Nat → Int32} {K : zK} {A : Nat → Prop} {H : Heap} {locs : List Loc} {ls : Array Slot} (C : zC p l s m meth c b xs K A) (qx qm qo : Nat) (u v : Nat → Nat) (h0 : xs 6 = 0) (h1 : (xs 5).toInt < 0) (h2 : 0 ≤ (xs 1).toInt) (h3 : (xs 1).toInt < 8) (h4 : 0 ≤ (xs 2).toInt) (h5 : (xs 2).toInt < 3) (hP : va_P K.1 classes (lwW K qx qm qo u v) H) (hD : va_D A (lwW K qx qm qo u v)) (hS : va_S A s.heap H locs) (hl : lv_has ls 7 [(4, .int 0), (3, .ref qo), (2, .ref qm), (1, .ref qx), (0, .ref b)]) : W p l e room_1 s m #[Value.ref b] below meth c H locs 124 1863516 (lw_Z below #[Value.ref b] s) (F0 m 1471 ls []) := by
  obtain ⟨hx, hb, hr, hml, hown, hg, hX, hbl, hlocks, hK, hZ, hl9, hAA, hA, hbA⟩ := C
  have hP : va_P K.1 classes [(qx, zO 9 9 (zc0 u v)), (qm, zO 10 83 (zc71 u v)), (qo, zJ K 1 (fun _ => 0))] H := hP.sub [0, 71, 123] rfl
  have hD : va_D A [(qx, zO 9 9 (zc0 u v)), (qm, zO 10 83 (zc71 u v)), (qo, zJ K 1 (fun _ => 0))] := hD.sub [0, 71, 123] (by decide +kernel) rfl
  obtain ⟨t1, ht1, v1⟩ : ∃ j : Nat, j < 8 ∧ xs 1 = nI j := z_nat (n := 8) (by omega) (by omega) (by decide)
  obtain ⟨t2, ht2, v2⟩ : ∃ j : Nat, j < 3 ∧ xs 2 = nI j := z_nat (n := 3) (by omega) (by omega) (by decide)
  refine lv_aload_n hx hb dL_law_1471 rfl (lv_at hl 3 rfl) ?_
  refine lv_aload_n hx hb dL_law_1472 rfl (lv_at hl 4 rfl) ?_
  refine lv_iload hx hb dL_law_1473 (lv_at hl 0 rfl) ?_
  refine lv_iconst (v := 1) hx hb dL_law_1475 (by decide) ?_
  refine lv_iadd hx hb dL_law_1476 ?_
  refine z_cst (v := 1) (by decide +kernel) ?_
  refine z_sld (v := (nI t1)) (j := 1) hx hb hX hbl hbA hS rfl (Nat.le_of_ble_eq_true rfl) v1 dL_law_1477 ?_
  refine lv_aload_n hx hb dL_law_1478 rfl (lv_at hl 4 rfl) ?_
  refine lv_iload hx hb dL_law_1479 (lv_at hl 0 rfl) ?_
  refine lv_iconst (v := 2) hx hb dL_law_1481 (by decide) ?_
  refine lv_iadd hx hb dL_law_1482 ?_
  refine z_cst (v := 2) (by decide +kernel) ?_
  refine z_sld (v := (nI t2)) (j := 2) hx hb hX hbl hbA hS rfl (Nat.le_of_ble_eq_true rfl) v2 dL_law_1483 ?_
  refine lv_aload_n hx hb dL_law_1484 rfl (lv_at hl 4 rfl) ?_
  refine lv_iload hx hb dL_law_1485 (lv_at hl 0 rfl) ?_
  refine lv_iconst (v := 3) hx hb dL_law_1487 (by decide) ?_
  refine lv_iadd hx hb dL_law_1488 ?_
  refine z_cst (v := 3) (by decide +kernel) ?_
  refine z_sld (v := (xs 3)) (j := 3) hx hb hX hbl hbA hS rfl (Nat.le_of_ble_eq_true rfl) rfl dL_law_1489 ?_
  refine lv_aload_n hx hb dL_law_1490 rfl (lv_at hl 4 rfl) ?_
  refine lv_iload hx hb dL_law_1491 (lv_at hl 0 rfl) ?_
  refine lv_iconst (v := 4) hx hb dL_law_1493 (by decide) ?_
  refine lv_iadd hx hb dL_law_1494 ?_
  refine z_cst (v := 4) (by decide +kernel) ?_
  refine z_sld (v := (xs 4)) (j := 4) hx hb hX hbl hbA hS rfl (Nat.le_of_ble_eq_true rfl) rfl dL_law_1495 ?_
  refine lv_aload_n hx hb dL_law_1496 rfl (lv_at hl 4 rfl) ?_
  refine lv_iload hx hb dL_law_1497 (lv_at hl 0 rfl) ?_
  refine lv_iconst (v := 5) hx hb dL_law_1499 (by decide) ?_
  refine lv_iadd hx hb dL_law_1500 ?_
  refine z_cst (v := 5) (by decide +kernel) ?_
  refine z_sld (v := (xs 5)) (j := 5) hx hb hX hbl hbA hS rfl (Nat.le_of_ble_eq_true rfl) rfl dL_law_1501 ?_
  refine lv_aload_n hx hb dL_law_1502 rfl (lv_at hl 4 rfl) ?_
  refine lv_iload hx hb dL_law_1503 (lv_at hl 0 rfl) ?_
  refine lv_bipush (v := 6) hx hb dL_law_1505 (by decide) ?_
  refine lv_iadd hx hb dL_law_1507 ?_
  refine z_cst (v := 6) (by decide +kernel) ?_
  refine z_sld (v := 0) (j := 6) hx hb hX hbl hbA hS rfl (Nat.le_of_ble_eq_true rfl) h0 dL_law_1508 ?_
  refine lv_if_eq (tgt := 1516) hx hb dL_law_1509 (by decide) (fun _ => ?_) (fun c => absurd (by decide) c)
  refine lv_iconst (v := 0) hx hb dL_law_1516 (by decide) ?_
  refine lv_aload_n hx hb dL_law_1517 rfl (lv_at hl 1 rfl) ?_
  refine z_hcalli [(qx, zO 9 9 (zc0 u v))] [(qm, zO 10 83 (zc71 u v)), (qo, zJ K 1 (fun _ => 0))] [0] [1, 2] hP hD hS hA rfl rfl (by decide +kernel) (by decide +kernel) (by decide +kernel) 125 1863522 rfl rfl (fun hPc hDc hF => z_xrunH (As := [.ref qx, .int (nI t1), .int (nI t2), .int (xs 3), .int (xs 4), .int (xs 5), .int 0, .ref qo]) (rest := []) ⟨hx, hb, hml, hown, hg⟩ (cL_run_3 l hl9 K H.size qx qo (zc0 u v) t1 ht1 t2 ht2 (xs 3) (xs 4) (xs 5) (by rw [Int32.lt_iff_toInt_lt, show (0 : Int32).toInt = 0 from by decide]; omega)) kS_RL_166 hd_L_run rfl rfl ⟨(Nat.le_of_ble_eq_true rfl), (Nat.le_of_ble_eq_true rfl)⟩ hK hS hZ hPc hDc hF rfl hl.1 rfl (Nat.le_of_ble_eq_true rfl) dL_law_1518 ⟨(Nat.le_of_ble_eq_true rfl), (Nat.le_of_ble_eq_true rfl)⟩) (fun r3 u1 H locs w2 hP hD hS => ?_)
  subst w2
  have hP : va_P K.1 classes [(qm, zO 10 83 (zc71 u v)), (qo, zJ K 1 (fun _ => 0))] H := hP
  have hD : va_D A [(qm, zO 10 83 (zc71 u v)), (qo, zJ K 1 (fun _ => 0))] := hD
  refine lv_istore (lv' := [(5, .int 1), (4, .int 0), (3, .ref qo), (2, .ref qm), (1, .ref qx), (0, .ref b)]) hx hb dL_law_1521 hl (by decide) rfl (fun ls hl => ?_)
  refine lv_aload_n hx hb dL_law_1523 rfl (lv_at hl 3 rfl) ?_
  refine lv_aload_n hx hb dL_law_1524 rfl (lv_at hl 5 rfl) ?_
  refine lv_iload hx hb dL_law_1525 (lv_at hl 1 rfl) ?_
  refine lv_iconst (v := 1) hx hb dL_law_1527 (by decide) ?_
  refine lv_iadd hx hb dL_law_1528 ?_
  refine z_cst (v := 1) (by decide +kernel) ?_
  refine z_sld (v := (nI t1)) (j := 1) hx hb hX hbl hbA hS rfl (Nat.le_of_ble_eq_true rfl) v1 dL_law_1529 ?_
  refine lv_aload_n hx hb dL_law_1530 rfl (lv_at hl 5 rfl) ?_
  refine lv_iload hx hb dL_law_1531 (lv_at hl 1 rfl) ?_
  refine lv_iconst (v := 2) hx hb dL_law_1533 (by decide) ?_
  refine lv_iadd hx hb dL_law_1534 ?_
  refine z_cst (v := 2) (by decide +kernel) ?_
  refine z_sld (v := (nI t2)) (j := 2) hx hb hX hbl hbA hS rfl (Nat.le_of_ble_eq_true rfl) v2 dL_law_1535 ?_
  refine lv_aload_n hx hb dL_law_1536 rfl (lv_at hl 5 rfl) ?_
  refine lv_iload hx hb dL_law_1537 (lv_at hl 1 rfl) ?_
  refine lv_iconst (v := 3) hx hb dL_law_1539 (by decide) ?_
  refine lv_iadd hx hb dL_law_1540 ?_
  refine z_cst (v := 3) (by decide +kernel) ?_
  refine z_sld (v := (xs 3)) (j := 3) hx hb hX hbl hbA hS rfl (Nat.le_of_ble_eq_true rfl) rfl dL_law_1541 ?_
  refine lv_aload_n hx hb dL_law_1542 rfl (lv_at hl 5 rfl) ?_
  refine lv_iload hx hb dL_law_1543 (lv_at hl 1 rfl) ?_
  refine lv_iconst (v := 4) hx hb dL_law_1545 (by decide) ?_
  refine lv_iadd hx hb dL_law_1546 ?_
  refine z_cst (v := 4) (by decide +kernel) ?_
  refine z_sld (v := (xs 4)) (j := 4) hx hb hX hbl hbA hS rfl (Nat.le_of_ble_eq_true rfl) rfl dL_law_1547 ?_
  refine lv_aload_n hx hb dL_law_1548 rfl (lv_at hl 5 rfl) ?_
  refine lv_iload hx hb dL_law_1549 (lv_at hl 1 rfl) ?_
  refine lv_iconst (v := 5) hx hb dL_law_1551 (by decide) ?_
  refine lv_iadd hx hb dL_law_1552 ?_
  refine z_cst (v := 5) (by decide +kernel) ?_
  refine z_sld (v := (xs 5)) (j := 5) hx hb hX hbl hbA hS rfl (Nat.le_of_ble_eq_true rfl) rfl dL_law_1553 ?_
  refine lv_aload_n hx hb dL_law_1554 rfl (lv_at hl 5 rfl) ?_
  refine lv_iload hx hb dL_law_1555 (lv_at hl 1 rfl) ?_
  refine lv_bipush (v := 6) hx hb dL_law_1557 (by decide) ?_
  refine lv_iadd hx hb dL_law_1559 ?_
  refine z_cst (v := 6) (by decide +kernel) ?_
  refine z_sld (v := 0) (j := 6) hx hb hX hbl hbA hS rfl (Nat.le_of_ble_eq_true rfl) h0 dL_law_1560 ?_
  refine lv_if_eq (tgt := 1568) hx hb dL_law_1561 (by decide) (fun _ => ?_) (fun c => absurd (by decide) c)
  refine lv_iconst (v := 0) hx hb dL_law_1568 (by decide) ?_
  refine z_calli [(qm, zO 10 83 (zc71 u v))] [(qo, zJ K 1 (fun _ => 0))] [0] [1] hP hD hS hA rfl rfl (by decide +kernel) (by decide +kernel) (by decide +kernel) 125 1863522 rfl rfl (fun hPc hDc hF => z_runV (As := [.int (nI t1), .int (nI t2), .int (xs 3), .int (xs 4), .int (xs 5), .int 0]) (rest := []) ⟨hx, hb, hml, hown, hg⟩ (cX12_run_3 l K H.size qm (zc71 u v) t1 ht1 t2 ht2 (xs 3) (xs 4) (xs 5) (by rw [Int32.lt_iff_toInt_lt, show (0 : Int32).toInt = 0 from by decide]; omega)) kV_RL_169 hd_X12_run rfl rfl ⟨(Nat.le_of_ble_eq_true rfl), (Nat.le_of_ble_eq_true rfl)⟩ hK hS hZ hPc hDc hF 0 rfl rfl rfl hl.1 rfl (Nat.le_of_ble_eq_true rfl) dL_law_1569 ⟨(Nat.le_of_ble_eq_true rfl), (Nat.le_of_ble_eq_true rfl)⟩) (fun r6 u4 H locs w5 hP hD hS => ?_)
  subst w5
  have hP : va_P K.1 classes [(qo, zJ K 1 (fun _ => 0)), (qm, zO 10 83 (va_up (zc71 u v) 81 (.int 1)))] H := hP
  have hD : va_D A [(qo, zJ K 1 (fun _ => 0)), (qm, zO 10 83 (va_up (zc71 u v) 81 (.int 1)))] := hD
  refine lv_istore (lv' := [(6, .int 0), (5, .int 1), (4, .int 0), (3, .ref qo), (2, .ref qm), (1, .ref qx), (0, .ref b)]) hx hb dL_law_1572 hl (by decide) rfl (fun ls hl => ?_)
  refine lv_aload_n hx hb dL_law_1574 rfl (lv_at hl 4 rfl) ?_
  refine z_calli [(qm, zO 10 83 (va_up (zc71 u v) 81 (.int 1)))] [(qo, zJ K 1 (fun _ => 0))] [1] [0] hP hD hS hA rfl rfl (by decide +kernel) (by decide +kernel) (by decide +kernel) 125 1863522 rfl rfl (fun hPc hDc hF => z_runV (As := []) (rest := []) ⟨hx, hb, hml, hown, hg⟩ (cX12_thrown_2 l K H.size qm (va_up (zc71 u v) 81 (.int 1)) zu_eq) kV_RL_104 hd_X12_thrown rfl rfl ⟨(Nat.le_of_ble_eq_true rfl), (Nat.le_of_ble_eq_true rfl)⟩ hK hS hZ hPc hDc hF 0 rfl rfl rfl hl.1 rfl (Nat.le_of_ble_eq_true rfl) dL_law_1575 ⟨(Nat.le_of_ble_eq_true rfl), (Nat.le_of_ble_eq_true rfl)⟩) (fun r9 u7 H locs w8 hP hD hS => ?_)
  subst w8
  have hP : va_P K.1 classes [(qo, zJ K 1 (fun _ => 0)), (qm, zO 10 83 (va_up (zc71 u v) 81 (.int 1)))] H := hP
  have hD : va_D A [(qo, zJ K 1 (fun _ => 0)), (qm, zO 10 83 (va_up (zc71 u v) 81 (.int 1)))] := hD
  refine lv_iload hx hb dL_law_1578 (lv_at hl 1 rfl) ?_
  refine lv_icmp_eq (tgt := 1585) hx hb dL_law_1580 (by decide) (fun _ => ?_) (fun c => absurd (by decide) c)
  refine lv_iload hx hb dL_law_1585 (lv_at hl 1 rfl) ?_
  refine lv_if_ne (tgt := 1602) hx hb dL_law_1587 (by decide) (fun _ => ?_) (fun c => absurd c (by decide))
  refine lv_goto (tgt := 2026) hx hb dL_law_1602 (by decide) ?_
  exact law_back ⟨hx, hb, hr, hml, hown, hg, hX, hbl, hlocks, hK, hZ, hl9, hAA, hA, hbA⟩ (Nat.le_of_ble_eq_true rfl) (Nat.le_of_ble_eq_true rfl) hS (lv_sub hl [2, 6] rfl)
set_option maxHeartbeats 4000000 in
set_option maxRecDepth 100000 in
theorem lawS_19_3 {p : Program} {l : Launch} {e : Env} {s : State} {m : MethodId} {below : List Frame} {meth : Method} {c : Code} {b : Nat} {xs : Nat → Int32} {K : zK} {A : Nat → Prop} {H : Heap} {locs : List Loc} {ls : Array Slot} (C : zC p l s m meth c b xs K A) (qx qm qo : Nat) (u v : Nat → Nat) (h0 : xs 6 = 0) (h1 : (xs 5).toInt < 0) (h2 : 0 ≤ (xs 1).toInt) (h3 : (xs 1).toInt < 8) (h4 : 0 ≤ (xs 2).toInt) (h5 : 3 ≤ (xs 2).toInt) (hP : va_P K.1 classes (lwW K qx qm qo u v) H) (hD : va_D A (lwW K qx qm qo u v)) (hS : va_S A s.heap H locs) (hl : lv_has ls 7 [(4, .int 0), (3, .ref qo), (2, .ref qm), (1, .ref qx), (0, .ref b)]) : W p l e room_1 s m #[Value.ref b] below meth c H locs 124 1863516 (lw_Z below #[Value.ref b] s) (F0 m 1471 ls []) := by
  obtain ⟨hx, hb, hr, hml, hown, hg, hX, hbl, hlocks, hK, hZ, hl9, hAA, hA, hbA⟩ := C
  have hP : va_P K.1 classes [(qx, zO 9 9 (zc0 u v)), (qm, zO 10 83 (zc71 u v)), (qo, zJ K 1 (fun _ => 0))] H := hP.sub [0, 71, 123] rfl
  have hD : va_D A [(qx, zO 9 9 (zc0 u v)), (qm, zO 10 83 (zc71 u v)), (qo, zJ K 1 (fun _ => 0))] := hD.sub [0, 71, 123] (by decide +kernel) rfl
  obtain ⟨t1, ht1, v1⟩ : ∃ j : Nat, j < 8 ∧ xs 1 = nI j := z_nat (n := 8) (by omega) (by omega) (by decide)
  refine lv_aload_n hx hb dL_law_1471 rfl (lv_at hl 3 rfl) ?_
  refine lv_aload_n hx hb dL_law_1472 rfl (lv_at hl 4 rfl) ?_
  refine lv_iload hx hb dL_law_1473 (lv_at hl 0 rfl) ?_
  refine lv_iconst (v := 1) hx hb dL_law_1475 (by decide) ?_
  refine lv_iadd hx hb dL_law_1476 ?_
  refine z_cst (v := 1) (by decide +kernel) ?_
  refine z_sld (v := (nI t1)) (j := 1) hx hb hX hbl hbA hS rfl (Nat.le_of_ble_eq_true rfl) v1 dL_law_1477 ?_
  refine lv_aload_n hx hb dL_law_1478 rfl (lv_at hl 4 rfl) ?_
  refine lv_iload hx hb dL_law_1479 (lv_at hl 0 rfl) ?_
  refine lv_iconst (v := 2) hx hb dL_law_1481 (by decide) ?_
  refine lv_iadd hx hb dL_law_1482 ?_
  refine z_cst (v := 2) (by decide +kernel) ?_
  refine z_sld (v := (xs 2)) (j := 2) hx hb hX hbl hbA hS rfl (Nat.le_of_ble_eq_true rfl) rfl dL_law_1483 ?_
  refine lv_aload_n hx hb dL_law_1484 rfl (lv_at hl 4 rfl) ?_
  refine lv_iload hx hb dL_law_1485 (lv_at hl 0 rfl) ?_
  refine lv_iconst (v := 3) hx hb dL_law_1487 (by decide) ?_
  refine lv_iadd hx hb dL_law_1488 ?_
  refine z_cst (v := 3) (by decide +kernel) ?_
  refine z_sld (v := (xs 3)) (j := 3) hx hb hX hbl hbA hS rfl (Nat.le_of_ble_eq_true rfl) rfl dL_law_1489 ?_
  refine lv_aload_n hx hb dL_law_1490 rfl (lv_at hl 4 rfl) ?_
  refine lv_iload hx hb dL_law_1491 (lv_at hl 0 rfl) ?_
  refine lv_iconst (v := 4) hx hb dL_law_1493 (by decide) ?_
  refine lv_iadd hx hb dL_law_1494 ?_
  refine z_cst (v := 4) (by decide +kernel) ?_
  refine z_sld (v := (xs 4)) (j := 4) hx hb hX hbl hbA hS rfl (Nat.le_of_ble_eq_true rfl) rfl dL_law_1495 ?_
  refine lv_aload_n hx hb dL_law_1496 rfl (lv_at hl 4 rfl) ?_
  refine lv_iload hx hb dL_law_1497 (lv_at hl 0 rfl) ?_
  refine lv_iconst (v := 5) hx hb dL_law_1499 (by decide) ?_
  refine lv_iadd hx hb dL_law_1500 ?_
  refine z_cst (v := 5) (by decide +kernel) ?_
  refine z_sld (v := (xs 5)) (j := 5) hx hb hX hbl hbA hS rfl (Nat.le_of_ble_eq_true rfl) rfl dL_law_1501 ?_
  refine lv_aload_n hx hb dL_law_1502 rfl (lv_at hl 4 rfl) ?_
  refine lv_iload hx hb dL_law_1503 (lv_at hl 0 rfl) ?_
  refine lv_bipush (v := 6) hx hb dL_law_1505 (by decide) ?_
  refine lv_iadd hx hb dL_law_1507 ?_
  refine z_cst (v := 6) (by decide +kernel) ?_
  refine z_sld (v := 0) (j := 6) hx hb hX hbl hbA hS rfl (Nat.le_of_ble_eq_true rfl) h0 dL_law_1508 ?_
  refine lv_if_eq (tgt := 1516) hx hb dL_law_1509 (by decide) (fun _ => ?_) (fun c => absurd (by decide) c)
  refine lv_iconst (v := 0) hx hb dL_law_1516 (by decide) ?_
  refine lv_aload_n hx hb dL_law_1517 rfl (lv_at hl 1 rfl) ?_
  refine z_hcalli [(qx, zO 9 9 (zc0 u v))] [(qm, zO 10 83 (zc71 u v)), (qo, zJ K 1 (fun _ => 0))] [0] [1, 2] hP hD hS hA rfl rfl (by decide +kernel) (by decide +kernel) (by decide +kernel) 125 1863522 rfl rfl (fun hPc hDc hF => z_xrunH (As := [.ref qx, .int (nI t1), .int (xs 2), .int (xs 3), .int (xs 4), .int (xs 5), .int 0, .ref qo]) (rest := []) ⟨hx, hb, hml, hown, hg⟩ (cL_run_2 l hl9 K H.size qx qo (zc0 u v) t1 ht1 (xs 2) (xs 3) (xs 4) (xs 5) (by rw [Int32.lt_iff_toInt_lt, show (0 : Int32).toInt = 0 from by decide]; omega)) kS_RL_166 hd_L_run rfl rfl ⟨(Nat.le_of_ble_eq_true rfl), (Nat.le_of_ble_eq_true rfl)⟩ hK hS hZ hPc hDc hF rfl hl.1 rfl (Nat.le_of_ble_eq_true rfl) dL_law_1518 ⟨(Nat.le_of_ble_eq_true rfl), (Nat.le_of_ble_eq_true rfl)⟩) (fun r3 u1 H locs w2 hP hD hS => ?_)
  subst w2
  have hP : va_P K.1 classes [(qm, zO 10 83 (zc71 u v)), (qo, zJ K 1 (fun _ => 0))] H := hP
  have hD : va_D A [(qm, zO 10 83 (zc71 u v)), (qo, zJ K 1 (fun _ => 0))] := hD
  refine lv_istore (lv' := [(5, .int 1), (4, .int 0), (3, .ref qo), (2, .ref qm), (1, .ref qx), (0, .ref b)]) hx hb dL_law_1521 hl (by decide) rfl (fun ls hl => ?_)
  refine lv_aload_n hx hb dL_law_1523 rfl (lv_at hl 3 rfl) ?_
  refine lv_aload_n hx hb dL_law_1524 rfl (lv_at hl 5 rfl) ?_
  refine lv_iload hx hb dL_law_1525 (lv_at hl 1 rfl) ?_
  refine lv_iconst (v := 1) hx hb dL_law_1527 (by decide) ?_
  refine lv_iadd hx hb dL_law_1528 ?_
  refine z_cst (v := 1) (by decide +kernel) ?_
  refine z_sld (v := (nI t1)) (j := 1) hx hb hX hbl hbA hS rfl (Nat.le_of_ble_eq_true rfl) v1 dL_law_1529 ?_
  refine lv_aload_n hx hb dL_law_1530 rfl (lv_at hl 5 rfl) ?_
  refine lv_iload hx hb dL_law_1531 (lv_at hl 1 rfl) ?_
  refine lv_iconst (v := 2) hx hb dL_law_1533 (by decide) ?_
  refine lv_iadd hx hb dL_law_1534 ?_
  refine z_cst (v := 2) (by decide +kernel) ?_
  refine z_sld (v := (xs 2)) (j := 2) hx hb hX hbl hbA hS rfl (Nat.le_of_ble_eq_true rfl) rfl dL_law_1535 ?_
  refine lv_aload_n hx hb dL_law_1536 rfl (lv_at hl 5 rfl) ?_
  refine lv_iload hx hb dL_law_1537 (lv_at hl 1 rfl) ?_
  refine lv_iconst (v := 3) hx hb dL_law_1539 (by decide) ?_
  refine lv_iadd hx hb dL_law_1540 ?_
  refine z_cst (v := 3) (by decide +kernel) ?_
  refine z_sld (v := (xs 3)) (j := 3) hx hb hX hbl hbA hS rfl (Nat.le_of_ble_eq_true rfl) rfl dL_law_1541 ?_
  refine lv_aload_n hx hb dL_law_1542 rfl (lv_at hl 5 rfl) ?_
  refine lv_iload hx hb dL_law_1543 (lv_at hl 1 rfl) ?_
  refine lv_iconst (v := 4) hx hb dL_law_1545 (by decide) ?_
  refine lv_iadd hx hb dL_law_1546 ?_
  refine z_cst (v := 4) (by decide +kernel) ?_
  refine z_sld (v := (xs 4)) (j := 4) hx hb hX hbl hbA hS rfl (Nat.le_of_ble_eq_true rfl) rfl dL_law_1547 ?_
  refine lv_aload_n hx hb dL_law_1548 rfl (lv_at hl 5 rfl) ?_
  refine lv_iload hx hb dL_law_1549 (lv_at hl 1 rfl) ?_
  refine lv_iconst (v := 5) hx hb dL_law_1551 (by decide) ?_
  refine lv_iadd hx hb dL_law_1552 ?_
  refine z_cst (v := 5) (by decide +kernel) ?_
  refine z_sld (v := (xs 5)) (j := 5) hx hb hX hbl hbA hS rfl (Nat.le_of_ble_eq_true rfl) rfl dL_law_1553 ?_
  refine lv_aload_n hx hb dL_law_1554 rfl (lv_at hl 5 rfl) ?_
  refine lv_iload hx hb dL_law_1555 (lv_at hl 1 rfl) ?_
  refine lv_bipush (v := 6) hx hb dL_law_1557 (by decide) ?_
  refine lv_iadd hx hb dL_law_1559 ?_
  refine z_cst (v := 6) (by decide +kernel) ?_
  refine z_sld (v := 0) (j := 6) hx hb hX hbl hbA hS rfl (Nat.le_of_ble_eq_true rfl) h0 dL_law_1560 ?_
  refine lv_if_eq (tgt := 1568) hx hb dL_law_1561 (by decide) (fun _ => ?_) (fun c => absurd (by decide) c)
  refine lv_iconst (v := 0) hx hb dL_law_1568 (by decide) ?_
  refine z_calli [(qm, zO 10 83 (zc71 u v))] [(qo, zJ K 1 (fun _ => 0))] [0] [1] hP hD hS hA rfl rfl (by decide +kernel) (by decide +kernel) (by decide +kernel) 125 1863522 rfl rfl (fun hPc hDc hF => z_runV (As := [.int (nI t1), .int (xs 2), .int (xs 3), .int (xs 4), .int (xs 5), .int 0]) (rest := []) ⟨hx, hb, hml, hown, hg⟩ (cX12_run_4 l K H.size qm (zc71 u v) t1 ht1 (xs 2) (xs 3) (xs 4) (xs 5) (by rw [Int32.lt_iff_toInt_lt, show (0 : Int32).toInt = 0 from by decide]; omega) (by rw [Int32.lt_iff_toInt_lt, show (0 : Int32).toInt = 0 from by decide]; omega) (by rw [Int32.lt_iff_toInt_lt, show (2 : Int32).toInt = 2 from by decide]; omega)) kV_RL_169 hd_X12_run rfl rfl ⟨(Nat.le_of_ble_eq_true rfl), (Nat.le_of_ble_eq_true rfl)⟩ hK hS hZ hPc hDc hF 0 rfl rfl rfl hl.1 rfl (Nat.le_of_ble_eq_true rfl) dL_law_1569 ⟨(Nat.le_of_ble_eq_true rfl), (Nat.le_of_ble_eq_true rfl)⟩) (fun r6 u4 H locs w5 hP hD hS => ?_)
  subst w5
  have hP : va_P K.1 classes [(qo, zJ K 1 (fun _ => 0)), (qm, zO 10 83 (va_up (zc71 u v) 81 (.int 1)))] H := hP
  have hD : va_D A [(qo, zJ K 1 (fun _ => 0)), (qm, zO 10 83 (va_up (zc71 u v) 81 (.int 1)))] := hD
  refine lv_istore (lv' := [(6, .int 0), (5, .int 1), (4, .int 0), (3, .ref qo), (2, .ref qm), (1, .ref qx), (0, .ref b)]) hx hb dL_law_1572 hl (by decide) rfl (fun ls hl => ?_)
  refine lv_aload_n hx hb dL_law_1574 rfl (lv_at hl 4 rfl) ?_
  refine z_calli [(qm, zO 10 83 (va_up (zc71 u v) 81 (.int 1)))] [(qo, zJ K 1 (fun _ => 0))] [1] [0] hP hD hS hA rfl rfl (by decide +kernel) (by decide +kernel) (by decide +kernel) 125 1863522 rfl rfl (fun hPc hDc hF => z_runV (As := []) (rest := []) ⟨hx, hb, hml, hown, hg⟩ (cX12_thrown_2 l K H.size qm (va_up (zc71 u v) 81 (.int 1)) zu_eq) kV_RL_104 hd_X12_thrown rfl rfl ⟨(Nat.le_of_ble_eq_true rfl), (Nat.le_of_ble_eq_true rfl)⟩ hK hS hZ hPc hDc hF 0 rfl rfl rfl hl.1 rfl (Nat.le_of_ble_eq_true rfl) dL_law_1575 ⟨(Nat.le_of_ble_eq_true rfl), (Nat.le_of_ble_eq_true rfl)⟩) (fun r9 u7 H locs w8 hP hD hS => ?_)
  subst w8
  have hP : va_P K.1 classes [(qo, zJ K 1 (fun _ => 0)), (qm, zO 10 83 (va_up (zc71 u v) 81 (.int 1)))] H := hP
  have hD : va_D A [(qo, zJ K 1 (fun _ => 0)), (qm, zO 10 83 (va_up (zc71 u v) 81 (.int 1)))] := hD
  refine lv_iload hx hb dL_law_1578 (lv_at hl 1 rfl) ?_
  refine lv_icmp_eq (tgt := 1585) hx hb dL_law_1580 (by decide) (fun _ => ?_) (fun c => absurd (by decide) c)
  refine lv_iload hx hb dL_law_1585 (lv_at hl 1 rfl) ?_
  refine lv_if_ne (tgt := 1602) hx hb dL_law_1587 (by decide) (fun _ => ?_) (fun c => absurd c (by decide))
  refine lv_goto (tgt := 2026) hx hb dL_law_1602 (by decide) ?_
  exact law_back ⟨hx, hb, hr, hml, hown, hg, hX, hbl, hlocks, hK, hZ, hl9, hAA, hA, hbA⟩ (Nat.le_of_ble_eq_true rfl) (Nat.le_of_ble_eq_true rfl) hS (lv_sub hl [2, 6] rfl)
set_option maxHeartbeats 4000000 in
set_option maxRecDepth 100000 in
theorem lawS_19_4 {p : Program} {l : Launch} {e : Env} {s : State} {m : MethodId} {below : List Frame} {meth : Method} {c : Code} {b : Nat} {xs : Nat → Int32} {K : zK} {A : Nat → Prop} {H : Heap} {locs : List Loc} {ls : Array Slot} (C : zC p l s m meth c b xs K A) (qx qm qo : Nat) (u v : Nat → Nat) (h0 : xs 6 = 0) (h1 : (xs 5).toInt < 0) (h2 : 0 ≤ (xs 1).toInt) (h3 : 8 ≤ (xs 1).toInt) (hP : va_P K.1 classes (lwW K qx qm qo u v) H) (hD : va_D A (lwW K qx qm qo u v)) (hS : va_S A s.heap H locs) (hl : lv_has ls 7 [(4, .int 0), (3, .ref qo), (2, .ref qm), (1, .ref qx), (0, .ref b)]) : W p l e room_1 s m #[Value.ref b] below meth c H locs 124 1863516 (lw_Z below #[Value.ref b] s) (F0 m 1471 ls []) := by
  obtain ⟨hx, hb, hr, hml, hown, hg, hX, hbl, hlocks, hK, hZ, hl9, hAA, hA, hbA⟩ := C
  have hP : va_P K.1 classes [(qx, zO 9 9 (zc0 u v)), (qm, zO 10 83 (zc71 u v)), (qo, zJ K 1 (fun _ => 0))] H := hP.sub [0, 71, 123] rfl
  have hD : va_D A [(qx, zO 9 9 (zc0 u v)), (qm, zO 10 83 (zc71 u v)), (qo, zJ K 1 (fun _ => 0))] := hD.sub [0, 71, 123] (by decide +kernel) rfl
  refine lv_aload_n hx hb dL_law_1471 rfl (lv_at hl 3 rfl) ?_
  refine lv_aload_n hx hb dL_law_1472 rfl (lv_at hl 4 rfl) ?_
  refine lv_iload hx hb dL_law_1473 (lv_at hl 0 rfl) ?_
  refine lv_iconst (v := 1) hx hb dL_law_1475 (by decide) ?_
  refine lv_iadd hx hb dL_law_1476 ?_
  refine z_cst (v := 1) (by decide +kernel) ?_
  refine z_sld (v := (xs 1)) (j := 1) hx hb hX hbl hbA hS rfl (Nat.le_of_ble_eq_true rfl) rfl dL_law_1477 ?_
  refine lv_aload_n hx hb dL_law_1478 rfl (lv_at hl 4 rfl) ?_
  refine lv_iload hx hb dL_law_1479 (lv_at hl 0 rfl) ?_
  refine lv_iconst (v := 2) hx hb dL_law_1481 (by decide) ?_
  refine lv_iadd hx hb dL_law_1482 ?_
  refine z_cst (v := 2) (by decide +kernel) ?_
  refine z_sld (v := (xs 2)) (j := 2) hx hb hX hbl hbA hS rfl (Nat.le_of_ble_eq_true rfl) rfl dL_law_1483 ?_
  refine lv_aload_n hx hb dL_law_1484 rfl (lv_at hl 4 rfl) ?_
  refine lv_iload hx hb dL_law_1485 (lv_at hl 0 rfl) ?_
  refine lv_iconst (v := 3) hx hb dL_law_1487 (by decide) ?_
  refine lv_iadd hx hb dL_law_1488 ?_
  refine z_cst (v := 3) (by decide +kernel) ?_
  refine z_sld (v := (xs 3)) (j := 3) hx hb hX hbl hbA hS rfl (Nat.le_of_ble_eq_true rfl) rfl dL_law_1489 ?_
  refine lv_aload_n hx hb dL_law_1490 rfl (lv_at hl 4 rfl) ?_
  refine lv_iload hx hb dL_law_1491 (lv_at hl 0 rfl) ?_
  refine lv_iconst (v := 4) hx hb dL_law_1493 (by decide) ?_
  refine lv_iadd hx hb dL_law_1494 ?_
  refine z_cst (v := 4) (by decide +kernel) ?_
  refine z_sld (v := (xs 4)) (j := 4) hx hb hX hbl hbA hS rfl (Nat.le_of_ble_eq_true rfl) rfl dL_law_1495 ?_
  refine lv_aload_n hx hb dL_law_1496 rfl (lv_at hl 4 rfl) ?_
  refine lv_iload hx hb dL_law_1497 (lv_at hl 0 rfl) ?_
  refine lv_iconst (v := 5) hx hb dL_law_1499 (by decide) ?_
  refine lv_iadd hx hb dL_law_1500 ?_
  refine z_cst (v := 5) (by decide +kernel) ?_
  refine z_sld (v := (xs 5)) (j := 5) hx hb hX hbl hbA hS rfl (Nat.le_of_ble_eq_true rfl) rfl dL_law_1501 ?_
  refine lv_aload_n hx hb dL_law_1502 rfl (lv_at hl 4 rfl) ?_
  refine lv_iload hx hb dL_law_1503 (lv_at hl 0 rfl) ?_
  refine lv_bipush (v := 6) hx hb dL_law_1505 (by decide) ?_
  refine lv_iadd hx hb dL_law_1507 ?_
  refine z_cst (v := 6) (by decide +kernel) ?_
  refine z_sld (v := 0) (j := 6) hx hb hX hbl hbA hS rfl (Nat.le_of_ble_eq_true rfl) h0 dL_law_1508 ?_
  refine lv_if_eq (tgt := 1516) hx hb dL_law_1509 (by decide) (fun _ => ?_) (fun c => absurd (by decide) c)
  refine lv_iconst (v := 0) hx hb dL_law_1516 (by decide) ?_
  refine lv_aload_n hx hb dL_law_1517 rfl (lv_at hl 1 rfl) ?_
  refine z_hcalli [(qx, zO 9 9 (zc0 u v))] [(qm, zO 10 83 (zc71 u v)), (qo, zJ K 1 (fun _ => 0))] [0] [1, 2] hP hD hS hA rfl rfl (by decide +kernel) (by decide +kernel) (by decide +kernel) 125 1863522 rfl rfl (fun hPc hDc hF => z_xrunH (As := [.ref qx, .int (xs 1), .int (xs 2), .int (xs 3), .int (xs 4), .int (xs 5), .int 0, .ref qo]) (rest := []) ⟨hx, hb, hml, hown, hg⟩ (cL_run_1 l hl9 K H.size qx qo (zc0 u v) (xs 1) (xs 2) (xs 3) (xs 4) (xs 5) (by rw [Int32.lt_iff_toInt_lt, show (0 : Int32).toInt = 0 from by decide]; omega)) kS_RL_166 hd_L_run rfl rfl ⟨(Nat.le_of_ble_eq_true rfl), (Nat.le_of_ble_eq_true rfl)⟩ hK hS hZ hPc hDc hF rfl hl.1 rfl (Nat.le_of_ble_eq_true rfl) dL_law_1518 ⟨(Nat.le_of_ble_eq_true rfl), (Nat.le_of_ble_eq_true rfl)⟩) (fun r3 u1 H locs w2 hP hD hS => ?_)
  subst w2
  have hP : va_P K.1 classes [(qm, zO 10 83 (zc71 u v)), (qo, zJ K 1 (fun _ => 0))] H := hP
  have hD : va_D A [(qm, zO 10 83 (zc71 u v)), (qo, zJ K 1 (fun _ => 0))] := hD
  refine lv_istore (lv' := [(5, .int 1), (4, .int 0), (3, .ref qo), (2, .ref qm), (1, .ref qx), (0, .ref b)]) hx hb dL_law_1521 hl (by decide) rfl (fun ls hl => ?_)
  refine lv_aload_n hx hb dL_law_1523 rfl (lv_at hl 3 rfl) ?_
  refine lv_aload_n hx hb dL_law_1524 rfl (lv_at hl 5 rfl) ?_
  refine lv_iload hx hb dL_law_1525 (lv_at hl 1 rfl) ?_
  refine lv_iconst (v := 1) hx hb dL_law_1527 (by decide) ?_
  refine lv_iadd hx hb dL_law_1528 ?_
  refine z_cst (v := 1) (by decide +kernel) ?_
  refine z_sld (v := (xs 1)) (j := 1) hx hb hX hbl hbA hS rfl (Nat.le_of_ble_eq_true rfl) rfl dL_law_1529 ?_
  refine lv_aload_n hx hb dL_law_1530 rfl (lv_at hl 5 rfl) ?_
  refine lv_iload hx hb dL_law_1531 (lv_at hl 1 rfl) ?_
  refine lv_iconst (v := 2) hx hb dL_law_1533 (by decide) ?_
  refine lv_iadd hx hb dL_law_1534 ?_
  refine z_cst (v := 2) (by decide +kernel) ?_
  refine z_sld (v := (xs 2)) (j := 2) hx hb hX hbl hbA hS rfl (Nat.le_of_ble_eq_true rfl) rfl dL_law_1535 ?_
  refine lv_aload_n hx hb dL_law_1536 rfl (lv_at hl 5 rfl) ?_
  refine lv_iload hx hb dL_law_1537 (lv_at hl 1 rfl) ?_
  refine lv_iconst (v := 3) hx hb dL_law_1539 (by decide) ?_
  refine lv_iadd hx hb dL_law_1540 ?_
  refine z_cst (v := 3) (by decide +kernel) ?_
  refine z_sld (v := (xs 3)) (j := 3) hx hb hX hbl hbA hS rfl (Nat.le_of_ble_eq_true rfl) rfl dL_law_1541 ?_
  refine lv_aload_n hx hb dL_law_1542 rfl (lv_at hl 5 rfl) ?_
  refine lv_iload hx hb dL_law_1543 (lv_at hl 1 rfl) ?_
  refine lv_iconst (v := 4) hx hb dL_law_1545 (by decide) ?_
  refine lv_iadd hx hb dL_law_1546 ?_
  refine z_cst (v := 4) (by decide +kernel) ?_
  refine z_sld (v := (xs 4)) (j := 4) hx hb hX hbl hbA hS rfl (Nat.le_of_ble_eq_true rfl) rfl dL_law_1547 ?_
  refine lv_aload_n hx hb dL_law_1548 rfl (lv_at hl 5 rfl) ?_
  refine lv_iload hx hb dL_law_1549 (lv_at hl 1 rfl) ?_
  refine lv_iconst (v := 5) hx hb dL_law_1551 (by decide) ?_
  refine lv_iadd hx hb dL_law_1552 ?_
  refine z_cst (v := 5) (by decide +kernel) ?_
  refine z_sld (v := (xs 5)) (j := 5) hx hb hX hbl hbA hS rfl (Nat.le_of_ble_eq_true rfl) rfl dL_law_1553 ?_
  refine lv_aload_n hx hb dL_law_1554 rfl (lv_at hl 5 rfl) ?_
  refine lv_iload hx hb dL_law_1555 (lv_at hl 1 rfl) ?_
  refine lv_bipush (v := 6) hx hb dL_law_1557 (by decide) ?_
  refine lv_iadd hx hb dL_law_1559 ?_
  refine z_cst (v := 6) (by decide +kernel) ?_
  refine z_sld (v := 0) (j := 6) hx hb hX hbl hbA hS rfl (Nat.le_of_ble_eq_true rfl) h0 dL_law_1560 ?_
  refine lv_if_eq (tgt := 1568) hx hb dL_law_1561 (by decide) (fun _ => ?_) (fun c => absurd (by decide) c)
  refine lv_iconst (v := 0) hx hb dL_law_1568 (by decide) ?_
  refine z_calli [(qm, zO 10 83 (zc71 u v))] [(qo, zJ K 1 (fun _ => 0))] [0] [1] hP hD hS hA rfl rfl (by decide +kernel) (by decide +kernel) (by decide +kernel) 125 1863522 rfl rfl (fun hPc hDc hF => z_runV (As := [.int (xs 1), .int (xs 2), .int (xs 3), .int (xs 4), .int (xs 5), .int 0]) (rest := []) ⟨hx, hb, hml, hown, hg⟩ (cX12_run_5 l K H.size qm (zc71 u v) (xs 1) (xs 2) (xs 3) (xs 4) (xs 5) (by rw [Int32.lt_iff_toInt_lt, show (0 : Int32).toInt = 0 from by decide]; omega) (by rw [Int32.lt_iff_toInt_lt, show (0 : Int32).toInt = 0 from by decide]; omega) (by rw [Int32.lt_iff_toInt_lt, show (7 : Int32).toInt = 7 from by decide]; omega)) kV_RL_169 hd_X12_run rfl rfl ⟨(Nat.le_of_ble_eq_true rfl), (Nat.le_of_ble_eq_true rfl)⟩ hK hS hZ hPc hDc hF 0 rfl rfl rfl hl.1 rfl (Nat.le_of_ble_eq_true rfl) dL_law_1569 ⟨(Nat.le_of_ble_eq_true rfl), (Nat.le_of_ble_eq_true rfl)⟩) (fun r6 u4 H locs w5 hP hD hS => ?_)
  subst w5
  have hP : va_P K.1 classes [(qo, zJ K 1 (fun _ => 0)), (qm, zO 10 83 (va_up (zc71 u v) 81 (.int 1)))] H := hP
  have hD : va_D A [(qo, zJ K 1 (fun _ => 0)), (qm, zO 10 83 (va_up (zc71 u v) 81 (.int 1)))] := hD
  refine lv_istore (lv' := [(6, .int 0), (5, .int 1), (4, .int 0), (3, .ref qo), (2, .ref qm), (1, .ref qx), (0, .ref b)]) hx hb dL_law_1572 hl (by decide) rfl (fun ls hl => ?_)
  refine lv_aload_n hx hb dL_law_1574 rfl (lv_at hl 4 rfl) ?_
  refine z_calli [(qm, zO 10 83 (va_up (zc71 u v) 81 (.int 1)))] [(qo, zJ K 1 (fun _ => 0))] [1] [0] hP hD hS hA rfl rfl (by decide +kernel) (by decide +kernel) (by decide +kernel) 125 1863522 rfl rfl (fun hPc hDc hF => z_runV (As := []) (rest := []) ⟨hx, hb, hml, hown, hg⟩ (cX12_thrown_2 l K H.size qm (va_up (zc71 u v) 81 (.int 1)) zu_eq) kV_RL_104 hd_X12_thrown rfl rfl ⟨(Nat.le_of_ble_eq_true rfl), (Nat.le_of_ble_eq_true rfl)⟩ hK hS hZ hPc hDc hF 0 rfl rfl rfl hl.1 rfl (Nat.le_of_ble_eq_true rfl) dL_law_1575 ⟨(Nat.le_of_ble_eq_true rfl), (Nat.le_of_ble_eq_true rfl)⟩) (fun r9 u7 H locs w8 hP hD hS => ?_)
  subst w8
  have hP : va_P K.1 classes [(qo, zJ K 1 (fun _ => 0)), (qm, zO 10 83 (va_up (zc71 u v) 81 (.int 1)))] H := hP
  have hD : va_D A [(qo, zJ K 1 (fun _ => 0)), (qm, zO 10 83 (va_up (zc71 u v) 81 (.int 1)))] := hD
  refine lv_iload hx hb dL_law_1578 (lv_at hl 1 rfl) ?_
  refine lv_icmp_eq (tgt := 1585) hx hb dL_law_1580 (by decide) (fun _ => ?_) (fun c => absurd (by decide) c)
  refine lv_iload hx hb dL_law_1585 (lv_at hl 1 rfl) ?_
  refine lv_if_ne (tgt := 1602) hx hb dL_law_1587 (by decide) (fun _ => ?_) (fun c => absurd c (by decide))
  refine lv_goto (tgt := 2026) hx hb dL_law_1602 (by decide) ?_
  exact law_back ⟨hx, hb, hr, hml, hown, hg, hX, hbl, hlocks, hK, hZ, hl9, hAA, hA, hbA⟩ (Nat.le_of_ble_eq_true rfl) (Nat.le_of_ble_eq_true rfl) hS (lv_sub hl [2, 6] rfl)
set_option maxHeartbeats 4000000 in
set_option maxRecDepth 100000 in
theorem lawS_19_5 {p : Program} {l : Launch} {e : Env} {s : State} {m : MethodId} {below : List Frame} {meth : Method} {c : Code} {b : Nat} {xs : Nat → Int32} {K : zK} {A : Nat → Prop} {H : Heap} {locs : List Loc} {ls : Array Slot} (C : zC p l s m meth c b xs K A) (qx qm qo : Nat) (u v : Nat → Nat) (h0 : xs 6 = 0) (h1 : 0 ≤ (xs 5).toInt) (h2 : (xs 5).toInt < 601) (h3 : (xs 1).toInt < 0) (hP : va_P K.1 classes (lwW K qx qm qo u v) H) (hD : va_D A (lwW K qx qm qo u v)) (hS : va_S A s.heap H locs) (hl : lv_has ls 7 [(4, .int 0), (3, .ref qo), (2, .ref qm), (1, .ref qx), (0, .ref b)]) : W p l e room_1 s m #[Value.ref b] below meth c H locs 124 1863516 (lw_Z below #[Value.ref b] s) (F0 m 1471 ls []) := by
  obtain ⟨hx, hb, hr, hml, hown, hg, hX, hbl, hlocks, hK, hZ, hl9, hAA, hA, hbA⟩ := C
  have hP : va_P K.1 classes [(qx, zO 9 9 (zc0 u v)), (qm, zO 10 83 (zc71 u v)), (qo, zJ K 1 (fun _ => 0))] H := hP.sub [0, 71, 123] rfl
  have hD : va_D A [(qx, zO 9 9 (zc0 u v)), (qm, zO 10 83 (zc71 u v)), (qo, zJ K 1 (fun _ => 0))] := hD.sub [0, 71, 123] (by decide +kernel) rfl
  refine lv_aload_n hx hb dL_law_1471 rfl (lv_at hl 3 rfl) ?_
  refine lv_aload_n hx hb dL_law_1472 rfl (lv_at hl 4 rfl) ?_
  refine lv_iload hx hb dL_law_1473 (lv_at hl 0 rfl) ?_
  refine lv_iconst (v := 1) hx hb dL_law_1475 (by decide) ?_
  refine lv_iadd hx hb dL_law_1476 ?_
  refine z_cst (v := 1) (by decide +kernel) ?_
  refine z_sld (v := (xs 1)) (j := 1) hx hb hX hbl hbA hS rfl (Nat.le_of_ble_eq_true rfl) rfl dL_law_1477 ?_
  refine lv_aload_n hx hb dL_law_1478 rfl (lv_at hl 4 rfl) ?_
  refine lv_iload hx hb dL_law_1479 (lv_at hl 0 rfl) ?_
  refine lv_iconst (v := 2) hx hb dL_law_1481 (by decide) ?_
  refine lv_iadd hx hb dL_law_1482 ?_
  refine z_cst (v := 2) (by decide +kernel) ?_
  refine z_sld (v := (xs 2)) (j := 2) hx hb hX hbl hbA hS rfl (Nat.le_of_ble_eq_true rfl) rfl dL_law_1483 ?_
  refine lv_aload_n hx hb dL_law_1484 rfl (lv_at hl 4 rfl) ?_
  refine lv_iload hx hb dL_law_1485 (lv_at hl 0 rfl) ?_
  refine lv_iconst (v := 3) hx hb dL_law_1487 (by decide) ?_
  refine lv_iadd hx hb dL_law_1488 ?_
  refine z_cst (v := 3) (by decide +kernel) ?_
  refine z_sld (v := (xs 3)) (j := 3) hx hb hX hbl hbA hS rfl (Nat.le_of_ble_eq_true rfl) rfl dL_law_1489 ?_
  refine lv_aload_n hx hb dL_law_1490 rfl (lv_at hl 4 rfl) ?_
  refine lv_iload hx hb dL_law_1491 (lv_at hl 0 rfl) ?_
  refine lv_iconst (v := 4) hx hb dL_law_1493 (by decide) ?_
  refine lv_iadd hx hb dL_law_1494 ?_
  refine z_cst (v := 4) (by decide +kernel) ?_
  refine z_sld (v := (xs 4)) (j := 4) hx hb hX hbl hbA hS rfl (Nat.le_of_ble_eq_true rfl) rfl dL_law_1495 ?_
  refine lv_aload_n hx hb dL_law_1496 rfl (lv_at hl 4 rfl) ?_
  refine lv_iload hx hb dL_law_1497 (lv_at hl 0 rfl) ?_
  refine lv_iconst (v := 5) hx hb dL_law_1499 (by decide) ?_
  refine lv_iadd hx hb dL_law_1500 ?_
  refine z_cst (v := 5) (by decide +kernel) ?_
  refine z_sld (v := (xs 5)) (j := 5) hx hb hX hbl hbA hS rfl (Nat.le_of_ble_eq_true rfl) rfl dL_law_1501 ?_
  refine lv_aload_n hx hb dL_law_1502 rfl (lv_at hl 4 rfl) ?_
  refine lv_iload hx hb dL_law_1503 (lv_at hl 0 rfl) ?_
  refine lv_bipush (v := 6) hx hb dL_law_1505 (by decide) ?_
  refine lv_iadd hx hb dL_law_1507 ?_
  refine z_cst (v := 6) (by decide +kernel) ?_
  refine z_sld (v := 0) (j := 6) hx hb hX hbl hbA hS rfl (Nat.le_of_ble_eq_true rfl) h0 dL_law_1508 ?_
  refine lv_if_eq (tgt := 1516) hx hb dL_law_1509 (by decide) (fun _ => ?_) (fun c => absurd (by decide) c)
  refine lv_iconst (v := 0) hx hb dL_law_1516 (by decide) ?_
  refine lv_aload_n hx hb dL_law_1517 rfl (lv_at hl 1 rfl) ?_
  refine z_hcalli [(qx, zO 9 9 (zc0 u v))] [(qm, zO 10 83 (zc71 u v)), (qo, zJ K 1 (fun _ => 0))] [0] [1, 2] hP hD hS hA rfl rfl (by decide +kernel) (by decide +kernel) (by decide +kernel) 125 1863522 rfl rfl (fun hPc hDc hF => z_xrunH (As := [.ref qx, .int (xs 1), .int (xs 2), .int (xs 3), .int (xs 4), .int (xs 5), .int 0, .ref qo]) (rest := []) ⟨hx, hb, hml, hown, hg⟩ (cL_run_4 l hl9 K H.size qx qo (zc0 u v) (xs 1) (xs 2) (xs 3) (xs 4) (xs 5) (by rw [Int32.lt_iff_toInt_lt, show (0 : Int32).toInt = 0 from by decide]; omega) (by rw [Int32.lt_iff_toInt_lt, show (601 : Int32).toInt = 601 from by decide]; omega) (by rw [Int32.lt_iff_toInt_lt, show (0 : Int32).toInt = 0 from by decide]; omega)) kS_RL_166 hd_L_run rfl rfl ⟨(Nat.le_of_ble_eq_true rfl), (Nat.le_of_ble_eq_true rfl)⟩ hK hS hZ hPc hDc hF rfl hl.1 rfl (Nat.le_of_ble_eq_true rfl) dL_law_1518 ⟨(Nat.le_of_ble_eq_true rfl), (Nat.le_of_ble_eq_true rfl)⟩) (fun r3 u1 H locs w2 hP hD hS => ?_)
  subst w2
  have hP : va_P K.1 classes [(qm, zO 10 83 (zc71 u v)), (qo, zJ K 1 (fun _ => 0))] H := hP
  have hD : va_D A [(qm, zO 10 83 (zc71 u v)), (qo, zJ K 1 (fun _ => 0))] := hD
  refine lv_istore (lv' := [(5, .int 1), (4, .int 0), (3, .ref qo), (2, .ref qm), (1, .ref qx), (0, .ref b)]) hx hb dL_law_1521 hl (by decide) rfl (fun ls hl => ?_)
  refine lv_aload_n hx hb dL_law_1523 rfl (lv_at hl 3 rfl) ?_
  refine lv_aload_n hx hb dL_law_1524 rfl (lv_at hl 5 rfl) ?_
  refine lv_iload hx hb dL_law_1525 (lv_at hl 1 rfl) ?_
  refine lv_iconst (v := 1) hx hb dL_law_1527 (by decide) ?_
  refine lv_iadd hx hb dL_law_1528 ?_
  refine z_cst (v := 1) (by decide +kernel) ?_
  refine z_sld (v := (xs 1)) (j := 1) hx hb hX hbl hbA hS rfl (Nat.le_of_ble_eq_true rfl) rfl dL_law_1529 ?_
  refine lv_aload_n hx hb dL_law_1530 rfl (lv_at hl 5 rfl) ?_
  refine lv_iload hx hb dL_law_1531 (lv_at hl 1 rfl) ?_
  refine lv_iconst (v := 2) hx hb dL_law_1533 (by decide) ?_
  refine lv_iadd hx hb dL_law_1534 ?_
  refine z_cst (v := 2) (by decide +kernel) ?_
  refine z_sld (v := (xs 2)) (j := 2) hx hb hX hbl hbA hS rfl (Nat.le_of_ble_eq_true rfl) rfl dL_law_1535 ?_
  refine lv_aload_n hx hb dL_law_1536 rfl (lv_at hl 5 rfl) ?_
  refine lv_iload hx hb dL_law_1537 (lv_at hl 1 rfl) ?_
  refine lv_iconst (v := 3) hx hb dL_law_1539 (by decide) ?_
  refine lv_iadd hx hb dL_law_1540 ?_
  refine z_cst (v := 3) (by decide +kernel) ?_
  refine z_sld (v := (xs 3)) (j := 3) hx hb hX hbl hbA hS rfl (Nat.le_of_ble_eq_true rfl) rfl dL_law_1541 ?_
  refine lv_aload_n hx hb dL_law_1542 rfl (lv_at hl 5 rfl) ?_
  refine lv_iload hx hb dL_law_1543 (lv_at hl 1 rfl) ?_
  refine lv_iconst (v := 4) hx hb dL_law_1545 (by decide) ?_
  refine lv_iadd hx hb dL_law_1546 ?_
  refine z_cst (v := 4) (by decide +kernel) ?_
  refine z_sld (v := (xs 4)) (j := 4) hx hb hX hbl hbA hS rfl (Nat.le_of_ble_eq_true rfl) rfl dL_law_1547 ?_
  refine lv_aload_n hx hb dL_law_1548 rfl (lv_at hl 5 rfl) ?_
  refine lv_iload hx hb dL_law_1549 (lv_at hl 1 rfl) ?_
  refine lv_iconst (v := 5) hx hb dL_law_1551 (by decide) ?_
  refine lv_iadd hx hb dL_law_1552 ?_
  refine z_cst (v := 5) (by decide +kernel) ?_
  refine z_sld (v := (xs 5)) (j := 5) hx hb hX hbl hbA hS rfl (Nat.le_of_ble_eq_true rfl) rfl dL_law_1553 ?_
  refine lv_aload_n hx hb dL_law_1554 rfl (lv_at hl 5 rfl) ?_
  refine lv_iload hx hb dL_law_1555 (lv_at hl 1 rfl) ?_
  refine lv_bipush (v := 6) hx hb dL_law_1557 (by decide) ?_
  refine lv_iadd hx hb dL_law_1559 ?_
  refine z_cst (v := 6) (by decide +kernel) ?_
  refine z_sld (v := 0) (j := 6) hx hb hX hbl hbA hS rfl (Nat.le_of_ble_eq_true rfl) h0 dL_law_1560 ?_
  refine lv_if_eq (tgt := 1568) hx hb dL_law_1561 (by decide) (fun _ => ?_) (fun c => absurd (by decide) c)
  refine lv_iconst (v := 0) hx hb dL_law_1568 (by decide) ?_
  refine z_calli [(qm, zO 10 83 (zc71 u v))] [(qo, zJ K 1 (fun _ => 0))] [0] [1] hP hD hS hA rfl rfl (by decide +kernel) (by decide +kernel) (by decide +kernel) 125 1863522 rfl rfl (fun hPc hDc hF => z_runV (As := [.int (xs 1), .int (xs 2), .int (xs 3), .int (xs 4), .int (xs 5), .int 0]) (rest := []) ⟨hx, hb, hml, hown, hg⟩ (cX12_run_6 l K H.size qm (zc71 u v) (xs 1) (xs 2) (xs 3) (xs 4) (xs 5) (by rw [Int32.lt_iff_toInt_lt, show (0 : Int32).toInt = 0 from by decide]; omega) (by rw [Int32.lt_iff_toInt_lt, show (600 : Int32).toInt = 600 from by decide]; omega) (by rw [Int32.lt_iff_toInt_lt, show (0 : Int32).toInt = 0 from by decide]; omega)) kV_RL_169 hd_X12_run rfl rfl ⟨(Nat.le_of_ble_eq_true rfl), (Nat.le_of_ble_eq_true rfl)⟩ hK hS hZ hPc hDc hF 0 rfl rfl rfl hl.1 rfl (Nat.le_of_ble_eq_true rfl) dL_law_1569 ⟨(Nat.le_of_ble_eq_true rfl), (Nat.le_of_ble_eq_true rfl)⟩) (fun r6 u4 H locs w5 hP hD hS => ?_)
  subst w5
  have hP : va_P K.1 classes [(qo, zJ K 1 (fun _ => 0)), (qm, zO 10 83 (va_up (zc71 u v) 81 (.int 1)))] H := hP
  have hD : va_D A [(qo, zJ K 1 (fun _ => 0)), (qm, zO 10 83 (va_up (zc71 u v) 81 (.int 1)))] := hD
  refine lv_istore (lv' := [(6, .int 0), (5, .int 1), (4, .int 0), (3, .ref qo), (2, .ref qm), (1, .ref qx), (0, .ref b)]) hx hb dL_law_1572 hl (by decide) rfl (fun ls hl => ?_)
  refine lv_aload_n hx hb dL_law_1574 rfl (lv_at hl 4 rfl) ?_
  refine z_calli [(qm, zO 10 83 (va_up (zc71 u v) 81 (.int 1)))] [(qo, zJ K 1 (fun _ => 0))] [1] [0] hP hD hS hA rfl rfl (by decide +kernel) (by decide +kernel) (by decide +kernel) 125 1863522 rfl rfl (fun hPc hDc hF => z_runV (As := []) (rest := []) ⟨hx, hb, hml, hown, hg⟩ (cX12_thrown_2 l K H.size qm (va_up (zc71 u v) 81 (.int 1)) zu_eq) kV_RL_104 hd_X12_thrown rfl rfl ⟨(Nat.le_of_ble_eq_true rfl), (Nat.le_of_ble_eq_true rfl)⟩ hK hS hZ hPc hDc hF 0 rfl rfl rfl hl.1 rfl (Nat.le_of_ble_eq_true rfl) dL_law_1575 ⟨(Nat.le_of_ble_eq_true rfl), (Nat.le_of_ble_eq_true rfl)⟩) (fun r9 u7 H locs w8 hP hD hS => ?_)
  subst w8
  have hP : va_P K.1 classes [(qo, zJ K 1 (fun _ => 0)), (qm, zO 10 83 (va_up (zc71 u v) 81 (.int 1)))] H := hP
  have hD : va_D A [(qo, zJ K 1 (fun _ => 0)), (qm, zO 10 83 (va_up (zc71 u v) 81 (.int 1)))] := hD
  refine lv_iload hx hb dL_law_1578 (lv_at hl 1 rfl) ?_
  refine lv_icmp_eq (tgt := 1585) hx hb dL_law_1580 (by decide) (fun _ => ?_) (fun c => absurd (by decide) c)
  refine lv_iload hx hb dL_law_1585 (lv_at hl 1 rfl) ?_
  refine lv_if_ne (tgt := 1602) hx hb dL_law_1587 (by decide) (fun _ => ?_) (fun c => absurd c (by decide))
  refine lv_goto (tgt := 2026) hx hb dL_law_1602 (by decide) ?_
  exact law_back ⟨hx, hb, hr, hml, hown, hg, hX, hbl, hlocks, hK, hZ, hl9, hAA, hA, hbA⟩ (Nat.le_of_ble_eq_true rfl) (Nat.le_of_ble_eq_true rfl) hS (lv_sub hl [2, 6] rfl)
set_option maxHeartbeats 4000000 in
set_option maxRecDepth 100000 in
theorem lawS_19_6 {p : Program} {l : Launch} {e : Env} {s : State} {m : MethodId} {below : List Frame} {meth : Method} {c : Code} {b : Nat} {xs : Nat → Int32} {K : zK} {A : Nat → Prop} {H : Heap} {locs : List Loc} {ls : Array Slot} (C : zC p l s m meth c b xs K A) (qx qm qo : Nat) (u v : Nat → Nat) (h0 : xs 6 = 0) (h1 : 0 ≤ (xs 5).toInt) (h2 : (xs 5).toInt < 601) (h3 : 0 ≤ (xs 1).toInt) (h4 : (xs 1).toInt < 8) (h5 : (xs 2).toInt < 0) (hP : va_P K.1 classes (lwW K qx qm qo u v) H) (hD : va_D A (lwW K qx qm qo u v)) (hS : va_S A s.heap H locs) (hl : lv_has ls 7 [(4, .int 0), (3, .ref qo), (2, .ref qm), (1, .ref qx), (0, .ref b)]) : W p l e room_1 s m #[Value.ref b] below meth c H locs 124 1863516 (lw_Z below #[Value.ref b] s) (F0 m 1471 ls []) := by
  obtain ⟨hx, hb, hr, hml, hown, hg, hX, hbl, hlocks, hK, hZ, hl9, hAA, hA, hbA⟩ := C
  have hP : va_P K.1 classes [(qx, zO 9 9 (zc0 u v)), (qm, zO 10 83 (zc71 u v)), (qo, zJ K 1 (fun _ => 0))] H := hP.sub [0, 71, 123] rfl
  have hD : va_D A [(qx, zO 9 9 (zc0 u v)), (qm, zO 10 83 (zc71 u v)), (qo, zJ K 1 (fun _ => 0))] := hD.sub [0, 71, 123] (by decide +kernel) rfl
  obtain ⟨t1, ht1, v1⟩ : ∃ j : Nat, j < 8 ∧ xs 1 = nI j := z_nat (n := 8) (by omega) (by omega) (by decide)
  refine lv_aload_n hx hb dL_law_1471 rfl (lv_at hl 3 rfl) ?_
  refine lv_aload_n hx hb dL_law_1472 rfl (lv_at hl 4 rfl) ?_
  refine lv_iload hx hb dL_law_1473 (lv_at hl 0 rfl) ?_
  refine lv_iconst (v := 1) hx hb dL_law_1475 (by decide) ?_
  refine lv_iadd hx hb dL_law_1476 ?_
  refine z_cst (v := 1) (by decide +kernel) ?_
  refine z_sld (v := (nI t1)) (j := 1) hx hb hX hbl hbA hS rfl (Nat.le_of_ble_eq_true rfl) v1 dL_law_1477 ?_
  refine lv_aload_n hx hb dL_law_1478 rfl (lv_at hl 4 rfl) ?_
  refine lv_iload hx hb dL_law_1479 (lv_at hl 0 rfl) ?_
  refine lv_iconst (v := 2) hx hb dL_law_1481 (by decide) ?_
  refine lv_iadd hx hb dL_law_1482 ?_
  refine z_cst (v := 2) (by decide +kernel) ?_
  refine z_sld (v := (xs 2)) (j := 2) hx hb hX hbl hbA hS rfl (Nat.le_of_ble_eq_true rfl) rfl dL_law_1483 ?_
  refine lv_aload_n hx hb dL_law_1484 rfl (lv_at hl 4 rfl) ?_
  refine lv_iload hx hb dL_law_1485 (lv_at hl 0 rfl) ?_
  refine lv_iconst (v := 3) hx hb dL_law_1487 (by decide) ?_
  refine lv_iadd hx hb dL_law_1488 ?_
  refine z_cst (v := 3) (by decide +kernel) ?_
  refine z_sld (v := (xs 3)) (j := 3) hx hb hX hbl hbA hS rfl (Nat.le_of_ble_eq_true rfl) rfl dL_law_1489 ?_
  refine lv_aload_n hx hb dL_law_1490 rfl (lv_at hl 4 rfl) ?_
  refine lv_iload hx hb dL_law_1491 (lv_at hl 0 rfl) ?_
  refine lv_iconst (v := 4) hx hb dL_law_1493 (by decide) ?_
  refine lv_iadd hx hb dL_law_1494 ?_
  refine z_cst (v := 4) (by decide +kernel) ?_
  refine z_sld (v := (xs 4)) (j := 4) hx hb hX hbl hbA hS rfl (Nat.le_of_ble_eq_true rfl) rfl dL_law_1495 ?_
  refine lv_aload_n hx hb dL_law_1496 rfl (lv_at hl 4 rfl) ?_
  refine lv_iload hx hb dL_law_1497 (lv_at hl 0 rfl) ?_
  refine lv_iconst (v := 5) hx hb dL_law_1499 (by decide) ?_
  refine lv_iadd hx hb dL_law_1500 ?_
  refine z_cst (v := 5) (by decide +kernel) ?_
  refine z_sld (v := (xs 5)) (j := 5) hx hb hX hbl hbA hS rfl (Nat.le_of_ble_eq_true rfl) rfl dL_law_1501 ?_
  refine lv_aload_n hx hb dL_law_1502 rfl (lv_at hl 4 rfl) ?_
  refine lv_iload hx hb dL_law_1503 (lv_at hl 0 rfl) ?_
  refine lv_bipush (v := 6) hx hb dL_law_1505 (by decide) ?_
  refine lv_iadd hx hb dL_law_1507 ?_
  refine z_cst (v := 6) (by decide +kernel) ?_
  refine z_sld (v := 0) (j := 6) hx hb hX hbl hbA hS rfl (Nat.le_of_ble_eq_true rfl) h0 dL_law_1508 ?_
  refine lv_if_eq (tgt := 1516) hx hb dL_law_1509 (by decide) (fun _ => ?_) (fun c => absurd (by decide) c)
  refine lv_iconst (v := 0) hx hb dL_law_1516 (by decide) ?_
  refine lv_aload_n hx hb dL_law_1517 rfl (lv_at hl 1 rfl) ?_
  refine z_hcalli [(qx, zO 9 9 (zc0 u v))] [(qm, zO 10 83 (zc71 u v)), (qo, zJ K 1 (fun _ => 0))] [0] [1, 2] hP hD hS hA rfl rfl (by decide +kernel) (by decide +kernel) (by decide +kernel) 125 1863522 rfl rfl (fun hPc hDc hF => z_xrunH (As := [.ref qx, .int (nI t1), .int (xs 2), .int (xs 3), .int (xs 4), .int (xs 5), .int 0, .ref qo]) (rest := []) ⟨hx, hb, hml, hown, hg⟩ (cL_run_5 l hl9 K H.size qx qo (zc0 u v) t1 ht1 (xs 2) (xs 3) (xs 4) (xs 5) (by rw [Int32.lt_iff_toInt_lt, show (0 : Int32).toInt = 0 from by decide]; omega) (by rw [Int32.lt_iff_toInt_lt, show (601 : Int32).toInt = 601 from by decide]; omega) (by rw [Int32.lt_iff_toInt_lt, show (0 : Int32).toInt = 0 from by decide]; omega)) kS_RL_166 hd_L_run rfl rfl ⟨(Nat.le_of_ble_eq_true rfl), (Nat.le_of_ble_eq_true rfl)⟩ hK hS hZ hPc hDc hF rfl hl.1 rfl (Nat.le_of_ble_eq_true rfl) dL_law_1518 ⟨(Nat.le_of_ble_eq_true rfl), (Nat.le_of_ble_eq_true rfl)⟩) (fun r3 u1 H locs w2 hP hD hS => ?_)
  subst w2
  have hP : va_P K.1 classes [(qm, zO 10 83 (zc71 u v)), (qo, zJ K 1 (fun _ => 0))] H := hP
  have hD : va_D A [(qm, zO 10 83 (zc71 u v)), (qo, zJ K 1 (fun _ => 0))] := hD
  refine lv_istore (lv' := [(5, .int 1), (4, .int 0), (3, .ref qo), (2, .ref qm), (1, .ref qx), (0, .ref b)]) hx hb dL_law_1521 hl (by decide) rfl (fun ls hl => ?_)
  refine lv_aload_n hx hb dL_law_1523 rfl (lv_at hl 3 rfl) ?_
  refine lv_aload_n hx hb dL_law_1524 rfl (lv_at hl 5 rfl) ?_
  refine lv_iload hx hb dL_law_1525 (lv_at hl 1 rfl) ?_
  refine lv_iconst (v := 1) hx hb dL_law_1527 (by decide) ?_
  refine lv_iadd hx hb dL_law_1528 ?_
  refine z_cst (v := 1) (by decide +kernel) ?_
  refine z_sld (v := (nI t1)) (j := 1) hx hb hX hbl hbA hS rfl (Nat.le_of_ble_eq_true rfl) v1 dL_law_1529 ?_
  refine lv_aload_n hx hb dL_law_1530 rfl (lv_at hl 5 rfl) ?_
  refine lv_iload hx hb dL_law_1531 (lv_at hl 1 rfl) ?_
  refine lv_iconst (v := 2) hx hb dL_law_1533 (by decide) ?_
  refine lv_iadd hx hb dL_law_1534 ?_
  refine z_cst (v := 2) (by decide +kernel) ?_
  refine z_sld (v := (xs 2)) (j := 2) hx hb hX hbl hbA hS rfl (Nat.le_of_ble_eq_true rfl) rfl dL_law_1535 ?_
  refine lv_aload_n hx hb dL_law_1536 rfl (lv_at hl 5 rfl) ?_
  refine lv_iload hx hb dL_law_1537 (lv_at hl 1 rfl) ?_
  refine lv_iconst (v := 3) hx hb dL_law_1539 (by decide) ?_
  refine lv_iadd hx hb dL_law_1540 ?_
  refine z_cst (v := 3) (by decide +kernel) ?_
  refine z_sld (v := (xs 3)) (j := 3) hx hb hX hbl hbA hS rfl (Nat.le_of_ble_eq_true rfl) rfl dL_law_1541 ?_
  refine lv_aload_n hx hb dL_law_1542 rfl (lv_at hl 5 rfl) ?_
  refine lv_iload hx hb dL_law_1543 (lv_at hl 1 rfl) ?_
  refine lv_iconst (v := 4) hx hb dL_law_1545 (by decide) ?_
  refine lv_iadd hx hb dL_law_1546 ?_
  refine z_cst (v := 4) (by decide +kernel) ?_
  refine z_sld (v := (xs 4)) (j := 4) hx hb hX hbl hbA hS rfl (Nat.le_of_ble_eq_true rfl) rfl dL_law_1547 ?_
  refine lv_aload_n hx hb dL_law_1548 rfl (lv_at hl 5 rfl) ?_
  refine lv_iload hx hb dL_law_1549 (lv_at hl 1 rfl) ?_
  refine lv_iconst (v := 5) hx hb dL_law_1551 (by decide) ?_
  refine lv_iadd hx hb dL_law_1552 ?_
  refine z_cst (v := 5) (by decide +kernel) ?_
  refine z_sld (v := (xs 5)) (j := 5) hx hb hX hbl hbA hS rfl (Nat.le_of_ble_eq_true rfl) rfl dL_law_1553 ?_
  refine lv_aload_n hx hb dL_law_1554 rfl (lv_at hl 5 rfl) ?_
  refine lv_iload hx hb dL_law_1555 (lv_at hl 1 rfl) ?_
  refine lv_bipush (v := 6) hx hb dL_law_1557 (by decide) ?_
  refine lv_iadd hx hb dL_law_1559 ?_
  refine z_cst (v := 6) (by decide +kernel) ?_
  refine z_sld (v := 0) (j := 6) hx hb hX hbl hbA hS rfl (Nat.le_of_ble_eq_true rfl) h0 dL_law_1560 ?_
  refine lv_if_eq (tgt := 1568) hx hb dL_law_1561 (by decide) (fun _ => ?_) (fun c => absurd (by decide) c)
  refine lv_iconst (v := 0) hx hb dL_law_1568 (by decide) ?_
  refine z_calli [(qm, zO 10 83 (zc71 u v))] [(qo, zJ K 1 (fun _ => 0))] [0] [1] hP hD hS hA rfl rfl (by decide +kernel) (by decide +kernel) (by decide +kernel) 125 1863522 rfl rfl (fun hPc hDc hF => z_runV (As := [.int (nI t1), .int (xs 2), .int (xs 3), .int (xs 4), .int (xs 5), .int 0]) (rest := []) ⟨hx, hb, hml, hown, hg⟩ (cX12_run_7 l K H.size qm (zc71 u v) t1 ht1 (xs 2) (xs 3) (xs 4) (xs 5) (by rw [Int32.lt_iff_toInt_lt, show (0 : Int32).toInt = 0 from by decide]; omega) (by rw [Int32.lt_iff_toInt_lt, show (600 : Int32).toInt = 600 from by decide]; omega) (by rw [Int32.lt_iff_toInt_lt, show (0 : Int32).toInt = 0 from by decide]; omega)) kV_RL_169 hd_X12_run rfl rfl ⟨(Nat.le_of_ble_eq_true rfl), (Nat.le_of_ble_eq_true rfl)⟩ hK hS hZ hPc hDc hF 0 rfl rfl rfl hl.1 rfl (Nat.le_of_ble_eq_true rfl) dL_law_1569 ⟨(Nat.le_of_ble_eq_true rfl), (Nat.le_of_ble_eq_true rfl)⟩) (fun r6 u4 H locs w5 hP hD hS => ?_)
  subst w5
  have hP : va_P K.1 classes [(qo, zJ K 1 (fun _ => 0)), (qm, zO 10 83 (va_up (zc71 u v) 81 (.int 1)))] H := hP
  have hD : va_D A [(qo, zJ K 1 (fun _ => 0)), (qm, zO 10 83 (va_up (zc71 u v) 81 (.int 1)))] := hD
  refine lv_istore (lv' := [(6, .int 0), (5, .int 1), (4, .int 0), (3, .ref qo), (2, .ref qm), (1, .ref qx), (0, .ref b)]) hx hb dL_law_1572 hl (by decide) rfl (fun ls hl => ?_)
  refine lv_aload_n hx hb dL_law_1574 rfl (lv_at hl 4 rfl) ?_
  refine z_calli [(qm, zO 10 83 (va_up (zc71 u v) 81 (.int 1)))] [(qo, zJ K 1 (fun _ => 0))] [1] [0] hP hD hS hA rfl rfl (by decide +kernel) (by decide +kernel) (by decide +kernel) 125 1863522 rfl rfl (fun hPc hDc hF => z_runV (As := []) (rest := []) ⟨hx, hb, hml, hown, hg⟩ (cX12_thrown_2 l K H.size qm (va_up (zc71 u v) 81 (.int 1)) zu_eq) kV_RL_104 hd_X12_thrown rfl rfl ⟨(Nat.le_of_ble_eq_true rfl), (Nat.le_of_ble_eq_true rfl)⟩ hK hS hZ hPc hDc hF 0 rfl rfl rfl hl.1 rfl (Nat.le_of_ble_eq_true rfl) dL_law_1575 ⟨(Nat.le_of_ble_eq_true rfl), (Nat.le_of_ble_eq_true rfl)⟩) (fun r9 u7 H locs w8 hP hD hS => ?_)
  subst w8
  have hP : va_P K.1 classes [(qo, zJ K 1 (fun _ => 0)), (qm, zO 10 83 (va_up (zc71 u v) 81 (.int 1)))] H := hP
  have hD : va_D A [(qo, zJ K 1 (fun _ => 0)), (qm, zO 10 83 (va_up (zc71 u v) 81 (.int 1)))] := hD
  refine lv_iload hx hb dL_law_1578 (lv_at hl 1 rfl) ?_
  refine lv_icmp_eq (tgt := 1585) hx hb dL_law_1580 (by decide) (fun _ => ?_) (fun c => absurd (by decide) c)
  refine lv_iload hx hb dL_law_1585 (lv_at hl 1 rfl) ?_
  refine lv_if_ne (tgt := 1602) hx hb dL_law_1587 (by decide) (fun _ => ?_) (fun c => absurd c (by decide))
  refine lv_goto (tgt := 2026) hx hb dL_law_1602 (by decide) ?_
  exact law_back ⟨hx, hb, hr, hml, hown, hg, hX, hbl, hlocks, hK, hZ, hl9, hAA, hA, hbA⟩ (Nat.le_of_ble_eq_true rfl) (Nat.le_of_ble_eq_true rfl) hS (lv_sub hl [2, 6] rfl)
set_option maxHeartbeats 4000000 in
set_option maxRecDepth 100000 in
theorem lawS_19_7 {p : Program} {l : Launch} {e : Env} {s : State} {m : MethodId} {below : List Frame} {meth : Method} {c : Code} {b : Nat} {xs : Nat → Int32} {K : zK} {A : Nat → Prop} {H : Heap} {locs : List Loc} {ls : Array Slot} (C : zC p l s m meth c b xs K A) (qx qm qo : Nat) (u v : Nat → Nat) (h0 : xs 6 = 0) (h1 : 0 ≤ (xs 5).toInt) (h2 : (xs 5).toInt < 601) (h3 : 0 ≤ (xs 1).toInt) (h4 : (xs 1).toInt < 8) (h5 : 0 ≤ (xs 2).toInt) (h6 : (xs 2).toInt < 3) (h7 : xs 5 = 1) (h8 : (xs 2).toInt < 1) (hP : va_P K.1 classes (lwW K qx qm qo u v) H) (hD : va_D A (lwW K qx qm qo u v)) (hS : va_S A s.heap H locs) (hl : lv_has ls 7 [(4, .int 0), (3, .ref qo), (2, .ref qm), (1, .ref qx), (0, .ref b)]) : W p l e room_1 s m #[Value.ref b] below meth c H locs 124 1863516 (lw_Z below #[Value.ref b] s) (F0 m 1471 ls []) := by
  obtain ⟨hx, hb, hr, hml, hown, hg, hX, hbl, hlocks, hK, hZ, hl9, hAA, hA, hbA⟩ := C
  have hP : va_P K.1 classes [(qx, zO 9 9 (zc0 u v)), ((u 8), zO 4 6 (zc9 u v)), ((u 9), zO 7 6 (zc10 u v)), ((u 10), zI K 645 (fun _ => 0)), ((u 11), zI K 645 (fun _ => 0)), ((u 12), zI K 645 (fun _ => 0)), ((u 13), zI K 645 (fun _ => 0)), ((u 14), zI K 1935 (fun _ => 0)), ((u 16), zI K 8 (fun _ => 0)), ((u 20), zO 4 6 (zc21 u v)), ((u 28), zI K 8 (fun _ => 0)), ((u 59), zO 1 18 (zc60 u v)), ((u 60), zO 3 7 (zc61 u v)), ((u 61), zR K 512 (fun _ => none)), ((u 62), zO 2 6 (zc63 u v)), ((u 68), zI K 10 (fun _ => 0)), (qm, zO 10 83 (zc71 u v)), ((v 7), zI K 1290 (fun _ => 0)), ((v 8), zI K 1290 (fun _ => 0)), ((v 12), zI K 1290 (fun _ => 0)), ((v 25), zI K 60000 (fun _ => 0)), ((v 26), zI K 60000 (fun _ => 0)), ((v 27), zI K 60000 (fun _ => 0)), ((v 28), zI K 60000 (fun _ => 0)), ((v 29), zI K 60000 (fun _ => 0)), ((v 30), zI K 60000 (fun _ => 0)), ((v 31), zI K 60000 (fun _ => 0)), ((v 42), zI K 210000 (fun _ => 0)), ((v 43), zI K 210000 (fun _ => 0)), ((v 49), zI K 10 (fun _ => 0)), (qo, zJ K 1 (fun _ => 0))] H := hP.sub [0, 9, 10, 11, 12, 13, 14, 15, 17, 21, 29, 60, 61, 62, 63, 69, 71, 79, 80, 84, 97, 98, 99, 100, 101, 102, 103, 114, 115, 121, 123] rfl
  have hD : va_D A [(qx, zO 9 9 (zc0 u v)), ((u 8), zO 4 6 (zc9 u v)), ((u 9), zO 7 6 (zc10 u v)), ((u 10), zI K 645 (fun _ => 0)), ((u 11), zI K 645 (fun _ => 0)), ((u 12), zI K 645 (fun _ => 0)), ((u 13), zI K 645 (fun _ => 0)), ((u 14), zI K 1935 (fun _ => 0)), ((u 16), zI K 8 (fun _ => 0)), ((u 20), zO 4 6 (zc21 u v)), ((u 28), zI K 8 (fun _ => 0)), ((u 59), zO 1 18 (zc60 u v)), ((u 60), zO 3 7 (zc61 u v)), ((u 61), zR K 512 (fun _ => none)), ((u 62), zO 2 6 (zc63 u v)), ((u 68), zI K 10 (fun _ => 0)), (qm, zO 10 83 (zc71 u v)), ((v 7), zI K 1290 (fun _ => 0)), ((v 8), zI K 1290 (fun _ => 0)), ((v 12), zI K 1290 (fun _ => 0)), ((v 25), zI K 60000 (fun _ => 0)), ((v 26), zI K 60000 (fun _ => 0)), ((v 27), zI K 60000 (fun _ => 0)), ((v 28), zI K 60000 (fun _ => 0)), ((v 29), zI K 60000 (fun _ => 0)), ((v 30), zI K 60000 (fun _ => 0)), ((v 31), zI K 60000 (fun _ => 0)), ((v 42), zI K 210000 (fun _ => 0)), ((v 43), zI K 210000 (fun _ => 0)), ((v 49), zI K 10 (fun _ => 0)), (qo, zJ K 1 (fun _ => 0))] := hD.sub [0, 9, 10, 11, 12, 13, 14, 15, 17, 21, 29, 60, 61, 62, 63, 69, 71, 79, 80, 84, 97, 98, 99, 100, 101, 102, 103, 114, 115, 121, 123] (by decide +kernel) rfl
  obtain ⟨t1, ht1, v1⟩ : ∃ j : Nat, j < 8 ∧ xs 1 = nI j := z_nat (n := 8) (by omega) (by omega) (by decide)
  have v2 : xs 2 = 0 := z_lit (by rw [show (0 : Int32).toInt = 0 from by decide]; omega)
  refine lv_aload_n hx hb dL_law_1471 rfl (lv_at hl 3 rfl) ?_
  refine lv_aload_n hx hb dL_law_1472 rfl (lv_at hl 4 rfl) ?_
  refine lv_iload hx hb dL_law_1473 (lv_at hl 0 rfl) ?_
  refine lv_iconst (v := 1) hx hb dL_law_1475 (by decide) ?_
  refine lv_iadd hx hb dL_law_1476 ?_
  refine z_cst (v := 1) (by decide +kernel) ?_
  refine z_sld (v := (nI t1)) (j := 1) hx hb hX hbl hbA hS rfl (Nat.le_of_ble_eq_true rfl) v1 dL_law_1477 ?_
  refine lv_aload_n hx hb dL_law_1478 rfl (lv_at hl 4 rfl) ?_
  refine lv_iload hx hb dL_law_1479 (lv_at hl 0 rfl) ?_
  refine lv_iconst (v := 2) hx hb dL_law_1481 (by decide) ?_
  refine lv_iadd hx hb dL_law_1482 ?_
  refine z_cst (v := 2) (by decide +kernel) ?_
  refine z_sld (v := 0) (j := 2) hx hb hX hbl hbA hS rfl (Nat.le_of_ble_eq_true rfl) v2 dL_law_1483 ?_
  refine lv_aload_n hx hb dL_law_1484 rfl (lv_at hl 4 rfl) ?_
  refine lv_iload hx hb dL_law_1485 (lv_at hl 0 rfl) ?_
  refine lv_iconst (v := 3) hx hb dL_law_1487 (by decide) ?_
  refine lv_iadd hx hb dL_law_1488 ?_
  refine z_cst (v := 3) (by decide +kernel) ?_
  refine z_sld (v := (xs 3)) (j := 3) hx hb hX hbl hbA hS rfl (Nat.le_of_ble_eq_true rfl) rfl dL_law_1489 ?_
  refine lv_aload_n hx hb dL_law_1490 rfl (lv_at hl 4 rfl) ?_
  refine lv_iload hx hb dL_law_1491 (lv_at hl 0 rfl) ?_
  refine lv_iconst (v := 4) hx hb dL_law_1493 (by decide) ?_
  refine lv_iadd hx hb dL_law_1494 ?_
  refine z_cst (v := 4) (by decide +kernel) ?_
  refine z_sld (v := (xs 4)) (j := 4) hx hb hX hbl hbA hS rfl (Nat.le_of_ble_eq_true rfl) rfl dL_law_1495 ?_
  refine lv_aload_n hx hb dL_law_1496 rfl (lv_at hl 4 rfl) ?_
  refine lv_iload hx hb dL_law_1497 (lv_at hl 0 rfl) ?_
  refine lv_iconst (v := 5) hx hb dL_law_1499 (by decide) ?_
  refine lv_iadd hx hb dL_law_1500 ?_
  refine z_cst (v := 5) (by decide +kernel) ?_
  refine z_sld (v := 1) (j := 5) hx hb hX hbl hbA hS rfl (Nat.le_of_ble_eq_true rfl) h7 dL_law_1501 ?_
  refine lv_aload_n hx hb dL_law_1502 rfl (lv_at hl 4 rfl) ?_
  refine lv_iload hx hb dL_law_1503 (lv_at hl 0 rfl) ?_
  refine lv_bipush (v := 6) hx hb dL_law_1505 (by decide) ?_
  refine lv_iadd hx hb dL_law_1507 ?_
  refine z_cst (v := 6) (by decide +kernel) ?_
  refine z_sld (v := 0) (j := 6) hx hb hX hbl hbA hS rfl (Nat.le_of_ble_eq_true rfl) h0 dL_law_1508 ?_
  refine lv_if_eq (tgt := 1516) hx hb dL_law_1509 (by decide) (fun _ => ?_) (fun c => absurd (by decide) c)
  refine lv_iconst (v := 0) hx hb dL_law_1516 (by decide) ?_
  refine lv_aload_n hx hb dL_law_1517 rfl (lv_at hl 1 rfl) ?_
  refine z_hcalli [(qx, zO 9 9 (zc0 u v)), ((u 8), zO 4 6 (zc9 u v)), ((u 9), zO 7 6 (zc10 u v)), ((u 10), zI K 645 (fun _ => 0)), ((u 11), zI K 645 (fun _ => 0)), ((u 12), zI K 645 (fun _ => 0)), ((u 13), zI K 645 (fun _ => 0)), ((u 14), zI K 1935 (fun _ => 0)), ((u 59), zO 1 18 (zc60 u v)), ((u 60), zO 3 7 (zc61 u v)), ((u 16), zI K 8 (fun _ => 0)), ((u 20), zO 4 6 (zc21 u v)), ((u 28), zI K 8 (fun _ => 0)), ((u 61), zR K 512 (fun _ => none)), ((u 62), zO 2 6 (zc63 u v)), ((u 68), zI K 10 (fun _ => 0)), (qo, zJ K 1 (fun _ => 0))] [(qm, zO 10 83 (zc71 u v)), ((v 7), zI K 1290 (fun _ => 0)), ((v 8), zI K 1290 (fun _ => 0)), ((v 12), zI K 1290 (fun _ => 0)), ((v 25), zI K 60000 (fun _ => 0)), ((v 26), zI K 60000 (fun _ => 0)), ((v 27), zI K 60000 (fun _ => 0)), ((v 28), zI K 60000 (fun _ => 0)), ((v 29), zI K 60000 (fun _ => 0)), ((v 30), zI K 60000 (fun _ => 0)), ((v 31), zI K 60000 (fun _ => 0)), ((v 42), zI K 210000 (fun _ => 0)), ((v 43), zI K 210000 (fun _ => 0)), ((v 49), zI K 10 (fun _ => 0))] [0, 1, 2, 3, 4, 5, 6, 7, 11, 12, 8, 9, 10, 13, 14, 15, 30] [16, 17, 18, 19, 20, 21, 22, 23, 24, 25, 26, 27, 28, 29] hP hD hS hA rfl rfl (by decide +kernel) (by decide +kernel) (by decide +kernel) 128 1867719 rfl rfl (fun hPc hDc hF => z_xrunH (As := [.ref qx, .int (nI t1), .int 0, .int (xs 3), .int (xs 4), .int 1, .int 0, .ref qo]) (rest := []) ⟨hx, hb, hml, hown, hg⟩ (cL_run_7 l hl9 K H.size qx qo (u 8) (u 9) (u 10) (u 11) (u 12) (u 13) (u 14) (u 59) (u 60) (u 16) (u 20) (u 28) (u 61) (u 62) (u 68) (zc0 u v) (zc9 u v) (zc10 u v) (fun _ => 0) (fun _ => 0) (fun _ => 0) (fun _ => 0) (fun _ => 0) (zc60 u v) (zc61 u v) (fun _ => 0) (zc21 u v) (fun _ => 0) (fun _ => none) (zc63 u v) (fun _ => 0) (fun _ => 0) t1 ht1 (xs 3) (xs 4) (zc0_3 u v) (zc9_0 u v) (zc10_5 u v) (zc10_0 u v) (zc10_1 u v) (zc10_2 u v) (zc10_3 u v) (zc10_4 u v) (zc0_7 u v) (zc60_0 u v) (zc61_6 u v) (zc61_4 u v) (zc61_0 u v) (zc9_2 u v) rfl rfl rfl rfl rfl rfl rfl rfl (zc61_1 u v) (zc21_2 u v) rfl rfl rfl rfl rfl rfl rfl rfl (zc61_3 u v) (zc61_2 u v) (zc60_1 u v) (zc60_2 u v)) kS_RL_166 hd_L_run rfl rfl ⟨(Nat.le_of_ble_eq_true rfl), (Nat.le_of_ble_eq_true rfl)⟩ hK hS hZ hPc hDc hF rfl hl.1 rfl (Nat.le_of_ble_eq_true rfl) dL_law_1518 ⟨(Nat.le_of_ble_eq_true rfl), (Nat.le_of_ble_eq_true rfl)⟩) (fun r3 u1 H locs w2 hP hD hS => ?_)
  subst w2
  have hP : va_P K.1 classes [(qm, zO 10 83 (zc71 u v)), ((v 7), zI K 1290 (fun _ => 0)), ((v 8), zI K 1290 (fun _ => 0)), ((v 12), zI K 1290 (fun _ => 0)), ((v 25), zI K 60000 (fun _ => 0)), ((v 26), zI K 60000 (fun _ => 0)), ((v 27), zI K 60000 (fun _ => 0)), ((v 28), zI K 60000 (fun _ => 0)), ((v 29), zI K 60000 (fun _ => 0)), ((v 30), zI K 60000 (fun _ => 0)), ((v 31), zI K 60000 (fun _ => 0)), ((v 42), zI K 210000 (fun _ => 0)), ((v 43), zI K 210000 (fun _ => 0)), ((v 49), zI K 10 (fun _ => 0)), (qo, zJ K 1 (va_up (fun _ => 0) 0 7))] H := hP
  have hD : va_D A [(qm, zO 10 83 (zc71 u v)), ((v 7), zI K 1290 (fun _ => 0)), ((v 8), zI K 1290 (fun _ => 0)), ((v 12), zI K 1290 (fun _ => 0)), ((v 25), zI K 60000 (fun _ => 0)), ((v 26), zI K 60000 (fun _ => 0)), ((v 27), zI K 60000 (fun _ => 0)), ((v 28), zI K 60000 (fun _ => 0)), ((v 29), zI K 60000 (fun _ => 0)), ((v 30), zI K 60000 (fun _ => 0)), ((v 31), zI K 60000 (fun _ => 0)), ((v 42), zI K 210000 (fun _ => 0)), ((v 43), zI K 210000 (fun _ => 0)), ((v 49), zI K 10 (fun _ => 0)), (qo, zJ K 1 (va_up (fun _ => 0) 0 7))] := hD
  refine lv_istore (lv' := [(5, .int 0), (4, .int 0), (3, .ref qo), (2, .ref qm), (1, .ref qx), (0, .ref b)]) hx hb dL_law_1521 hl (by decide) rfl (fun ls hl => ?_)
  refine lv_aload_n hx hb dL_law_1523 rfl (lv_at hl 3 rfl) ?_
  refine lv_aload_n hx hb dL_law_1524 rfl (lv_at hl 5 rfl) ?_
  refine lv_iload hx hb dL_law_1525 (lv_at hl 1 rfl) ?_
  refine lv_iconst (v := 1) hx hb dL_law_1527 (by decide) ?_
  refine lv_iadd hx hb dL_law_1528 ?_
  refine z_cst (v := 1) (by decide +kernel) ?_
  refine z_sld (v := (nI t1)) (j := 1) hx hb hX hbl hbA hS rfl (Nat.le_of_ble_eq_true rfl) v1 dL_law_1529 ?_
  refine lv_aload_n hx hb dL_law_1530 rfl (lv_at hl 5 rfl) ?_
  refine lv_iload hx hb dL_law_1531 (lv_at hl 1 rfl) ?_
  refine lv_iconst (v := 2) hx hb dL_law_1533 (by decide) ?_
  refine lv_iadd hx hb dL_law_1534 ?_
  refine z_cst (v := 2) (by decide +kernel) ?_
  refine z_sld (v := 0) (j := 2) hx hb hX hbl hbA hS rfl (Nat.le_of_ble_eq_true rfl) v2 dL_law_1535 ?_
  refine lv_aload_n hx hb dL_law_1536 rfl (lv_at hl 5 rfl) ?_
  refine lv_iload hx hb dL_law_1537 (lv_at hl 1 rfl) ?_
  refine lv_iconst (v := 3) hx hb dL_law_1539 (by decide) ?_
  refine lv_iadd hx hb dL_law_1540 ?_
  refine z_cst (v := 3) (by decide +kernel) ?_
  refine z_sld (v := (xs 3)) (j := 3) hx hb hX hbl hbA hS rfl (Nat.le_of_ble_eq_true rfl) rfl dL_law_1541 ?_
  refine lv_aload_n hx hb dL_law_1542 rfl (lv_at hl 5 rfl) ?_
  refine lv_iload hx hb dL_law_1543 (lv_at hl 1 rfl) ?_
  refine lv_iconst (v := 4) hx hb dL_law_1545 (by decide) ?_
  refine lv_iadd hx hb dL_law_1546 ?_
  refine z_cst (v := 4) (by decide +kernel) ?_
  refine z_sld (v := (xs 4)) (j := 4) hx hb hX hbl hbA hS rfl (Nat.le_of_ble_eq_true rfl) rfl dL_law_1547 ?_
  refine lv_aload_n hx hb dL_law_1548 rfl (lv_at hl 5 rfl) ?_
  refine lv_iload hx hb dL_law_1549 (lv_at hl 1 rfl) ?_
  refine lv_iconst (v := 5) hx hb dL_law_1551 (by decide) ?_
  refine lv_iadd hx hb dL_law_1552 ?_
  refine z_cst (v := 5) (by decide +kernel) ?_
  refine z_sld (v := 1) (j := 5) hx hb hX hbl hbA hS rfl (Nat.le_of_ble_eq_true rfl) h7 dL_law_1553 ?_
  refine lv_aload_n hx hb dL_law_1554 rfl (lv_at hl 5 rfl) ?_
  refine lv_iload hx hb dL_law_1555 (lv_at hl 1 rfl) ?_
  refine lv_bipush (v := 6) hx hb dL_law_1557 (by decide) ?_
  refine lv_iadd hx hb dL_law_1559 ?_
  refine z_cst (v := 6) (by decide +kernel) ?_
  refine z_sld (v := 0) (j := 6) hx hb hX hbl hbA hS rfl (Nat.le_of_ble_eq_true rfl) h0 dL_law_1560 ?_
  refine lv_if_eq (tgt := 1568) hx hb dL_law_1561 (by decide) (fun _ => ?_) (fun c => absurd (by decide) c)
  refine lv_iconst (v := 0) hx hb dL_law_1568 (by decide) ?_
  refine z_calli [(qm, zO 10 83 (zc71 u v)), ((v 49), zI K 10 (fun _ => 0)), ((v 7), zI K 1290 (fun _ => 0)), ((v 8), zI K 1290 (fun _ => 0)), ((v 12), zI K 1290 (fun _ => 0)), ((v 42), zI K 210000 (fun _ => 0)), ((v 43), zI K 210000 (fun _ => 0)), ((v 25), zI K 60000 (fun _ => 0)), ((v 26), zI K 60000 (fun _ => 0)), ((v 27), zI K 60000 (fun _ => 0)), ((v 28), zI K 60000 (fun _ => 0)), ((v 29), zI K 60000 (fun _ => 0)), ((v 30), zI K 60000 (fun _ => 0)), ((v 31), zI K 60000 (fun _ => 0))] [(qo, zJ K 1 (va_up (fun _ => 0) 0 7))] [0, 13, 1, 2, 3, 11, 12, 4, 5, 6, 7, 8, 9, 10] [14] hP hD hS hA rfl rfl (by decide +kernel) (by decide +kernel) (by decide +kernel) 128 1867719 rfl rfl (fun hPc hDc hF => z_runV (As := [.int (nI t1), .int 0, .int (xs 3), .int (xs 4), .int 1, .int 0]) (rest := []) ⟨hx, hb, hml, hown, hg⟩ (cX12_run_8 l K H.size qm (v 49) (v 7) (v 8) (v 12) (v 42) (v 43) (v 25) (v 26) (v 27) (v 28) (v 29) (v 30) (v 31) (zc71 u v) (fun _ => 0) (fun _ => 0) (fun _ => 0) (fun _ => 0) (fun _ => 0) (fun _ => 0) (fun _ => 0) (fun _ => 0) (fun _ => 0) (fun _ => 0) (fun _ => 0) (fun _ => 0) (fun _ => 0) t1 ht1 (xs 3) (xs 4) (zc71_80 u v) (zc71_8 u v) (zc71_9 u v) (zc71_13 u v) (zc71_57 u v) (zc71_32 u v) (zc71_52 u v) (zc71_40 u v) (zc71_46 u v) (zc71_53 u v) (zc71_33 u v) rfl rfl rfl rfl rfl rfl rfl rfl rfl rfl rfl rfl rfl rfl rfl rfl (zc71_34 u v) rfl (zc71_35 u v) (zc71_36 u v) (zc71_37 u v) rfl (zc71_38 u v) (zc71_39 u v) rfl rfl rfl rfl rfl rfl rfl rfl rfl rfl rfl rfl rfl rfl rfl rfl rfl rfl rfl rfl rfl rfl rfl rfl rfl rfl rfl rfl rfl rfl rfl rfl rfl rfl rfl rfl rfl rfl rfl rfl rfl rfl rfl rfl rfl rfl) kV_RL_169 hd_X12_run rfl rfl ⟨(Nat.le_of_ble_eq_true rfl), (Nat.le_of_ble_eq_true rfl)⟩ hK hS hZ hPc hDc hF 0 rfl rfl rfl hl.1 rfl (Nat.le_of_ble_eq_true rfl) dL_law_1569 ⟨(Nat.le_of_ble_eq_true rfl), (Nat.le_of_ble_eq_true rfl)⟩) (fun r6 u4 H locs w5 hP hD hS => ?_)
  subst w5
  have hP : va_P K.1 classes [(qo, zJ K 1 (va_up (fun _ => 0) 0 7)), (qm, zO 10 83 (va_up (va_up (va_up (va_up (va_up (va_up (va_up (va_up (va_up (va_up (va_up (va_up (va_up (va_up (va_up (va_up (va_up (va_up (va_up (va_up (va_up (va_up (va_up (va_up (va_up (va_up (va_up (va_up (va_up (va_up (va_up (va_up (va_up (va_up (va_up (va_up (va_up (va_up (va_up (va_up (va_up (va_up (va_up (va_up (va_up (va_up (va_up (va_up (va_up (va_up (va_up (zc71 u v) 81 (.int 0)) 56 (.int 0)) 60 (.int 1)) 79 (.int 0)) 55 (.int 0)) 58 (.int 0)) 59 (.int 600)) 72 (.int 0)) 77 (.int 0)) 62 (.int 1280)) 63 (.int (-1))) 64 (.int 0)) 65 (.int 0)) 61 (.int (-1))) 61 (.int 7)) 54 (.int 0)) 54 (.int 1)) 54 (.int 2)) 54 (.int 3)) 54 (.int 4)) 54 (.int 5)) 54 (.int 6)) 54 (.int 7)) 54 (.int 8)) 54 (.int 9)) 54 (.int 10)) 54 (.int 11)) 54 (.int 12)) 54 (.int 13)) 54 (.int 14)) 54 (.int 15)) 54 (.int 16)) 54 (.int 15)) 54 (.int 14)) 54 (.int 13)) 54 (.int 12)) 54 (.int 11)) 54 (.int 10)) 54 (.int 9)) 54 (.int 8)) 54 (.int 7)) 54 (.int 6)) 54 (.int 5)) 54 (.int 4)) 54 (.int 3)) 54 (.int 2)) 54 (.int 1)) 54 (.int 0)) 32 (.int 16)) 40 (.int 0)) 46 (.int 0)))] H := hP
  have hD : va_D A [(qo, zJ K 1 (va_up (fun _ => 0) 0 7)), (qm, zO 10 83 (va_up (va_up (va_up (va_up (va_up (va_up (va_up (va_up (va_up (va_up (va_up (va_up (va_up (va_up (va_up (va_up (va_up (va_up (va_up (va_up (va_up (va_up (va_up (va_up (va_up (va_up (va_up (va_up (va_up (va_up (va_up (va_up (va_up (va_up (va_up (va_up (va_up (va_up (va_up (va_up (va_up (va_up (va_up (va_up (va_up (va_up (va_up (va_up (va_up (va_up (va_up (zc71 u v) 81 (.int 0)) 56 (.int 0)) 60 (.int 1)) 79 (.int 0)) 55 (.int 0)) 58 (.int 0)) 59 (.int 600)) 72 (.int 0)) 77 (.int 0)) 62 (.int 1280)) 63 (.int (-1))) 64 (.int 0)) 65 (.int 0)) 61 (.int (-1))) 61 (.int 7)) 54 (.int 0)) 54 (.int 1)) 54 (.int 2)) 54 (.int 3)) 54 (.int 4)) 54 (.int 5)) 54 (.int 6)) 54 (.int 7)) 54 (.int 8)) 54 (.int 9)) 54 (.int 10)) 54 (.int 11)) 54 (.int 12)) 54 (.int 13)) 54 (.int 14)) 54 (.int 15)) 54 (.int 16)) 54 (.int 15)) 54 (.int 14)) 54 (.int 13)) 54 (.int 12)) 54 (.int 11)) 54 (.int 10)) 54 (.int 9)) 54 (.int 8)) 54 (.int 7)) 54 (.int 6)) 54 (.int 5)) 54 (.int 4)) 54 (.int 3)) 54 (.int 2)) 54 (.int 1)) 54 (.int 0)) 32 (.int 16)) 40 (.int 0)) 46 (.int 0)))] := hD
  refine lv_istore (lv' := [(6, .int 7), (5, .int 0), (4, .int 0), (3, .ref qo), (2, .ref qm), (1, .ref qx), (0, .ref b)]) hx hb dL_law_1572 hl (by decide) rfl (fun ls hl => ?_)
  refine lv_aload_n hx hb dL_law_1574 rfl (lv_at hl 4 rfl) ?_
  refine z_calli [(qm, zO 10 83 (va_up (va_up (va_up (va_up (va_up (va_up (va_up (va_up (va_up (va_up (va_up (va_up (va_up (va_up (va_up (va_up (va_up (va_up (va_up (va_up (va_up (va_up (va_up (va_up (va_up (va_up (va_up (va_up (va_up (va_up (va_up (va_up (va_up (va_up (va_up (va_up (va_up (va_up (va_up (va_up (va_up (va_up (va_up (va_up (va_up (va_up (va_up (va_up (va_up (va_up (va_up (zc71 u v) 81 (.int 0)) 56 (.int 0)) 60 (.int 1)) 79 (.int 0)) 55 (.int 0)) 58 (.int 0)) 59 (.int 600)) 72 (.int 0)) 77 (.int 0)) 62 (.int 1280)) 63 (.int (-1))) 64 (.int 0)) 65 (.int 0)) 61 (.int (-1))) 61 (.int 7)) 54 (.int 0)) 54 (.int 1)) 54 (.int 2)) 54 (.int 3)) 54 (.int 4)) 54 (.int 5)) 54 (.int 6)) 54 (.int 7)) 54 (.int 8)) 54 (.int 9)) 54 (.int 10)) 54 (.int 11)) 54 (.int 12)) 54 (.int 13)) 54 (.int 14)) 54 (.int 15)) 54 (.int 16)) 54 (.int 15)) 54 (.int 14)) 54 (.int 13)) 54 (.int 12)) 54 (.int 11)) 54 (.int 10)) 54 (.int 9)) 54 (.int 8)) 54 (.int 7)) 54 (.int 6)) 54 (.int 5)) 54 (.int 4)) 54 (.int 3)) 54 (.int 2)) 54 (.int 1)) 54 (.int 0)) 32 (.int 16)) 40 (.int 0)) 46 (.int 0)))] [(qo, zJ K 1 (va_up (fun _ => 0) 0 7))] [1] [0] hP hD hS hA rfl rfl (by decide +kernel) (by decide +kernel) (by decide +kernel) 128 1867719 rfl rfl (fun hPc hDc hF => z_runV (As := []) (rest := []) ⟨hx, hb, hml, hown, hg⟩ (cX12_thrown_1 l K H.size qm (va_up (va_up (va_up (va_up (va_up (va_up (va_up (va_up (va_up (va_up (va_up (va_up (va_up (va_up (va_up (va_up (va_up (va_up (va_up (va_up (va_up (va_up (va_up (va_up (va_up (va_up (va_up (va_up (va_up (va_up (va_up (va_up (va_up (va_up (va_up (va_up (va_up (va_up (va_up (va_up (va_up (va_up (va_up (va_up (va_up (va_up (va_up (va_up (va_up (va_up (va_up (zc71 u v) 81 (.int 0)) 56 (.int 0)) 60 (.int 1)) 79 (.int 0)) 55 (.int 0)) 58 (.int 0)) 59 (.int 600)) 72 (.int 0)) 77 (.int 0)) 62 (.int 1280)) 63 (.int (-1))) 64 (.int 0)) 65 (.int 0)) 61 (.int (-1))) 61 (.int 7)) 54 (.int 0)) 54 (.int 1)) 54 (.int 2)) 54 (.int 3)) 54 (.int 4)) 54 (.int 5)) 54 (.int 6)) 54 (.int 7)) 54 (.int 8)) 54 (.int 9)) 54 (.int 10)) 54 (.int 11)) 54 (.int 12)) 54 (.int 13)) 54 (.int 14)) 54 (.int 15)) 54 (.int 16)) 54 (.int 15)) 54 (.int 14)) 54 (.int 13)) 54 (.int 12)) 54 (.int 11)) 54 (.int 10)) 54 (.int 9)) 54 (.int 8)) 54 (.int 7)) 54 (.int 6)) 54 (.int 5)) 54 (.int 4)) 54 (.int 3)) 54 (.int 2)) 54 (.int 1)) 54 (.int 0)) 32 (.int 16)) 40 (.int 0)) 46 (.int 0)) (zu_ne (by decide) (zu_ne (by decide) (zu_ne (by decide) (zu_ne (by decide) (zu_ne (by decide) (zu_ne (by decide) (zu_ne (by decide) (zu_ne (by decide) (zu_ne (by decide) (zu_ne (by decide) (zu_ne (by decide) (zu_ne (by decide) (zu_ne (by decide) (zu_ne (by decide) (zu_ne (by decide) (zu_ne (by decide) (zu_ne (by decide) (zu_ne (by decide) (zu_ne (by decide) (zu_ne (by decide) (zu_ne (by decide) (zu_ne (by decide) (zu_ne (by decide) (zu_ne (by decide) (zu_ne (by decide) (zu_ne (by decide) (zu_ne (by decide) (zu_ne (by decide) (zu_ne (by decide) (zu_ne (by decide) (zu_ne (by decide) (zu_ne (by decide) (zu_ne (by decide) (zu_ne (by decide) (zu_ne (by decide) (zu_ne (by decide) (zu_ne (by decide) (zu_ne (by decide) (zu_ne (by decide) (zu_ne (by decide) (zu_ne (by decide) (zu_ne (by decide) (zu_ne (by decide) (zu_ne (by decide) (zu_ne (by decide) (zu_ne (by decide) (zu_ne (by decide) (zu_ne (by decide) (zu_ne (by decide) (zu_ne (by decide) zu_eq))))))))))))))))))))))))))))))))))))))))))))))))))) kV_RL_104 hd_X12_thrown rfl rfl ⟨(Nat.le_of_ble_eq_true rfl), (Nat.le_of_ble_eq_true rfl)⟩ hK hS hZ hPc hDc hF 0 rfl rfl rfl hl.1 rfl (Nat.le_of_ble_eq_true rfl) dL_law_1575 ⟨(Nat.le_of_ble_eq_true rfl), (Nat.le_of_ble_eq_true rfl)⟩) (fun r9 u7 H locs w8 hP hD hS => ?_)
  subst w8
  have hP : va_P K.1 classes [(qo, zJ K 1 (va_up (fun _ => 0) 0 7)), (qm, zO 10 83 (va_up (va_up (va_up (va_up (va_up (va_up (va_up (va_up (va_up (va_up (va_up (va_up (va_up (va_up (va_up (va_up (va_up (va_up (va_up (va_up (va_up (va_up (va_up (va_up (va_up (va_up (va_up (va_up (va_up (va_up (va_up (va_up (va_up (va_up (va_up (va_up (va_up (va_up (va_up (va_up (va_up (va_up (va_up (va_up (va_up (va_up (va_up (va_up (va_up (va_up (va_up (zc71 u v) 81 (.int 0)) 56 (.int 0)) 60 (.int 1)) 79 (.int 0)) 55 (.int 0)) 58 (.int 0)) 59 (.int 600)) 72 (.int 0)) 77 (.int 0)) 62 (.int 1280)) 63 (.int (-1))) 64 (.int 0)) 65 (.int 0)) 61 (.int (-1))) 61 (.int 7)) 54 (.int 0)) 54 (.int 1)) 54 (.int 2)) 54 (.int 3)) 54 (.int 4)) 54 (.int 5)) 54 (.int 6)) 54 (.int 7)) 54 (.int 8)) 54 (.int 9)) 54 (.int 10)) 54 (.int 11)) 54 (.int 12)) 54 (.int 13)) 54 (.int 14)) 54 (.int 15)) 54 (.int 16)) 54 (.int 15)) 54 (.int 14)) 54 (.int 13)) 54 (.int 12)) 54 (.int 11)) 54 (.int 10)) 54 (.int 9)) 54 (.int 8)) 54 (.int 7)) 54 (.int 6)) 54 (.int 5)) 54 (.int 4)) 54 (.int 3)) 54 (.int 2)) 54 (.int 1)) 54 (.int 0)) 32 (.int 16)) 40 (.int 0)) 46 (.int 0)))] H := hP
  have hD : va_D A [(qo, zJ K 1 (va_up (fun _ => 0) 0 7)), (qm, zO 10 83 (va_up (va_up (va_up (va_up (va_up (va_up (va_up (va_up (va_up (va_up (va_up (va_up (va_up (va_up (va_up (va_up (va_up (va_up (va_up (va_up (va_up (va_up (va_up (va_up (va_up (va_up (va_up (va_up (va_up (va_up (va_up (va_up (va_up (va_up (va_up (va_up (va_up (va_up (va_up (va_up (va_up (va_up (va_up (va_up (va_up (va_up (va_up (va_up (va_up (va_up (va_up (zc71 u v) 81 (.int 0)) 56 (.int 0)) 60 (.int 1)) 79 (.int 0)) 55 (.int 0)) 58 (.int 0)) 59 (.int 600)) 72 (.int 0)) 77 (.int 0)) 62 (.int 1280)) 63 (.int (-1))) 64 (.int 0)) 65 (.int 0)) 61 (.int (-1))) 61 (.int 7)) 54 (.int 0)) 54 (.int 1)) 54 (.int 2)) 54 (.int 3)) 54 (.int 4)) 54 (.int 5)) 54 (.int 6)) 54 (.int 7)) 54 (.int 8)) 54 (.int 9)) 54 (.int 10)) 54 (.int 11)) 54 (.int 12)) 54 (.int 13)) 54 (.int 14)) 54 (.int 15)) 54 (.int 16)) 54 (.int 15)) 54 (.int 14)) 54 (.int 13)) 54 (.int 12)) 54 (.int 11)) 54 (.int 10)) 54 (.int 9)) 54 (.int 8)) 54 (.int 7)) 54 (.int 6)) 54 (.int 5)) 54 (.int 4)) 54 (.int 3)) 54 (.int 2)) 54 (.int 1)) 54 (.int 0)) 32 (.int 16)) 40 (.int 0)) 46 (.int 0)))] := hD
  refine lv_iload hx hb dL_law_1578 (lv_at hl 1 rfl) ?_
  refine lv_icmp_eq (tgt := 1585) hx hb dL_law_1580 (by decide) (fun _ => ?_) (fun c => absurd (by decide) c)
  refine lv_iload hx hb dL_law_1585 (lv_at hl 1 rfl) ?_
  refine lv_if_ne (tgt := 1602) hx hb dL_law_1587 (by decide) (fun c => absurd (by decide) c) (fun _ => ?_)
  refine lv_aload_n hx hb dL_law_1590 rfl (lv_at hl 3 rfl) ?_
  refine lv_iconst (v := 0) hx hb dL_law_1591 (by decide) ?_
  refine z_lald (v := 7) (j := 0) hx hb hK hP 0 rfl rfl (Nat.le_of_ble_eq_true rfl) (Nat.le_of_ble_eq_true rfl) zu_eq dL_law_1592 ?_
  refine lv_iload hx hb dL_law_1593 (lv_at hl 0 rfl) ?_
  refine lv_i2l hx hb dL_law_1595 rfl ?_
  refine z_cstl (v := 7) (by decide +kernel) ?_
  refine W.lcmp hx hb dL_law_1596 ?_
  refine z_cst (v := 0) (by decide +kernel) ?_
  refine lv_if_eq (tgt := 1602) hx hb dL_law_1597 (by decide) (fun _ => ?_) (fun c => absurd (by decide) c)
  refine lv_goto (tgt := 2026) hx hb dL_law_1602 (by decide) ?_
  exact law_back ⟨hx, hb, hr, hml, hown, hg, hX, hbl, hlocks, hK, hZ, hl9, hAA, hA, hbA⟩ (Nat.le_of_ble_eq_true rfl) (Nat.le_of_ble_eq_true rfl) hS (lv_sub hl [2, 6] rfl)
set_option maxHeartbeats 4000000 in
set_option maxRecDepth 100000 in
theorem lawS_19_8 {p : Program} {l : Launch} {e : Env} {s : State} {m : MethodId} {below : List Frame} {meth : Method} {c : Code} {b : Nat} {xs : Nat → Int32} {K : zK} {A : Nat → Prop} {H : Heap} {locs : List Loc} {ls : Array Slot} (C : zC p l s m meth c b xs K A) (qx qm qo : Nat) (u v : Nat → Nat) (h0 : xs 6 = 0) (h1 : 0 ≤ (xs 5).toInt) (h2 : (xs 5).toInt < 601) (h3 : 0 ≤ (xs 1).toInt) (h4 : (xs 1).toInt < 8) (h5 : 0 ≤ (xs 2).toInt) (h6 : (xs 2).toInt < 3) (h7 : xs 5 = 1) (h8 : 1 ≤ (xs 2).toInt) (h9 : (xs 2).toInt < 2) (hP : va_P K.1 classes (lwW K qx qm qo u v) H) (hD : va_D A (lwW K qx qm qo u v)) (hS : va_S A s.heap H locs) (hl : lv_has ls 7 [(4, .int 0), (3, .ref qo), (2, .ref qm), (1, .ref qx), (0, .ref b)]) : W p l e room_1 s m #[Value.ref b] below meth c H locs 124 1863516 (lw_Z below #[Value.ref b] s) (F0 m 1471 ls []) := by
  obtain ⟨hx, hb, hr, hml, hown, hg, hX, hbl, hlocks, hK, hZ, hl9, hAA, hA, hbA⟩ := C
  have hP : va_P K.1 classes [(qx, zO 9 9 (zc0 u v)), ((u 8), zO 4 6 (zc9 u v)), ((u 9), zO 7 6 (zc10 u v)), ((u 10), zI K 645 (fun _ => 0)), ((u 11), zI K 645 (fun _ => 0)), ((u 12), zI K 645 (fun _ => 0)), ((u 13), zI K 645 (fun _ => 0)), ((u 14), zI K 1935 (fun _ => 0)), ((u 16), zI K 8 (fun _ => 0)), ((u 20), zO 4 6 (zc21 u v)), ((u 28), zI K 8 (fun _ => 0)), ((u 59), zO 1 18 (zc60 u v)), ((u 60), zO 3 7 (zc61 u v)), ((u 61), zR K 512 (fun _ => none)), ((u 62), zO 2 6 (zc63 u v)), ((u 68), zI K 10 (fun _ => 0)), (qm, zO 10 83 (zc71 u v)), ((v 7), zI K 1290 (fun _ => 0)), ((v 8), zI K 1290 (fun _ => 0)), ((v 12), zI K 1290 (fun _ => 0)), ((v 25), zI K 60000 (fun _ => 0)), ((v 26), zI K 60000 (fun _ => 0)), ((v 27), zI K 60000 (fun _ => 0)), ((v 28), zI K 60000 (fun _ => 0)), ((v 29), zI K 60000 (fun _ => 0)), ((v 30), zI K 60000 (fun _ => 0)), ((v 31), zI K 60000 (fun _ => 0)), ((v 42), zI K 210000 (fun _ => 0)), ((v 43), zI K 210000 (fun _ => 0)), ((v 49), zI K 10 (fun _ => 0)), (qo, zJ K 1 (fun _ => 0))] H := hP.sub [0, 9, 10, 11, 12, 13, 14, 15, 17, 21, 29, 60, 61, 62, 63, 69, 71, 79, 80, 84, 97, 98, 99, 100, 101, 102, 103, 114, 115, 121, 123] rfl
  have hD : va_D A [(qx, zO 9 9 (zc0 u v)), ((u 8), zO 4 6 (zc9 u v)), ((u 9), zO 7 6 (zc10 u v)), ((u 10), zI K 645 (fun _ => 0)), ((u 11), zI K 645 (fun _ => 0)), ((u 12), zI K 645 (fun _ => 0)), ((u 13), zI K 645 (fun _ => 0)), ((u 14), zI K 1935 (fun _ => 0)), ((u 16), zI K 8 (fun _ => 0)), ((u 20), zO 4 6 (zc21 u v)), ((u 28), zI K 8 (fun _ => 0)), ((u 59), zO 1 18 (zc60 u v)), ((u 60), zO 3 7 (zc61 u v)), ((u 61), zR K 512 (fun _ => none)), ((u 62), zO 2 6 (zc63 u v)), ((u 68), zI K 10 (fun _ => 0)), (qm, zO 10 83 (zc71 u v)), ((v 7), zI K 1290 (fun _ => 0)), ((v 8), zI K 1290 (fun _ => 0)), ((v 12), zI K 1290 (fun _ => 0)), ((v 25), zI K 60000 (fun _ => 0)), ((v 26), zI K 60000 (fun _ => 0)), ((v 27), zI K 60000 (fun _ => 0)), ((v 28), zI K 60000 (fun _ => 0)), ((v 29), zI K 60000 (fun _ => 0)), ((v 30), zI K 60000 (fun _ => 0)), ((v 31), zI K 60000 (fun _ => 0)), ((v 42), zI K 210000 (fun _ => 0)), ((v 43), zI K 210000 (fun _ => 0)), ((v 49), zI K 10 (fun _ => 0)), (qo, zJ K 1 (fun _ => 0))] := hD.sub [0, 9, 10, 11, 12, 13, 14, 15, 17, 21, 29, 60, 61, 62, 63, 69, 71, 79, 80, 84, 97, 98, 99, 100, 101, 102, 103, 114, 115, 121, 123] (by decide +kernel) rfl
  obtain ⟨t1, ht1, v1⟩ : ∃ j : Nat, j < 8 ∧ xs 1 = nI j := z_nat (n := 8) (by omega) (by omega) (by decide)
  have v2 : xs 2 = 1 := z_lit (by rw [show (1 : Int32).toInt = 1 from by decide]; omega)
  refine lv_aload_n hx hb dL_law_1471 rfl (lv_at hl 3 rfl) ?_
  refine lv_aload_n hx hb dL_law_1472 rfl (lv_at hl 4 rfl) ?_
  refine lv_iload hx hb dL_law_1473 (lv_at hl 0 rfl) ?_
  refine lv_iconst (v := 1) hx hb dL_law_1475 (by decide) ?_
  refine lv_iadd hx hb dL_law_1476 ?_
  refine z_cst (v := 1) (by decide +kernel) ?_
  refine z_sld (v := (nI t1)) (j := 1) hx hb hX hbl hbA hS rfl (Nat.le_of_ble_eq_true rfl) v1 dL_law_1477 ?_
  refine lv_aload_n hx hb dL_law_1478 rfl (lv_at hl 4 rfl) ?_
  refine lv_iload hx hb dL_law_1479 (lv_at hl 0 rfl) ?_
  refine lv_iconst (v := 2) hx hb dL_law_1481 (by decide) ?_
  refine lv_iadd hx hb dL_law_1482 ?_
  refine z_cst (v := 2) (by decide +kernel) ?_
  refine z_sld (v := 1) (j := 2) hx hb hX hbl hbA hS rfl (Nat.le_of_ble_eq_true rfl) v2 dL_law_1483 ?_
  refine lv_aload_n hx hb dL_law_1484 rfl (lv_at hl 4 rfl) ?_
  refine lv_iload hx hb dL_law_1485 (lv_at hl 0 rfl) ?_
  refine lv_iconst (v := 3) hx hb dL_law_1487 (by decide) ?_
  refine lv_iadd hx hb dL_law_1488 ?_
  refine z_cst (v := 3) (by decide +kernel) ?_
  refine z_sld (v := (xs 3)) (j := 3) hx hb hX hbl hbA hS rfl (Nat.le_of_ble_eq_true rfl) rfl dL_law_1489 ?_
  refine lv_aload_n hx hb dL_law_1490 rfl (lv_at hl 4 rfl) ?_
  refine lv_iload hx hb dL_law_1491 (lv_at hl 0 rfl) ?_
  refine lv_iconst (v := 4) hx hb dL_law_1493 (by decide) ?_
  refine lv_iadd hx hb dL_law_1494 ?_
  refine z_cst (v := 4) (by decide +kernel) ?_
  refine z_sld (v := (xs 4)) (j := 4) hx hb hX hbl hbA hS rfl (Nat.le_of_ble_eq_true rfl) rfl dL_law_1495 ?_
  refine lv_aload_n hx hb dL_law_1496 rfl (lv_at hl 4 rfl) ?_
  refine lv_iload hx hb dL_law_1497 (lv_at hl 0 rfl) ?_
  refine lv_iconst (v := 5) hx hb dL_law_1499 (by decide) ?_
  refine lv_iadd hx hb dL_law_1500 ?_
  refine z_cst (v := 5) (by decide +kernel) ?_
  refine z_sld (v := 1) (j := 5) hx hb hX hbl hbA hS rfl (Nat.le_of_ble_eq_true rfl) h7 dL_law_1501 ?_
  refine lv_aload_n hx hb dL_law_1502 rfl (lv_at hl 4 rfl) ?_
  refine lv_iload hx hb dL_law_1503 (lv_at hl 0 rfl) ?_
  refine lv_bipush (v := 6) hx hb dL_law_1505 (by decide) ?_
  refine lv_iadd hx hb dL_law_1507 ?_
  refine z_cst (v := 6) (by decide +kernel) ?_
  refine z_sld (v := 0) (j := 6) hx hb hX hbl hbA hS rfl (Nat.le_of_ble_eq_true rfl) h0 dL_law_1508 ?_
  refine lv_if_eq (tgt := 1516) hx hb dL_law_1509 (by decide) (fun _ => ?_) (fun c => absurd (by decide) c)
  refine lv_iconst (v := 0) hx hb dL_law_1516 (by decide) ?_
  refine lv_aload_n hx hb dL_law_1517 rfl (lv_at hl 1 rfl) ?_
  refine z_hcalli [(qx, zO 9 9 (zc0 u v)), ((u 8), zO 4 6 (zc9 u v)), ((u 9), zO 7 6 (zc10 u v)), ((u 10), zI K 645 (fun _ => 0)), ((u 11), zI K 645 (fun _ => 0)), ((u 12), zI K 645 (fun _ => 0)), ((u 13), zI K 645 (fun _ => 0)), ((u 14), zI K 1935 (fun _ => 0)), ((u 59), zO 1 18 (zc60 u v)), ((u 60), zO 3 7 (zc61 u v)), ((u 16), zI K 8 (fun _ => 0)), ((u 20), zO 4 6 (zc21 u v)), ((u 28), zI K 8 (fun _ => 0)), ((u 61), zR K 512 (fun _ => none)), ((u 62), zO 2 6 (zc63 u v)), ((u 68), zI K 10 (fun _ => 0)), (qo, zJ K 1 (fun _ => 0))] [(qm, zO 10 83 (zc71 u v)), ((v 7), zI K 1290 (fun _ => 0)), ((v 8), zI K 1290 (fun _ => 0)), ((v 12), zI K 1290 (fun _ => 0)), ((v 25), zI K 60000 (fun _ => 0)), ((v 26), zI K 60000 (fun _ => 0)), ((v 27), zI K 60000 (fun _ => 0)), ((v 28), zI K 60000 (fun _ => 0)), ((v 29), zI K 60000 (fun _ => 0)), ((v 30), zI K 60000 (fun _ => 0)), ((v 31), zI K 60000 (fun _ => 0)), ((v 42), zI K 210000 (fun _ => 0)), ((v 43), zI K 210000 (fun _ => 0)), ((v 49), zI K 10 (fun _ => 0))] [0, 1, 2, 3, 4, 5, 6, 7, 11, 12, 8, 9, 10, 13, 14, 15, 30] [16, 17, 18, 19, 20, 21, 22, 23, 24, 25, 26, 27, 28, 29] hP hD hS hA rfl rfl (by decide +kernel) (by decide +kernel) (by decide +kernel) 128 1867719 rfl rfl (fun hPc hDc hF => z_xrunH (As := [.ref qx, .int (nI t1), .int 1, .int (xs 3), .int (xs 4), .int 1, .int 0, .ref qo]) (rest := []) ⟨hx, hb, hml, hown, hg⟩ (cL_run_9 l hl9 K H.size qx qo (u 8) (u 9) (u 10) (u 11) (u 12) (u 13) (u 14) (u 59) (u 60) (u 16) (u 20) (u 28) (u 61) (u 62) (u 68) (zc0 u v) (zc9 u v) (zc10 u v) (fun _ => 0) (fun _ => 0) (fun _ => 0) (fun _ => 0) (fun _ => 0) (zc60 u v) (zc61 u v) (fun _ => 0) (zc21 u v) (fun _ => 0) (fun _ => none) (zc63 u v) (fun _ => 0) (fun _ => 0) t1 ht1 (xs 3) (xs 4) (zc0_3 u v) (zc9_0 u v) (zc10_5 u v) (zc10_0 u v) (zc10_1 u v) (zc10_2 u v) (zc10_3 u v) (zc10_4 u v) (zc0_7 u v) (zc60_0 u v) (zc61_6 u v) (zc61_4 u v) (zc61_0 u v) (zc9_2 u v) rfl rfl rfl rfl rfl rfl rfl rfl (zc61_1 u v) (zc21_2 u v) rfl rfl rfl rfl rfl rfl rfl rfl (zc61_3 u v) (zc61_2 u v) (zc60_1 u v) (zc60_2 u v)) kS_RL_166 hd_L_run rfl rfl ⟨(Nat.le_of_ble_eq_true rfl), (Nat.le_of_ble_eq_true rfl)⟩ hK hS hZ hPc hDc hF rfl hl.1 rfl (Nat.le_of_ble_eq_true rfl) dL_law_1518 ⟨(Nat.le_of_ble_eq_true rfl), (Nat.le_of_ble_eq_true rfl)⟩) (fun r3 u1 H locs w2 hP hD hS => ?_)
  subst w2
  have hP : va_P K.1 classes [(qm, zO 10 83 (zc71 u v)), ((v 7), zI K 1290 (fun _ => 0)), ((v 8), zI K 1290 (fun _ => 0)), ((v 12), zI K 1290 (fun _ => 0)), ((v 25), zI K 60000 (fun _ => 0)), ((v 26), zI K 60000 (fun _ => 0)), ((v 27), zI K 60000 (fun _ => 0)), ((v 28), zI K 60000 (fun _ => 0)), ((v 29), zI K 60000 (fun _ => 0)), ((v 30), zI K 60000 (fun _ => 0)), ((v 31), zI K 60000 (fun _ => 0)), ((v 42), zI K 210000 (fun _ => 0)), ((v 43), zI K 210000 (fun _ => 0)), ((v 49), zI K 10 (fun _ => 0)), (qo, zJ K 1 (va_up (fun _ => 0) 0 7))] H := hP
  have hD : va_D A [(qm, zO 10 83 (zc71 u v)), ((v 7), zI K 1290 (fun _ => 0)), ((v 8), zI K 1290 (fun _ => 0)), ((v 12), zI K 1290 (fun _ => 0)), ((v 25), zI K 60000 (fun _ => 0)), ((v 26), zI K 60000 (fun _ => 0)), ((v 27), zI K 60000 (fun _ => 0)), ((v 28), zI K 60000 (fun _ => 0)), ((v 29), zI K 60000 (fun _ => 0)), ((v 30), zI K 60000 (fun _ => 0)), ((v 31), zI K 60000 (fun _ => 0)), ((v 42), zI K 210000 (fun _ => 0)), ((v 43), zI K 210000 (fun _ => 0)), ((v 49), zI K 10 (fun _ => 0)), (qo, zJ K 1 (va_up (fun _ => 0) 0 7))] := hD
  refine lv_istore (lv' := [(5, .int 0), (4, .int 0), (3, .ref qo), (2, .ref qm), (1, .ref qx), (0, .ref b)]) hx hb dL_law_1521 hl (by decide) rfl (fun ls hl => ?_)
  refine lv_aload_n hx hb dL_law_1523 rfl (lv_at hl 3 rfl) ?_
  refine lv_aload_n hx hb dL_law_1524 rfl (lv_at hl 5 rfl) ?_
  refine lv_iload hx hb dL_law_1525 (lv_at hl 1 rfl) ?_
  refine lv_iconst (v := 1) hx hb dL_law_1527 (by decide) ?_
  refine lv_iadd hx hb dL_law_1528 ?_
  refine z_cst (v := 1) (by decide +kernel) ?_
  refine z_sld (v := (nI t1)) (j := 1) hx hb hX hbl hbA hS rfl (Nat.le_of_ble_eq_true rfl) v1 dL_law_1529 ?_
  refine lv_aload_n hx hb dL_law_1530 rfl (lv_at hl 5 rfl) ?_
  refine lv_iload hx hb dL_law_1531 (lv_at hl 1 rfl) ?_
  refine lv_iconst (v := 2) hx hb dL_law_1533 (by decide) ?_
  refine lv_iadd hx hb dL_law_1534 ?_
  refine z_cst (v := 2) (by decide +kernel) ?_
  refine z_sld (v := 1) (j := 2) hx hb hX hbl hbA hS rfl (Nat.le_of_ble_eq_true rfl) v2 dL_law_1535 ?_
  refine lv_aload_n hx hb dL_law_1536 rfl (lv_at hl 5 rfl) ?_
  refine lv_iload hx hb dL_law_1537 (lv_at hl 1 rfl) ?_
  refine lv_iconst (v := 3) hx hb dL_law_1539 (by decide) ?_
  refine lv_iadd hx hb dL_law_1540 ?_
  refine z_cst (v := 3) (by decide +kernel) ?_
  refine z_sld (v := (xs 3)) (j := 3) hx hb hX hbl hbA hS rfl (Nat.le_of_ble_eq_true rfl) rfl dL_law_1541 ?_
  refine lv_aload_n hx hb dL_law_1542 rfl (lv_at hl 5 rfl) ?_
  refine lv_iload hx hb dL_law_1543 (lv_at hl 1 rfl) ?_
  refine lv_iconst (v := 4) hx hb dL_law_1545 (by decide) ?_
  refine lv_iadd hx hb dL_law_1546 ?_
  refine z_cst (v := 4) (by decide +kernel) ?_
  refine z_sld (v := (xs 4)) (j := 4) hx hb hX hbl hbA hS rfl (Nat.le_of_ble_eq_true rfl) rfl dL_law_1547 ?_
  refine lv_aload_n hx hb dL_law_1548 rfl (lv_at hl 5 rfl) ?_
  refine lv_iload hx hb dL_law_1549 (lv_at hl 1 rfl) ?_
  refine lv_iconst (v := 5) hx hb dL_law_1551 (by decide) ?_
  refine lv_iadd hx hb dL_law_1552 ?_
  refine z_cst (v := 5) (by decide +kernel) ?_
  refine z_sld (v := 1) (j := 5) hx hb hX hbl hbA hS rfl (Nat.le_of_ble_eq_true rfl) h7 dL_law_1553 ?_
  refine lv_aload_n hx hb dL_law_1554 rfl (lv_at hl 5 rfl) ?_
  refine lv_iload hx hb dL_law_1555 (lv_at hl 1 rfl) ?_
  refine lv_bipush (v := 6) hx hb dL_law_1557 (by decide) ?_
  refine lv_iadd hx hb dL_law_1559 ?_
  refine z_cst (v := 6) (by decide +kernel) ?_
  refine z_sld (v := 0) (j := 6) hx hb hX hbl hbA hS rfl (Nat.le_of_ble_eq_true rfl) h0 dL_law_1560 ?_
  refine lv_if_eq (tgt := 1568) hx hb dL_law_1561 (by decide) (fun _ => ?_) (fun c => absurd (by decide) c)
  refine lv_iconst (v := 0) hx hb dL_law_1568 (by decide) ?_
  refine z_calli [(qm, zO 10 83 (zc71 u v)), ((v 49), zI K 10 (fun _ => 0)), ((v 7), zI K 1290 (fun _ => 0)), ((v 8), zI K 1290 (fun _ => 0)), ((v 12), zI K 1290 (fun _ => 0)), ((v 42), zI K 210000 (fun _ => 0)), ((v 43), zI K 210000 (fun _ => 0)), ((v 25), zI K 60000 (fun _ => 0)), ((v 26), zI K 60000 (fun _ => 0)), ((v 27), zI K 60000 (fun _ => 0)), ((v 28), zI K 60000 (fun _ => 0)), ((v 29), zI K 60000 (fun _ => 0)), ((v 30), zI K 60000 (fun _ => 0)), ((v 31), zI K 60000 (fun _ => 0))] [(qo, zJ K 1 (va_up (fun _ => 0) 0 7))] [0, 13, 1, 2, 3, 11, 12, 4, 5, 6, 7, 8, 9, 10] [14] hP hD hS hA rfl rfl (by decide +kernel) (by decide +kernel) (by decide +kernel) 128 1867719 rfl rfl (fun hPc hDc hF => z_runV (As := [.int (nI t1), .int 1, .int (xs 3), .int (xs 4), .int 1, .int 0]) (rest := []) ⟨hx, hb, hml, hown, hg⟩ (cX12_run_9 l K H.size qm (v 49) (v 7) (v 8) (v 12) (v 42) (v 43) (v 25) (v 26) (v 27) (v 28) (v 29) (v 30) (v 31) (zc71 u v) (fun _ => 0) (fun _ => 0) (fun _ => 0) (fun _ => 0) (fun _ => 0) (fun _ => 0) (fun _ => 0) (fun _ => 0) (fun _ => 0) (fun _ => 0) (fun _ => 0) (fun _ => 0) (fun _ => 0) t1 ht1 (xs 3) (xs 4) (zc71_80 u v) (zc71_8 u v) (zc71_9 u v) (zc71_13 u v) (zc71_57 u v) (zc71_32 u v) (zc71_52 u v) (zc71_40 u v) (zc71_46 u v) (zc71_53 u v) (zc71_33 u v) rfl rfl rfl rfl rfl rfl rfl rfl rfl rfl rfl rfl rfl rfl rfl rfl (zc71_34 u v) rfl (zc71_35 u v) (zc71_36 u v) (zc71_37 u v) rfl (zc71_38 u v) (zc71_39 u v) rfl rfl rfl rfl rfl rfl rfl rfl rfl rfl rfl rfl rfl rfl rfl rfl rfl rfl rfl rfl rfl rfl rfl rfl rfl rfl rfl rfl rfl rfl rfl rfl rfl rfl rfl rfl rfl rfl rfl rfl rfl rfl rfl rfl rfl rfl) kV_RL_169 hd_X12_run rfl rfl ⟨(Nat.le_of_ble_eq_true rfl), (Nat.le_of_ble_eq_true rfl)⟩ hK hS hZ hPc hDc hF 0 rfl rfl rfl hl.1 rfl (Nat.le_of_ble_eq_true rfl) dL_law_1569 ⟨(Nat.le_of_ble_eq_true rfl), (Nat.le_of_ble_eq_true rfl)⟩) (fun r6 u4 H locs w5 hP hD hS => ?_)
  subst w5
  have hP : va_P K.1 classes [(qo, zJ K 1 (va_up (fun _ => 0) 0 7)), (qm, zO 10 83 (va_up (va_up (va_up (va_up (va_up (va_up (va_up (va_up (va_up (va_up (va_up (va_up (va_up (va_up (va_up (va_up (va_up (va_up (va_up (va_up (va_up (va_up (va_up (va_up (va_up (va_up (va_up (va_up (va_up (va_up (va_up (va_up (va_up (va_up (va_up (va_up (va_up (va_up (va_up (va_up (va_up (va_up (va_up (va_up (va_up (va_up (va_up (va_up (va_up (va_up (va_up (zc71 u v) 81 (.int 0)) 56 (.int 0)) 60 (.int 1)) 79 (.int 0)) 55 (.int 0)) 58 (.int 0)) 59 (.int 600)) 72 (.int 0)) 77 (.int 0)) 62 (.int 1280)) 63 (.int (-1))) 64 (.int 0)) 65 (.int 0)) 61 (.int (-1))) 61 (.int 7)) 54 (.int 0)) 54 (.int 1)) 54 (.int 2)) 54 (.int 3)) 54 (.int 4)) 54 (.int 5)) 54 (.int 6)) 54 (.int 7)) 54 (.int 8)) 54 (.int 9)) 54 (.int 10)) 54 (.int 11)) 54 (.int 12)) 54 (.int 13)) 54 (.int 14)) 54 (.int 15)) 54 (.int 16)) 54 (.int 15)) 54 (.int 14)) 54 (.int 13)) 54 (.int 12)) 54 (.int 11)) 54 (.int 10)) 54 (.int 9)) 54 (.int 8)) 54 (.int 7)) 54 (.int 6)) 54 (.int 5)) 54 (.int 4)) 54 (.int 3)) 54 (.int 2)) 54 (.int 1)) 54 (.int 0)) 32 (.int 16)) 40 (.int 0)) 46 (.int 0)))] H := hP
  have hD : va_D A [(qo, zJ K 1 (va_up (fun _ => 0) 0 7)), (qm, zO 10 83 (va_up (va_up (va_up (va_up (va_up (va_up (va_up (va_up (va_up (va_up (va_up (va_up (va_up (va_up (va_up (va_up (va_up (va_up (va_up (va_up (va_up (va_up (va_up (va_up (va_up (va_up (va_up (va_up (va_up (va_up (va_up (va_up (va_up (va_up (va_up (va_up (va_up (va_up (va_up (va_up (va_up (va_up (va_up (va_up (va_up (va_up (va_up (va_up (va_up (va_up (va_up (zc71 u v) 81 (.int 0)) 56 (.int 0)) 60 (.int 1)) 79 (.int 0)) 55 (.int 0)) 58 (.int 0)) 59 (.int 600)) 72 (.int 0)) 77 (.int 0)) 62 (.int 1280)) 63 (.int (-1))) 64 (.int 0)) 65 (.int 0)) 61 (.int (-1))) 61 (.int 7)) 54 (.int 0)) 54 (.int 1)) 54 (.int 2)) 54 (.int 3)) 54 (.int 4)) 54 (.int 5)) 54 (.int 6)) 54 (.int 7)) 54 (.int 8)) 54 (.int 9)) 54 (.int 10)) 54 (.int 11)) 54 (.int 12)) 54 (.int 13)) 54 (.int 14)) 54 (.int 15)) 54 (.int 16)) 54 (.int 15)) 54 (.int 14)) 54 (.int 13)) 54 (.int 12)) 54 (.int 11)) 54 (.int 10)) 54 (.int 9)) 54 (.int 8)) 54 (.int 7)) 54 (.int 6)) 54 (.int 5)) 54 (.int 4)) 54 (.int 3)) 54 (.int 2)) 54 (.int 1)) 54 (.int 0)) 32 (.int 16)) 40 (.int 0)) 46 (.int 0)))] := hD
  refine lv_istore (lv' := [(6, .int 7), (5, .int 0), (4, .int 0), (3, .ref qo), (2, .ref qm), (1, .ref qx), (0, .ref b)]) hx hb dL_law_1572 hl (by decide) rfl (fun ls hl => ?_)
  refine lv_aload_n hx hb dL_law_1574 rfl (lv_at hl 4 rfl) ?_
  refine z_calli [(qm, zO 10 83 (va_up (va_up (va_up (va_up (va_up (va_up (va_up (va_up (va_up (va_up (va_up (va_up (va_up (va_up (va_up (va_up (va_up (va_up (va_up (va_up (va_up (va_up (va_up (va_up (va_up (va_up (va_up (va_up (va_up (va_up (va_up (va_up (va_up (va_up (va_up (va_up (va_up (va_up (va_up (va_up (va_up (va_up (va_up (va_up (va_up (va_up (va_up (va_up (va_up (va_up (va_up (zc71 u v) 81 (.int 0)) 56 (.int 0)) 60 (.int 1)) 79 (.int 0)) 55 (.int 0)) 58 (.int 0)) 59 (.int 600)) 72 (.int 0)) 77 (.int 0)) 62 (.int 1280)) 63 (.int (-1))) 64 (.int 0)) 65 (.int 0)) 61 (.int (-1))) 61 (.int 7)) 54 (.int 0)) 54 (.int 1)) 54 (.int 2)) 54 (.int 3)) 54 (.int 4)) 54 (.int 5)) 54 (.int 6)) 54 (.int 7)) 54 (.int 8)) 54 (.int 9)) 54 (.int 10)) 54 (.int 11)) 54 (.int 12)) 54 (.int 13)) 54 (.int 14)) 54 (.int 15)) 54 (.int 16)) 54 (.int 15)) 54 (.int 14)) 54 (.int 13)) 54 (.int 12)) 54 (.int 11)) 54 (.int 10)) 54 (.int 9)) 54 (.int 8)) 54 (.int 7)) 54 (.int 6)) 54 (.int 5)) 54 (.int 4)) 54 (.int 3)) 54 (.int 2)) 54 (.int 1)) 54 (.int 0)) 32 (.int 16)) 40 (.int 0)) 46 (.int 0)))] [(qo, zJ K 1 (va_up (fun _ => 0) 0 7))] [1] [0] hP hD hS hA rfl rfl (by decide +kernel) (by decide +kernel) (by decide +kernel) 128 1867719 rfl rfl (fun hPc hDc hF => z_runV (As := []) (rest := []) ⟨hx, hb, hml, hown, hg⟩ (cX12_thrown_1 l K H.size qm (va_up (va_up (va_up (va_up (va_up (va_up (va_up (va_up (va_up (va_up (va_up (va_up (va_up (va_up (va_up (va_up (va_up (va_up (va_up (va_up (va_up (va_up (va_up (va_up (va_up (va_up (va_up (va_up (va_up (va_up (va_up (va_up (va_up (va_up (va_up (va_up (va_up (va_up (va_up (va_up (va_up (va_up (va_up (va_up (va_up (va_up (va_up (va_up (va_up (va_up (va_up (zc71 u v) 81 (.int 0)) 56 (.int 0)) 60 (.int 1)) 79 (.int 0)) 55 (.int 0)) 58 (.int 0)) 59 (.int 600)) 72 (.int 0)) 77 (.int 0)) 62 (.int 1280)) 63 (.int (-1))) 64 (.int 0)) 65 (.int 0)) 61 (.int (-1))) 61 (.int 7)) 54 (.int 0)) 54 (.int 1)) 54 (.int 2)) 54 (.int 3)) 54 (.int 4)) 54 (.int 5)) 54 (.int 6)) 54 (.int 7)) 54 (.int 8)) 54 (.int 9)) 54 (.int 10)) 54 (.int 11)) 54 (.int 12)) 54 (.int 13)) 54 (.int 14)) 54 (.int 15)) 54 (.int 16)) 54 (.int 15)) 54 (.int 14)) 54 (.int 13)) 54 (.int 12)) 54 (.int 11)) 54 (.int 10)) 54 (.int 9)) 54 (.int 8)) 54 (.int 7)) 54 (.int 6)) 54 (.int 5)) 54 (.int 4)) 54 (.int 3)) 54 (.int 2)) 54 (.int 1)) 54 (.int 0)) 32 (.int 16)) 40 (.int 0)) 46 (.int 0)) (zu_ne (by decide) (zu_ne (by decide) (zu_ne (by decide) (zu_ne (by decide) (zu_ne (by decide) (zu_ne (by decide) (zu_ne (by decide) (zu_ne (by decide) (zu_ne (by decide) (zu_ne (by decide) (zu_ne (by decide) (zu_ne (by decide) (zu_ne (by decide) (zu_ne (by decide) (zu_ne (by decide) (zu_ne (by decide) (zu_ne (by decide) (zu_ne (by decide) (zu_ne (by decide) (zu_ne (by decide) (zu_ne (by decide) (zu_ne (by decide) (zu_ne (by decide) (zu_ne (by decide) (zu_ne (by decide) (zu_ne (by decide) (zu_ne (by decide) (zu_ne (by decide) (zu_ne (by decide) (zu_ne (by decide) (zu_ne (by decide) (zu_ne (by decide) (zu_ne (by decide) (zu_ne (by decide) (zu_ne (by decide) (zu_ne (by decide) (zu_ne (by decide) (zu_ne (by decide) (zu_ne (by decide) (zu_ne (by decide) (zu_ne (by decide) (zu_ne (by decide) (zu_ne (by decide) (zu_ne (by decide) (zu_ne (by decide) (zu_ne (by decide) (zu_ne (by decide) (zu_ne (by decide) (zu_ne (by decide) (zu_ne (by decide) zu_eq))))))))))))))))))))))))))))))))))))))))))))))))))) kV_RL_104 hd_X12_thrown rfl rfl ⟨(Nat.le_of_ble_eq_true rfl), (Nat.le_of_ble_eq_true rfl)⟩ hK hS hZ hPc hDc hF 0 rfl rfl rfl hl.1 rfl (Nat.le_of_ble_eq_true rfl) dL_law_1575 ⟨(Nat.le_of_ble_eq_true rfl), (Nat.le_of_ble_eq_true rfl)⟩) (fun r9 u7 H locs w8 hP hD hS => ?_)
  subst w8
  have hP : va_P K.1 classes [(qo, zJ K 1 (va_up (fun _ => 0) 0 7)), (qm, zO 10 83 (va_up (va_up (va_up (va_up (va_up (va_up (va_up (va_up (va_up (va_up (va_up (va_up (va_up (va_up (va_up (va_up (va_up (va_up (va_up (va_up (va_up (va_up (va_up (va_up (va_up (va_up (va_up (va_up (va_up (va_up (va_up (va_up (va_up (va_up (va_up (va_up (va_up (va_up (va_up (va_up (va_up (va_up (va_up (va_up (va_up (va_up (va_up (va_up (va_up (va_up (va_up (zc71 u v) 81 (.int 0)) 56 (.int 0)) 60 (.int 1)) 79 (.int 0)) 55 (.int 0)) 58 (.int 0)) 59 (.int 600)) 72 (.int 0)) 77 (.int 0)) 62 (.int 1280)) 63 (.int (-1))) 64 (.int 0)) 65 (.int 0)) 61 (.int (-1))) 61 (.int 7)) 54 (.int 0)) 54 (.int 1)) 54 (.int 2)) 54 (.int 3)) 54 (.int 4)) 54 (.int 5)) 54 (.int 6)) 54 (.int 7)) 54 (.int 8)) 54 (.int 9)) 54 (.int 10)) 54 (.int 11)) 54 (.int 12)) 54 (.int 13)) 54 (.int 14)) 54 (.int 15)) 54 (.int 16)) 54 (.int 15)) 54 (.int 14)) 54 (.int 13)) 54 (.int 12)) 54 (.int 11)) 54 (.int 10)) 54 (.int 9)) 54 (.int 8)) 54 (.int 7)) 54 (.int 6)) 54 (.int 5)) 54 (.int 4)) 54 (.int 3)) 54 (.int 2)) 54 (.int 1)) 54 (.int 0)) 32 (.int 16)) 40 (.int 0)) 46 (.int 0)))] H := hP
  have hD : va_D A [(qo, zJ K 1 (va_up (fun _ => 0) 0 7)), (qm, zO 10 83 (va_up (va_up (va_up (va_up (va_up (va_up (va_up (va_up (va_up (va_up (va_up (va_up (va_up (va_up (va_up (va_up (va_up (va_up (va_up (va_up (va_up (va_up (va_up (va_up (va_up (va_up (va_up (va_up (va_up (va_up (va_up (va_up (va_up (va_up (va_up (va_up (va_up (va_up (va_up (va_up (va_up (va_up (va_up (va_up (va_up (va_up (va_up (va_up (va_up (va_up (va_up (zc71 u v) 81 (.int 0)) 56 (.int 0)) 60 (.int 1)) 79 (.int 0)) 55 (.int 0)) 58 (.int 0)) 59 (.int 600)) 72 (.int 0)) 77 (.int 0)) 62 (.int 1280)) 63 (.int (-1))) 64 (.int 0)) 65 (.int 0)) 61 (.int (-1))) 61 (.int 7)) 54 (.int 0)) 54 (.int 1)) 54 (.int 2)) 54 (.int 3)) 54 (.int 4)) 54 (.int 5)) 54 (.int 6)) 54 (.int 7)) 54 (.int 8)) 54 (.int 9)) 54 (.int 10)) 54 (.int 11)) 54 (.int 12)) 54 (.int 13)) 54 (.int 14)) 54 (.int 15)) 54 (.int 16)) 54 (.int 15)) 54 (.int 14)) 54 (.int 13)) 54 (.int 12)) 54 (.int 11)) 54 (.int 10)) 54 (.int 9)) 54 (.int 8)) 54 (.int 7)) 54 (.int 6)) 54 (.int 5)) 54 (.int 4)) 54 (.int 3)) 54 (.int 2)) 54 (.int 1)) 54 (.int 0)) 32 (.int 16)) 40 (.int 0)) 46 (.int 0)))] := hD
  refine lv_iload hx hb dL_law_1578 (lv_at hl 1 rfl) ?_
  refine lv_icmp_eq (tgt := 1585) hx hb dL_law_1580 (by decide) (fun _ => ?_) (fun c => absurd (by decide) c)
  refine lv_iload hx hb dL_law_1585 (lv_at hl 1 rfl) ?_
  refine lv_if_ne (tgt := 1602) hx hb dL_law_1587 (by decide) (fun c => absurd (by decide) c) (fun _ => ?_)
  refine lv_aload_n hx hb dL_law_1590 rfl (lv_at hl 3 rfl) ?_
  refine lv_iconst (v := 0) hx hb dL_law_1591 (by decide) ?_
  refine z_lald (v := 7) (j := 0) hx hb hK hP 0 rfl rfl (Nat.le_of_ble_eq_true rfl) (Nat.le_of_ble_eq_true rfl) zu_eq dL_law_1592 ?_
  refine lv_iload hx hb dL_law_1593 (lv_at hl 0 rfl) ?_
  refine lv_i2l hx hb dL_law_1595 rfl ?_
  refine z_cstl (v := 7) (by decide +kernel) ?_
  refine W.lcmp hx hb dL_law_1596 ?_
  refine z_cst (v := 0) (by decide +kernel) ?_
  refine lv_if_eq (tgt := 1602) hx hb dL_law_1597 (by decide) (fun _ => ?_) (fun c => absurd (by decide) c)
  refine lv_goto (tgt := 2026) hx hb dL_law_1602 (by decide) ?_
  exact law_back ⟨hx, hb, hr, hml, hown, hg, hX, hbl, hlocks, hK, hZ, hl9, hAA, hA, hbA⟩ (Nat.le_of_ble_eq_true rfl) (Nat.le_of_ble_eq_true rfl) hS (lv_sub hl [2, 6] rfl)
set_option maxHeartbeats 4000000 in
set_option maxRecDepth 100000 in
theorem lawS_19_9 {p : Program} {l : Launch} {e : Env} {s : State} {m : MethodId} {below : List Frame} {meth : Method} {c : Code} {b : Nat} {xs : Nat → Int32} {K : zK} {A : Nat → Prop} {H : Heap} {locs : List Loc} {ls : Array Slot} (C : zC p l s m meth c b xs K A) (qx qm qo : Nat) (u v : Nat → Nat) (h0 : xs 6 = 0) (h1 : 0 ≤ (xs 5).toInt) (h2 : (xs 5).toInt < 601) (h3 : 0 ≤ (xs 1).toInt) (h4 : (xs 1).toInt < 8) (h5 : 0 ≤ (xs 2).toInt) (h6 : (xs 2).toInt < 3) (h7 : xs 5 = 1) (h8 : 1 ≤ (xs 2).toInt) (h9 : 2 ≤ (xs 2).toInt) (hP : va_P K.1 classes (lwW K qx qm qo u v) H) (hD : va_D A (lwW K qx qm qo u v)) (hS : va_S A s.heap H locs) (hl : lv_has ls 7 [(4, .int 0), (3, .ref qo), (2, .ref qm), (1, .ref qx), (0, .ref b)]) : W p l e room_1 s m #[Value.ref b] below meth c H locs 124 1863516 (lw_Z below #[Value.ref b] s) (F0 m 1471 ls []) := by
  obtain ⟨hx, hb, hr, hml, hown, hg, hX, hbl, hlocks, hK, hZ, hl9, hAA, hA, hbA⟩ := C
  have hP : va_P K.1 classes [(qx, zO 9 9 (zc0 u v)), ((u 8), zO 4 6 (zc9 u v)), ((u 9), zO 7 6 (zc10 u v)), ((u 10), zI K 645 (fun _ => 0)), ((u 11), zI K 645 (fun _ => 0)), ((u 12), zI K 645 (fun _ => 0)), ((u 13), zI K 645 (fun _ => 0)), ((u 14), zI K 1935 (fun _ => 0)), ((u 16), zI K 8 (fun _ => 0)), ((u 20), zO 4 6 (zc21 u v)), ((u 28), zI K 8 (fun _ => 0)), ((u 59), zO 1 18 (zc60 u v)), ((u 60), zO 3 7 (zc61 u v)), ((u 61), zR K 512 (fun _ => none)), ((u 62), zO 2 6 (zc63 u v)), ((u 68), zI K 10 (fun _ => 0)), (qm, zO 10 83 (zc71 u v)), ((v 7), zI K 1290 (fun _ => 0)), ((v 8), zI K 1290 (fun _ => 0)), ((v 12), zI K 1290 (fun _ => 0)), ((v 25), zI K 60000 (fun _ => 0)), ((v 26), zI K 60000 (fun _ => 0)), ((v 27), zI K 60000 (fun _ => 0)), ((v 28), zI K 60000 (fun _ => 0)), ((v 29), zI K 60000 (fun _ => 0)), ((v 30), zI K 60000 (fun _ => 0)), ((v 31), zI K 60000 (fun _ => 0)), ((v 42), zI K 210000 (fun _ => 0)), ((v 43), zI K 210000 (fun _ => 0)), ((v 49), zI K 10 (fun _ => 0)), (qo, zJ K 1 (fun _ => 0))] H := hP.sub [0, 9, 10, 11, 12, 13, 14, 15, 17, 21, 29, 60, 61, 62, 63, 69, 71, 79, 80, 84, 97, 98, 99, 100, 101, 102, 103, 114, 115, 121, 123] rfl
  have hD : va_D A [(qx, zO 9 9 (zc0 u v)), ((u 8), zO 4 6 (zc9 u v)), ((u 9), zO 7 6 (zc10 u v)), ((u 10), zI K 645 (fun _ => 0)), ((u 11), zI K 645 (fun _ => 0)), ((u 12), zI K 645 (fun _ => 0)), ((u 13), zI K 645 (fun _ => 0)), ((u 14), zI K 1935 (fun _ => 0)), ((u 16), zI K 8 (fun _ => 0)), ((u 20), zO 4 6 (zc21 u v)), ((u 28), zI K 8 (fun _ => 0)), ((u 59), zO 1 18 (zc60 u v)), ((u 60), zO 3 7 (zc61 u v)), ((u 61), zR K 512 (fun _ => none)), ((u 62), zO 2 6 (zc63 u v)), ((u 68), zI K 10 (fun _ => 0)), (qm, zO 10 83 (zc71 u v)), ((v 7), zI K 1290 (fun _ => 0)), ((v 8), zI K 1290 (fun _ => 0)), ((v 12), zI K 1290 (fun _ => 0)), ((v 25), zI K 60000 (fun _ => 0)), ((v 26), zI K 60000 (fun _ => 0)), ((v 27), zI K 60000 (fun _ => 0)), ((v 28), zI K 60000 (fun _ => 0)), ((v 29), zI K 60000 (fun _ => 0)), ((v 30), zI K 60000 (fun _ => 0)), ((v 31), zI K 60000 (fun _ => 0)), ((v 42), zI K 210000 (fun _ => 0)), ((v 43), zI K 210000 (fun _ => 0)), ((v 49), zI K 10 (fun _ => 0)), (qo, zJ K 1 (fun _ => 0))] := hD.sub [0, 9, 10, 11, 12, 13, 14, 15, 17, 21, 29, 60, 61, 62, 63, 69, 71, 79, 80, 84, 97, 98, 99, 100, 101, 102, 103, 114, 115, 121, 123] (by decide +kernel) rfl
  obtain ⟨t1, ht1, v1⟩ : ∃ j : Nat, j < 8 ∧ xs 1 = nI j := z_nat (n := 8) (by omega) (by omega) (by decide)
  have v2 : xs 2 = 2 := z_lit (by rw [show (2 : Int32).toInt = 2 from by decide]; omega)
  refine lv_aload_n hx hb dL_law_1471 rfl (lv_at hl 3 rfl) ?_
  refine lv_aload_n hx hb dL_law_1472 rfl (lv_at hl 4 rfl) ?_
  refine lv_iload hx hb dL_law_1473 (lv_at hl 0 rfl) ?_
  refine lv_iconst (v := 1) hx hb dL_law_1475 (by decide) ?_
  refine lv_iadd hx hb dL_law_1476 ?_
  refine z_cst (v := 1) (by decide +kernel) ?_
  refine z_sld (v := (nI t1)) (j := 1) hx hb hX hbl hbA hS rfl (Nat.le_of_ble_eq_true rfl) v1 dL_law_1477 ?_
  refine lv_aload_n hx hb dL_law_1478 rfl (lv_at hl 4 rfl) ?_
  refine lv_iload hx hb dL_law_1479 (lv_at hl 0 rfl) ?_
  refine lv_iconst (v := 2) hx hb dL_law_1481 (by decide) ?_
  refine lv_iadd hx hb dL_law_1482 ?_
  refine z_cst (v := 2) (by decide +kernel) ?_
  refine z_sld (v := 2) (j := 2) hx hb hX hbl hbA hS rfl (Nat.le_of_ble_eq_true rfl) v2 dL_law_1483 ?_
  refine lv_aload_n hx hb dL_law_1484 rfl (lv_at hl 4 rfl) ?_
  refine lv_iload hx hb dL_law_1485 (lv_at hl 0 rfl) ?_
  refine lv_iconst (v := 3) hx hb dL_law_1487 (by decide) ?_
  refine lv_iadd hx hb dL_law_1488 ?_
  refine z_cst (v := 3) (by decide +kernel) ?_
  refine z_sld (v := (xs 3)) (j := 3) hx hb hX hbl hbA hS rfl (Nat.le_of_ble_eq_true rfl) rfl dL_law_1489 ?_
  refine lv_aload_n hx hb dL_law_1490 rfl (lv_at hl 4 rfl) ?_
  refine lv_iload hx hb dL_law_1491 (lv_at hl 0 rfl) ?_
  refine lv_iconst (v := 4) hx hb dL_law_1493 (by decide) ?_
  refine lv_iadd hx hb dL_law_1494 ?_
  refine z_cst (v := 4) (by decide +kernel) ?_
  refine z_sld (v := (xs 4)) (j := 4) hx hb hX hbl hbA hS rfl (Nat.le_of_ble_eq_true rfl) rfl dL_law_1495 ?_
  refine lv_aload_n hx hb dL_law_1496 rfl (lv_at hl 4 rfl) ?_
  refine lv_iload hx hb dL_law_1497 (lv_at hl 0 rfl) ?_
  refine lv_iconst (v := 5) hx hb dL_law_1499 (by decide) ?_
  refine lv_iadd hx hb dL_law_1500 ?_
  refine z_cst (v := 5) (by decide +kernel) ?_
  refine z_sld (v := 1) (j := 5) hx hb hX hbl hbA hS rfl (Nat.le_of_ble_eq_true rfl) h7 dL_law_1501 ?_
  refine lv_aload_n hx hb dL_law_1502 rfl (lv_at hl 4 rfl) ?_
  refine lv_iload hx hb dL_law_1503 (lv_at hl 0 rfl) ?_
  refine lv_bipush (v := 6) hx hb dL_law_1505 (by decide) ?_
  refine lv_iadd hx hb dL_law_1507 ?_
  refine z_cst (v := 6) (by decide +kernel) ?_
  refine z_sld (v := 0) (j := 6) hx hb hX hbl hbA hS rfl (Nat.le_of_ble_eq_true rfl) h0 dL_law_1508 ?_
  refine lv_if_eq (tgt := 1516) hx hb dL_law_1509 (by decide) (fun _ => ?_) (fun c => absurd (by decide) c)
  refine lv_iconst (v := 0) hx hb dL_law_1516 (by decide) ?_
  refine lv_aload_n hx hb dL_law_1517 rfl (lv_at hl 1 rfl) ?_
  refine z_hcalli [(qx, zO 9 9 (zc0 u v)), ((u 8), zO 4 6 (zc9 u v)), ((u 9), zO 7 6 (zc10 u v)), ((u 10), zI K 645 (fun _ => 0)), ((u 11), zI K 645 (fun _ => 0)), ((u 12), zI K 645 (fun _ => 0)), ((u 13), zI K 645 (fun _ => 0)), ((u 14), zI K 1935 (fun _ => 0)), ((u 59), zO 1 18 (zc60 u v)), ((u 60), zO 3 7 (zc61 u v)), ((u 16), zI K 8 (fun _ => 0)), ((u 20), zO 4 6 (zc21 u v)), ((u 28), zI K 8 (fun _ => 0)), ((u 61), zR K 512 (fun _ => none)), ((u 62), zO 2 6 (zc63 u v)), ((u 68), zI K 10 (fun _ => 0)), (qo, zJ K 1 (fun _ => 0))] [(qm, zO 10 83 (zc71 u v)), ((v 7), zI K 1290 (fun _ => 0)), ((v 8), zI K 1290 (fun _ => 0)), ((v 12), zI K 1290 (fun _ => 0)), ((v 25), zI K 60000 (fun _ => 0)), ((v 26), zI K 60000 (fun _ => 0)), ((v 27), zI K 60000 (fun _ => 0)), ((v 28), zI K 60000 (fun _ => 0)), ((v 29), zI K 60000 (fun _ => 0)), ((v 30), zI K 60000 (fun _ => 0)), ((v 31), zI K 60000 (fun _ => 0)), ((v 42), zI K 210000 (fun _ => 0)), ((v 43), zI K 210000 (fun _ => 0)), ((v 49), zI K 10 (fun _ => 0))] [0, 1, 2, 3, 4, 5, 6, 7, 11, 12, 8, 9, 10, 13, 14, 15, 30] [16, 17, 18, 19, 20, 21, 22, 23, 24, 25, 26, 27, 28, 29] hP hD hS hA rfl rfl (by decide +kernel) (by decide +kernel) (by decide +kernel) 128 1867719 rfl rfl (fun hPc hDc hF => z_xrunH (As := [.ref qx, .int (nI t1), .int 2, .int (xs 3), .int (xs 4), .int 1, .int 0, .ref qo]) (rest := []) ⟨hx, hb, hml, hown, hg⟩ (cL_run_10 l hl9 K H.size qx qo (u 8) (u 9) (u 10) (u 11) (u 12) (u 13) (u 14) (u 59) (u 60) (u 16) (u 20) (u 28) (u 61) (u 62) (u 68) (zc0 u v) (zc9 u v) (zc10 u v) (fun _ => 0) (fun _ => 0) (fun _ => 0) (fun _ => 0) (fun _ => 0) (zc60 u v) (zc61 u v) (fun _ => 0) (zc21 u v) (fun _ => 0) (fun _ => none) (zc63 u v) (fun _ => 0) (fun _ => 0) t1 ht1 (xs 3) (xs 4) (zc0_3 u v) (zc9_0 u v) (zc10_5 u v) (zc10_0 u v) (zc10_1 u v) (zc10_2 u v) (zc10_3 u v) (zc10_4 u v) (zc0_7 u v) (zc60_0 u v) (zc61_6 u v) (zc61_4 u v) (zc61_0 u v) (zc9_2 u v) rfl rfl rfl rfl rfl rfl rfl rfl (zc61_1 u v) (zc21_2 u v) rfl rfl rfl rfl rfl rfl rfl rfl (zc61_3 u v) (zc61_2 u v) (zc60_1 u v) (zc60_2 u v)) kS_RL_166 hd_L_run rfl rfl ⟨(Nat.le_of_ble_eq_true rfl), (Nat.le_of_ble_eq_true rfl)⟩ hK hS hZ hPc hDc hF rfl hl.1 rfl (Nat.le_of_ble_eq_true rfl) dL_law_1518 ⟨(Nat.le_of_ble_eq_true rfl), (Nat.le_of_ble_eq_true rfl)⟩) (fun r3 u1 H locs w2 hP hD hS => ?_)
  subst w2
  have hP : va_P K.1 classes [(qm, zO 10 83 (zc71 u v)), ((v 7), zI K 1290 (fun _ => 0)), ((v 8), zI K 1290 (fun _ => 0)), ((v 12), zI K 1290 (fun _ => 0)), ((v 25), zI K 60000 (fun _ => 0)), ((v 26), zI K 60000 (fun _ => 0)), ((v 27), zI K 60000 (fun _ => 0)), ((v 28), zI K 60000 (fun _ => 0)), ((v 29), zI K 60000 (fun _ => 0)), ((v 30), zI K 60000 (fun _ => 0)), ((v 31), zI K 60000 (fun _ => 0)), ((v 42), zI K 210000 (fun _ => 0)), ((v 43), zI K 210000 (fun _ => 0)), ((v 49), zI K 10 (fun _ => 0)), (qo, zJ K 1 (va_up (fun _ => 0) 0 7))] H := hP
  have hD : va_D A [(qm, zO 10 83 (zc71 u v)), ((v 7), zI K 1290 (fun _ => 0)), ((v 8), zI K 1290 (fun _ => 0)), ((v 12), zI K 1290 (fun _ => 0)), ((v 25), zI K 60000 (fun _ => 0)), ((v 26), zI K 60000 (fun _ => 0)), ((v 27), zI K 60000 (fun _ => 0)), ((v 28), zI K 60000 (fun _ => 0)), ((v 29), zI K 60000 (fun _ => 0)), ((v 30), zI K 60000 (fun _ => 0)), ((v 31), zI K 60000 (fun _ => 0)), ((v 42), zI K 210000 (fun _ => 0)), ((v 43), zI K 210000 (fun _ => 0)), ((v 49), zI K 10 (fun _ => 0)), (qo, zJ K 1 (va_up (fun _ => 0) 0 7))] := hD
  refine lv_istore (lv' := [(5, .int 0), (4, .int 0), (3, .ref qo), (2, .ref qm), (1, .ref qx), (0, .ref b)]) hx hb dL_law_1521 hl (by decide) rfl (fun ls hl => ?_)
  refine lv_aload_n hx hb dL_law_1523 rfl (lv_at hl 3 rfl) ?_
  refine lv_aload_n hx hb dL_law_1524 rfl (lv_at hl 5 rfl) ?_
  refine lv_iload hx hb dL_law_1525 (lv_at hl 1 rfl) ?_
  refine lv_iconst (v := 1) hx hb dL_law_1527 (by decide) ?_
  refine lv_iadd hx hb dL_law_1528 ?_
  refine z_cst (v := 1) (by decide +kernel) ?_
  refine z_sld (v := (nI t1)) (j := 1) hx hb hX hbl hbA hS rfl (Nat.le_of_ble_eq_true rfl) v1 dL_law_1529 ?_
  refine lv_aload_n hx hb dL_law_1530 rfl (lv_at hl 5 rfl) ?_
  refine lv_iload hx hb dL_law_1531 (lv_at hl 1 rfl) ?_
  refine lv_iconst (v := 2) hx hb dL_law_1533 (by decide) ?_
  refine lv_iadd hx hb dL_law_1534 ?_
  refine z_cst (v := 2) (by decide +kernel) ?_
  refine z_sld (v := 2) (j := 2) hx hb hX hbl hbA hS rfl (Nat.le_of_ble_eq_true rfl) v2 dL_law_1535 ?_
  refine lv_aload_n hx hb dL_law_1536 rfl (lv_at hl 5 rfl) ?_
  refine lv_iload hx hb dL_law_1537 (lv_at hl 1 rfl) ?_
  refine lv_iconst (v := 3) hx hb dL_law_1539 (by decide) ?_
  refine lv_iadd hx hb dL_law_1540 ?_
  refine z_cst (v := 3) (by decide +kernel) ?_
  refine z_sld (v := (xs 3)) (j := 3) hx hb hX hbl hbA hS rfl (Nat.le_of_ble_eq_true rfl) rfl dL_law_1541 ?_
  refine lv_aload_n hx hb dL_law_1542 rfl (lv_at hl 5 rfl) ?_
  refine lv_iload hx hb dL_law_1543 (lv_at hl 1 rfl) ?_
  refine lv_iconst (v := 4) hx hb dL_law_1545 (by decide) ?_
  refine lv_iadd hx hb dL_law_1546 ?_
  refine z_cst (v := 4) (by decide +kernel) ?_
  refine z_sld (v := (xs 4)) (j := 4) hx hb hX hbl hbA hS rfl (Nat.le_of_ble_eq_true rfl) rfl dL_law_1547 ?_
  refine lv_aload_n hx hb dL_law_1548 rfl (lv_at hl 5 rfl) ?_
  refine lv_iload hx hb dL_law_1549 (lv_at hl 1 rfl) ?_
  refine lv_iconst (v := 5) hx hb dL_law_1551 (by decide) ?_
  refine lv_iadd hx hb dL_law_1552 ?_
  refine z_cst (v := 5) (by decide +kernel) ?_
  refine z_sld (v := 1) (j := 5) hx hb hX hbl hbA hS rfl (Nat.le_of_ble_eq_true rfl) h7 dL_law_1553 ?_
  refine lv_aload_n hx hb dL_law_1554 rfl (lv_at hl 5 rfl) ?_
  refine lv_iload hx hb dL_law_1555 (lv_at hl 1 rfl) ?_
  refine lv_bipush (v := 6) hx hb dL_law_1557 (by decide) ?_
  refine lv_iadd hx hb dL_law_1559 ?_
  refine z_cst (v := 6) (by decide +kernel) ?_
  refine z_sld (v := 0) (j := 6) hx hb hX hbl hbA hS rfl (Nat.le_of_ble_eq_true rfl) h0 dL_law_1560 ?_
  refine lv_if_eq (tgt := 1568) hx hb dL_law_1561 (by decide) (fun _ => ?_) (fun c => absurd (by decide) c)
  refine lv_iconst (v := 0) hx hb dL_law_1568 (by decide) ?_
  refine z_calli [(qm, zO 10 83 (zc71 u v)), ((v 49), zI K 10 (fun _ => 0)), ((v 7), zI K 1290 (fun _ => 0)), ((v 8), zI K 1290 (fun _ => 0)), ((v 12), zI K 1290 (fun _ => 0)), ((v 42), zI K 210000 (fun _ => 0)), ((v 43), zI K 210000 (fun _ => 0)), ((v 25), zI K 60000 (fun _ => 0)), ((v 26), zI K 60000 (fun _ => 0)), ((v 27), zI K 60000 (fun _ => 0)), ((v 28), zI K 60000 (fun _ => 0)), ((v 29), zI K 60000 (fun _ => 0)), ((v 30), zI K 60000 (fun _ => 0)), ((v 31), zI K 60000 (fun _ => 0))] [(qo, zJ K 1 (va_up (fun _ => 0) 0 7))] [0, 13, 1, 2, 3, 11, 12, 4, 5, 6, 7, 8, 9, 10] [14] hP hD hS hA rfl rfl (by decide +kernel) (by decide +kernel) (by decide +kernel) 128 1867719 rfl rfl (fun hPc hDc hF => z_runV (As := [.int (nI t1), .int 2, .int (xs 3), .int (xs 4), .int 1, .int 0]) (rest := []) ⟨hx, hb, hml, hown, hg⟩ (cX12_run_10 l K H.size qm (v 49) (v 7) (v 8) (v 12) (v 42) (v 43) (v 25) (v 26) (v 27) (v 28) (v 29) (v 30) (v 31) (zc71 u v) (fun _ => 0) (fun _ => 0) (fun _ => 0) (fun _ => 0) (fun _ => 0) (fun _ => 0) (fun _ => 0) (fun _ => 0) (fun _ => 0) (fun _ => 0) (fun _ => 0) (fun _ => 0) (fun _ => 0) t1 ht1 (xs 3) (xs 4) (zc71_80 u v) (zc71_8 u v) (zc71_9 u v) (zc71_13 u v) (zc71_57 u v) (zc71_32 u v) (zc71_52 u v) (zc71_40 u v) (zc71_46 u v) (zc71_53 u v) (zc71_33 u v) rfl rfl rfl rfl rfl rfl rfl rfl rfl rfl rfl rfl rfl rfl rfl rfl (zc71_34 u v) rfl (zc71_35 u v) (zc71_36 u v) (zc71_37 u v) rfl (zc71_38 u v) (zc71_39 u v) rfl rfl rfl rfl rfl rfl rfl rfl rfl rfl rfl rfl rfl rfl rfl rfl rfl rfl rfl rfl rfl rfl rfl rfl rfl rfl rfl rfl rfl rfl rfl rfl rfl rfl rfl rfl rfl rfl rfl rfl rfl rfl rfl rfl rfl rfl) kV_RL_169 hd_X12_run rfl rfl ⟨(Nat.le_of_ble_eq_true rfl), (Nat.le_of_ble_eq_true rfl)⟩ hK hS hZ hPc hDc hF 0 rfl rfl rfl hl.1 rfl (Nat.le_of_ble_eq_true rfl) dL_law_1569 ⟨(Nat.le_of_ble_eq_true rfl), (Nat.le_of_ble_eq_true rfl)⟩) (fun r6 u4 H locs w5 hP hD hS => ?_)
  subst w5
  have hP : va_P K.1 classes [(qo, zJ K 1 (va_up (fun _ => 0) 0 7)), (qm, zO 10 83 (va_up (va_up (va_up (va_up (va_up (va_up (va_up (va_up (va_up (va_up (va_up (va_up (va_up (va_up (va_up (va_up (va_up (va_up (va_up (va_up (va_up (va_up (va_up (va_up (va_up (va_up (va_up (va_up (va_up (va_up (va_up (va_up (va_up (va_up (va_up (va_up (va_up (va_up (va_up (va_up (va_up (va_up (va_up (va_up (va_up (va_up (va_up (va_up (va_up (va_up (va_up (zc71 u v) 81 (.int 0)) 56 (.int 0)) 60 (.int 1)) 79 (.int 0)) 55 (.int 0)) 58 (.int 0)) 59 (.int 600)) 72 (.int 0)) 77 (.int 0)) 62 (.int 1280)) 63 (.int (-1))) 64 (.int 0)) 65 (.int 0)) 61 (.int (-1))) 61 (.int 7)) 54 (.int 0)) 54 (.int 1)) 54 (.int 2)) 54 (.int 3)) 54 (.int 4)) 54 (.int 5)) 54 (.int 6)) 54 (.int 7)) 54 (.int 8)) 54 (.int 9)) 54 (.int 10)) 54 (.int 11)) 54 (.int 12)) 54 (.int 13)) 54 (.int 14)) 54 (.int 15)) 54 (.int 16)) 54 (.int 15)) 54 (.int 14)) 54 (.int 13)) 54 (.int 12)) 54 (.int 11)) 54 (.int 10)) 54 (.int 9)) 54 (.int 8)) 54 (.int 7)) 54 (.int 6)) 54 (.int 5)) 54 (.int 4)) 54 (.int 3)) 54 (.int 2)) 54 (.int 1)) 54 (.int 0)) 32 (.int 16)) 40 (.int 0)) 46 (.int 0)))] H := hP
  have hD : va_D A [(qo, zJ K 1 (va_up (fun _ => 0) 0 7)), (qm, zO 10 83 (va_up (va_up (va_up (va_up (va_up (va_up (va_up (va_up (va_up (va_up (va_up (va_up (va_up (va_up (va_up (va_up (va_up (va_up (va_up (va_up (va_up (va_up (va_up (va_up (va_up (va_up (va_up (va_up (va_up (va_up (va_up (va_up (va_up (va_up (va_up (va_up (va_up (va_up (va_up (va_up (va_up (va_up (va_up (va_up (va_up (va_up (va_up (va_up (va_up (va_up (va_up (zc71 u v) 81 (.int 0)) 56 (.int 0)) 60 (.int 1)) 79 (.int 0)) 55 (.int 0)) 58 (.int 0)) 59 (.int 600)) 72 (.int 0)) 77 (.int 0)) 62 (.int 1280)) 63 (.int (-1))) 64 (.int 0)) 65 (.int 0)) 61 (.int (-1))) 61 (.int 7)) 54 (.int 0)) 54 (.int 1)) 54 (.int 2)) 54 (.int 3)) 54 (.int 4)) 54 (.int 5)) 54 (.int 6)) 54 (.int 7)) 54 (.int 8)) 54 (.int 9)) 54 (.int 10)) 54 (.int 11)) 54 (.int 12)) 54 (.int 13)) 54 (.int 14)) 54 (.int 15)) 54 (.int 16)) 54 (.int 15)) 54 (.int 14)) 54 (.int 13)) 54 (.int 12)) 54 (.int 11)) 54 (.int 10)) 54 (.int 9)) 54 (.int 8)) 54 (.int 7)) 54 (.int 6)) 54 (.int 5)) 54 (.int 4)) 54 (.int 3)) 54 (.int 2)) 54 (.int 1)) 54 (.int 0)) 32 (.int 16)) 40 (.int 0)) 46 (.int 0)))] := hD
  refine lv_istore (lv' := [(6, .int 7), (5, .int 0), (4, .int 0), (3, .ref qo), (2, .ref qm), (1, .ref qx), (0, .ref b)]) hx hb dL_law_1572 hl (by decide) rfl (fun ls hl => ?_)
  refine lv_aload_n hx hb dL_law_1574 rfl (lv_at hl 4 rfl) ?_
  refine z_calli [(qm, zO 10 83 (va_up (va_up (va_up (va_up (va_up (va_up (va_up (va_up (va_up (va_up (va_up (va_up (va_up (va_up (va_up (va_up (va_up (va_up (va_up (va_up (va_up (va_up (va_up (va_up (va_up (va_up (va_up (va_up (va_up (va_up (va_up (va_up (va_up (va_up (va_up (va_up (va_up (va_up (va_up (va_up (va_up (va_up (va_up (va_up (va_up (va_up (va_up (va_up (va_up (va_up (va_up (zc71 u v) 81 (.int 0)) 56 (.int 0)) 60 (.int 1)) 79 (.int 0)) 55 (.int 0)) 58 (.int 0)) 59 (.int 600)) 72 (.int 0)) 77 (.int 0)) 62 (.int 1280)) 63 (.int (-1))) 64 (.int 0)) 65 (.int 0)) 61 (.int (-1))) 61 (.int 7)) 54 (.int 0)) 54 (.int 1)) 54 (.int 2)) 54 (.int 3)) 54 (.int 4)) 54 (.int 5)) 54 (.int 6)) 54 (.int 7)) 54 (.int 8)) 54 (.int 9)) 54 (.int 10)) 54 (.int 11)) 54 (.int 12)) 54 (.int 13)) 54 (.int 14)) 54 (.int 15)) 54 (.int 16)) 54 (.int 15)) 54 (.int 14)) 54 (.int 13)) 54 (.int 12)) 54 (.int 11)) 54 (.int 10)) 54 (.int 9)) 54 (.int 8)) 54 (.int 7)) 54 (.int 6)) 54 (.int 5)) 54 (.int 4)) 54 (.int 3)) 54 (.int 2)) 54 (.int 1)) 54 (.int 0)) 32 (.int 16)) 40 (.int 0)) 46 (.int 0)))] [(qo, zJ K 1 (va_up (fun _ => 0) 0 7))] [1] [0] hP hD hS hA rfl rfl (by decide +kernel) (by decide +kernel) (by decide +kernel) 128 1867719 rfl rfl (fun hPc hDc hF => z_runV (As := []) (rest := []) ⟨hx, hb, hml, hown, hg⟩ (cX12_thrown_1 l K H.size qm (va_up (va_up (va_up (va_up (va_up (va_up (va_up (va_up (va_up (va_up (va_up (va_up (va_up (va_up (va_up (va_up (va_up (va_up (va_up (va_up (va_up (va_up (va_up (va_up (va_up (va_up (va_up (va_up (va_up (va_up (va_up (va_up (va_up (va_up (va_up (va_up (va_up (va_up (va_up (va_up (va_up (va_up (va_up (va_up (va_up (va_up (va_up (va_up (va_up (va_up (va_up (zc71 u v) 81 (.int 0)) 56 (.int 0)) 60 (.int 1)) 79 (.int 0)) 55 (.int 0)) 58 (.int 0)) 59 (.int 600)) 72 (.int 0)) 77 (.int 0)) 62 (.int 1280)) 63 (.int (-1))) 64 (.int 0)) 65 (.int 0)) 61 (.int (-1))) 61 (.int 7)) 54 (.int 0)) 54 (.int 1)) 54 (.int 2)) 54 (.int 3)) 54 (.int 4)) 54 (.int 5)) 54 (.int 6)) 54 (.int 7)) 54 (.int 8)) 54 (.int 9)) 54 (.int 10)) 54 (.int 11)) 54 (.int 12)) 54 (.int 13)) 54 (.int 14)) 54 (.int 15)) 54 (.int 16)) 54 (.int 15)) 54 (.int 14)) 54 (.int 13)) 54 (.int 12)) 54 (.int 11)) 54 (.int 10)) 54 (.int 9)) 54 (.int 8)) 54 (.int 7)) 54 (.int 6)) 54 (.int 5)) 54 (.int 4)) 54 (.int 3)) 54 (.int 2)) 54 (.int 1)) 54 (.int 0)) 32 (.int 16)) 40 (.int 0)) 46 (.int 0)) (zu_ne (by decide) (zu_ne (by decide) (zu_ne (by decide) (zu_ne (by decide) (zu_ne (by decide) (zu_ne (by decide) (zu_ne (by decide) (zu_ne (by decide) (zu_ne (by decide) (zu_ne (by decide) (zu_ne (by decide) (zu_ne (by decide) (zu_ne (by decide) (zu_ne (by decide) (zu_ne (by decide) (zu_ne (by decide) (zu_ne (by decide) (zu_ne (by decide) (zu_ne (by decide) (zu_ne (by decide) (zu_ne (by decide) (zu_ne (by decide) (zu_ne (by decide) (zu_ne (by decide) (zu_ne (by decide) (zu_ne (by decide) (zu_ne (by decide) (zu_ne (by decide) (zu_ne (by decide) (zu_ne (by decide) (zu_ne (by decide) (zu_ne (by decide) (zu_ne (by decide) (zu_ne (by decide) (zu_ne (by decide) (zu_ne (by decide) (zu_ne (by decide) (zu_ne (by decide) (zu_ne (by decide) (zu_ne (by decide) (zu_ne (by decide) (zu_ne (by decide) (zu_ne (by decide) (zu_ne (by decide) (zu_ne (by decide) (zu_ne (by decide) (zu_ne (by decide) (zu_ne (by decide) (zu_ne (by decide) (zu_ne (by decide) zu_eq))))))))))))))))))))))))))))))))))))))))))))))))))) kV_RL_104 hd_X12_thrown rfl rfl ⟨(Nat.le_of_ble_eq_true rfl), (Nat.le_of_ble_eq_true rfl)⟩ hK hS hZ hPc hDc hF 0 rfl rfl rfl hl.1 rfl (Nat.le_of_ble_eq_true rfl) dL_law_1575 ⟨(Nat.le_of_ble_eq_true rfl), (Nat.le_of_ble_eq_true rfl)⟩) (fun r9 u7 H locs w8 hP hD hS => ?_)
  subst w8
  have hP : va_P K.1 classes [(qo, zJ K 1 (va_up (fun _ => 0) 0 7)), (qm, zO 10 83 (va_up (va_up (va_up (va_up (va_up (va_up (va_up (va_up (va_up (va_up (va_up (va_up (va_up (va_up (va_up (va_up (va_up (va_up (va_up (va_up (va_up (va_up (va_up (va_up (va_up (va_up (va_up (va_up (va_up (va_up (va_up (va_up (va_up (va_up (va_up (va_up (va_up (va_up (va_up (va_up (va_up (va_up (va_up (va_up (va_up (va_up (va_up (va_up (va_up (va_up (va_up (zc71 u v) 81 (.int 0)) 56 (.int 0)) 60 (.int 1)) 79 (.int 0)) 55 (.int 0)) 58 (.int 0)) 59 (.int 600)) 72 (.int 0)) 77 (.int 0)) 62 (.int 1280)) 63 (.int (-1))) 64 (.int 0)) 65 (.int 0)) 61 (.int (-1))) 61 (.int 7)) 54 (.int 0)) 54 (.int 1)) 54 (.int 2)) 54 (.int 3)) 54 (.int 4)) 54 (.int 5)) 54 (.int 6)) 54 (.int 7)) 54 (.int 8)) 54 (.int 9)) 54 (.int 10)) 54 (.int 11)) 54 (.int 12)) 54 (.int 13)) 54 (.int 14)) 54 (.int 15)) 54 (.int 16)) 54 (.int 15)) 54 (.int 14)) 54 (.int 13)) 54 (.int 12)) 54 (.int 11)) 54 (.int 10)) 54 (.int 9)) 54 (.int 8)) 54 (.int 7)) 54 (.int 6)) 54 (.int 5)) 54 (.int 4)) 54 (.int 3)) 54 (.int 2)) 54 (.int 1)) 54 (.int 0)) 32 (.int 16)) 40 (.int 0)) 46 (.int 0)))] H := hP
  have hD : va_D A [(qo, zJ K 1 (va_up (fun _ => 0) 0 7)), (qm, zO 10 83 (va_up (va_up (va_up (va_up (va_up (va_up (va_up (va_up (va_up (va_up (va_up (va_up (va_up (va_up (va_up (va_up (va_up (va_up (va_up (va_up (va_up (va_up (va_up (va_up (va_up (va_up (va_up (va_up (va_up (va_up (va_up (va_up (va_up (va_up (va_up (va_up (va_up (va_up (va_up (va_up (va_up (va_up (va_up (va_up (va_up (va_up (va_up (va_up (va_up (va_up (va_up (zc71 u v) 81 (.int 0)) 56 (.int 0)) 60 (.int 1)) 79 (.int 0)) 55 (.int 0)) 58 (.int 0)) 59 (.int 600)) 72 (.int 0)) 77 (.int 0)) 62 (.int 1280)) 63 (.int (-1))) 64 (.int 0)) 65 (.int 0)) 61 (.int (-1))) 61 (.int 7)) 54 (.int 0)) 54 (.int 1)) 54 (.int 2)) 54 (.int 3)) 54 (.int 4)) 54 (.int 5)) 54 (.int 6)) 54 (.int 7)) 54 (.int 8)) 54 (.int 9)) 54 (.int 10)) 54 (.int 11)) 54 (.int 12)) 54 (.int 13)) 54 (.int 14)) 54 (.int 15)) 54 (.int 16)) 54 (.int 15)) 54 (.int 14)) 54 (.int 13)) 54 (.int 12)) 54 (.int 11)) 54 (.int 10)) 54 (.int 9)) 54 (.int 8)) 54 (.int 7)) 54 (.int 6)) 54 (.int 5)) 54 (.int 4)) 54 (.int 3)) 54 (.int 2)) 54 (.int 1)) 54 (.int 0)) 32 (.int 16)) 40 (.int 0)) 46 (.int 0)))] := hD
  refine lv_iload hx hb dL_law_1578 (lv_at hl 1 rfl) ?_
  refine lv_icmp_eq (tgt := 1585) hx hb dL_law_1580 (by decide) (fun _ => ?_) (fun c => absurd (by decide) c)
  refine lv_iload hx hb dL_law_1585 (lv_at hl 1 rfl) ?_
  refine lv_if_ne (tgt := 1602) hx hb dL_law_1587 (by decide) (fun c => absurd (by decide) c) (fun _ => ?_)
  refine lv_aload_n hx hb dL_law_1590 rfl (lv_at hl 3 rfl) ?_
  refine lv_iconst (v := 0) hx hb dL_law_1591 (by decide) ?_
  refine z_lald (v := 7) (j := 0) hx hb hK hP 0 rfl rfl (Nat.le_of_ble_eq_true rfl) (Nat.le_of_ble_eq_true rfl) zu_eq dL_law_1592 ?_
  refine lv_iload hx hb dL_law_1593 (lv_at hl 0 rfl) ?_
  refine lv_i2l hx hb dL_law_1595 rfl ?_
  refine z_cstl (v := 7) (by decide +kernel) ?_
  refine W.lcmp hx hb dL_law_1596 ?_
  refine z_cst (v := 0) (by decide +kernel) ?_
  refine lv_if_eq (tgt := 1602) hx hb dL_law_1597 (by decide) (fun _ => ?_) (fun c => absurd (by decide) c)
  refine lv_goto (tgt := 2026) hx hb dL_law_1602 (by decide) ?_
  exact law_back ⟨hx, hb, hr, hml, hown, hg, hX, hbl, hlocks, hK, hZ, hl9, hAA, hA, hbA⟩ (Nat.le_of_ble_eq_true rfl) (Nat.le_of_ble_eq_true rfl) hS (lv_sub hl [2, 6] rfl)
set_option maxHeartbeats 4000000 in
set_option maxRecDepth 100000 in
theorem lawS_19_10 {p : Program} {l : Launch} {e : Env} {s : State} {m : MethodId} {below : List Frame} {meth : Method} {c : Code} {b : Nat} {xs : Nat → Int32} {K : zK} {A : Nat → Prop} {H : Heap} {locs : List Loc} {ls : Array Slot} (C : zC p l s m meth c b xs K A) (qx qm qo : Nat) (u v : Nat → Nat) (h0 : xs 6 = 0) (h1 : 0 ≤ (xs 5).toInt) (h2 : (xs 5).toInt < 601) (h3 : 0 ≤ (xs 1).toInt) (h4 : (xs 1).toInt < 8) (h5 : 0 ≤ (xs 2).toInt) (h6 : (xs 2).toInt < 3) (h7 : ¬ xs 5 = 1) (h8 : (xs 2).toInt < 1) (hP : va_P K.1 classes (lwW K qx qm qo u v) H) (hD : va_D A (lwW K qx qm qo u v)) (hS : va_S A s.heap H locs) (hl : lv_has ls 7 [(4, .int 0), (3, .ref qo), (2, .ref qm), (1, .ref qx), (0, .ref b)]) : W p l e room_1 s m #[Value.ref b] below meth c H locs 124 1863516 (lw_Z below #[Value.ref b] s) (F0 m 1471 ls []) := by
  obtain ⟨hx, hb, hr, hml, hown, hg, hX, hbl, hlocks, hK, hZ, hl9, hAA, hA, hbA⟩ := C
  have hP : va_P K.1 classes [(qx, zO 9 9 (zc0 u v)), ((u 8), zO 4 6 (zc9 u v)), ((u 9), zO 7 6 (zc10 u v)), ((u 10), zI K 645 (fun _ => 0)), ((u 11), zI K 645 (fun _ => 0)), ((u 12), zI K 645 (fun _ => 0)), ((u 13), zI K 645 (fun _ => 0)), ((u 14), zI K 1935 (fun _ => 0)), ((u 15), zI K 8 (fun _ => 0)), ((u 16), zI K 8 (fun _ => 0)), ((u 20), zO 4 6 (zc21 u v)), ((u 28), zI K 8 (fun _ => 0)), ((u 59), zO 1 18 (zc60 u v)), ((u 60), zO 3 7 (zc61 u v)), ((u 61), zR K 512 (fun _ => none)), ((u 62), zO 2 6 (zc63 u v)), ((u 68), zI K 10 (fun _ => 0)), (qm, zO 10 83 (zc71 u v)), ((v 7), zI K 1290 (fun _ => 0)), ((v 8), zI K 1290 (fun _ => 0)), ((v 12), zI K 1290 (fun _ => 0)), ((v 13), zI K 16 (fun _ => 0)), ((v 25), zI K 60000 (fun _ => 0)), ((v 26), zI K 60000 (fun _ => 0)), ((v 27), zI K 60000 (fun _ => 0)), ((v 28), zI K 60000 (fun _ => 0)), ((v 29), zI K 60000 (fun _ => 0)), ((v 30), zI K 60000 (fun _ => 0)), ((v 31), zI K 60000 (fun _ => 0)), ((v 42), zI K 210000 (fun _ => 0)), ((v 43), zI K 210000 (fun _ => 0)), ((v 49), zI K 10 (fun _ => 0)), (qo, zJ K 1 (fun _ => 0))] H := hP.sub [0, 9, 10, 11, 12, 13, 14, 15, 16, 17, 21, 29, 60, 61, 62, 63, 69, 71, 79, 80, 84, 85, 97, 98, 99, 100, 101, 102, 103, 114, 115, 121, 123] rfl
  have hD : va_D A [(qx, zO 9 9 (zc0 u v)), ((u 8), zO 4 6 (zc9 u v)), ((u 9), zO 7 6 (zc10 u v)), ((u 10), zI K 645 (fun _ => 0)), ((u 11), zI K 645 (fun _ => 0)), ((u 12), zI K 645 (fun _ => 0)), ((u 13), zI K 645 (fun _ => 0)), ((u 14), zI K 1935 (fun _ => 0)), ((u 15), zI K 8 (fun _ => 0)), ((u 16), zI K 8 (fun _ => 0)), ((u 20), zO 4 6 (zc21 u v)), ((u 28), zI K 8 (fun _ => 0)), ((u 59), zO 1 18 (zc60 u v)), ((u 60), zO 3 7 (zc61 u v)), ((u 61), zR K 512 (fun _ => none)), ((u 62), zO 2 6 (zc63 u v)), ((u 68), zI K 10 (fun _ => 0)), (qm, zO 10 83 (zc71 u v)), ((v 7), zI K 1290 (fun _ => 0)), ((v 8), zI K 1290 (fun _ => 0)), ((v 12), zI K 1290 (fun _ => 0)), ((v 13), zI K 16 (fun _ => 0)), ((v 25), zI K 60000 (fun _ => 0)), ((v 26), zI K 60000 (fun _ => 0)), ((v 27), zI K 60000 (fun _ => 0)), ((v 28), zI K 60000 (fun _ => 0)), ((v 29), zI K 60000 (fun _ => 0)), ((v 30), zI K 60000 (fun _ => 0)), ((v 31), zI K 60000 (fun _ => 0)), ((v 42), zI K 210000 (fun _ => 0)), ((v 43), zI K 210000 (fun _ => 0)), ((v 49), zI K 10 (fun _ => 0)), (qo, zJ K 1 (fun _ => 0))] := hD.sub [0, 9, 10, 11, 12, 13, 14, 15, 16, 17, 21, 29, 60, 61, 62, 63, 69, 71, 79, 80, 84, 85, 97, 98, 99, 100, 101, 102, 103, 114, 115, 121, 123] (by decide +kernel) rfl
  obtain ⟨t1, ht1, v1⟩ : ∃ j : Nat, j < 8 ∧ xs 1 = nI j := z_nat (n := 8) (by omega) (by omega) (by decide)
  have v2 : xs 2 = 0 := z_lit (by rw [show (0 : Int32).toInt = 0 from by decide]; omega)
  refine lv_aload_n hx hb dL_law_1471 rfl (lv_at hl 3 rfl) ?_
  refine lv_aload_n hx hb dL_law_1472 rfl (lv_at hl 4 rfl) ?_
  refine lv_iload hx hb dL_law_1473 (lv_at hl 0 rfl) ?_
  refine lv_iconst (v := 1) hx hb dL_law_1475 (by decide) ?_
  refine lv_iadd hx hb dL_law_1476 ?_
  refine z_cst (v := 1) (by decide +kernel) ?_
  refine z_sld (v := (nI t1)) (j := 1) hx hb hX hbl hbA hS rfl (Nat.le_of_ble_eq_true rfl) v1 dL_law_1477 ?_
  refine lv_aload_n hx hb dL_law_1478 rfl (lv_at hl 4 rfl) ?_
  refine lv_iload hx hb dL_law_1479 (lv_at hl 0 rfl) ?_
  refine lv_iconst (v := 2) hx hb dL_law_1481 (by decide) ?_
  refine lv_iadd hx hb dL_law_1482 ?_
  refine z_cst (v := 2) (by decide +kernel) ?_
  refine z_sld (v := 0) (j := 2) hx hb hX hbl hbA hS rfl (Nat.le_of_ble_eq_true rfl) v2 dL_law_1483 ?_
  refine lv_aload_n hx hb dL_law_1484 rfl (lv_at hl 4 rfl) ?_
  refine lv_iload hx hb dL_law_1485 (lv_at hl 0 rfl) ?_
  refine lv_iconst (v := 3) hx hb dL_law_1487 (by decide) ?_
  refine lv_iadd hx hb dL_law_1488 ?_
  refine z_cst (v := 3) (by decide +kernel) ?_
  refine z_sld (v := (xs 3)) (j := 3) hx hb hX hbl hbA hS rfl (Nat.le_of_ble_eq_true rfl) rfl dL_law_1489 ?_
  refine lv_aload_n hx hb dL_law_1490 rfl (lv_at hl 4 rfl) ?_
  refine lv_iload hx hb dL_law_1491 (lv_at hl 0 rfl) ?_
  refine lv_iconst (v := 4) hx hb dL_law_1493 (by decide) ?_
  refine lv_iadd hx hb dL_law_1494 ?_
  refine z_cst (v := 4) (by decide +kernel) ?_
  refine z_sld (v := (xs 4)) (j := 4) hx hb hX hbl hbA hS rfl (Nat.le_of_ble_eq_true rfl) rfl dL_law_1495 ?_
  refine lv_aload_n hx hb dL_law_1496 rfl (lv_at hl 4 rfl) ?_
  refine lv_iload hx hb dL_law_1497 (lv_at hl 0 rfl) ?_
  refine lv_iconst (v := 5) hx hb dL_law_1499 (by decide) ?_
  refine lv_iadd hx hb dL_law_1500 ?_
  refine z_cst (v := 5) (by decide +kernel) ?_
  refine z_sld (v := (xs 5)) (j := 5) hx hb hX hbl hbA hS rfl (Nat.le_of_ble_eq_true rfl) rfl dL_law_1501 ?_
  refine lv_aload_n hx hb dL_law_1502 rfl (lv_at hl 4 rfl) ?_
  refine lv_iload hx hb dL_law_1503 (lv_at hl 0 rfl) ?_
  refine lv_bipush (v := 6) hx hb dL_law_1505 (by decide) ?_
  refine lv_iadd hx hb dL_law_1507 ?_
  refine z_cst (v := 6) (by decide +kernel) ?_
  refine z_sld (v := 0) (j := 6) hx hb hX hbl hbA hS rfl (Nat.le_of_ble_eq_true rfl) h0 dL_law_1508 ?_
  refine lv_if_eq (tgt := 1516) hx hb dL_law_1509 (by decide) (fun _ => ?_) (fun c => absurd (by decide) c)
  refine lv_iconst (v := 0) hx hb dL_law_1516 (by decide) ?_
  refine lv_aload_n hx hb dL_law_1517 rfl (lv_at hl 1 rfl) ?_
  refine z_hcalli [(qx, zO 9 9 (zc0 u v)), ((u 8), zO 4 6 (zc9 u v)), ((u 9), zO 7 6 (zc10 u v)), ((u 10), zI K 645 (fun _ => 0)), ((u 11), zI K 645 (fun _ => 0)), ((u 12), zI K 645 (fun _ => 0)), ((u 13), zI K 645 (fun _ => 0)), ((u 14), zI K 1935 (fun _ => 0)), ((u 59), zO 1 18 (zc60 u v)), ((u 60), zO 3 7 (zc61 u v)), ((u 16), zI K 8 (fun _ => 0)), ((u 20), zO 4 6 (zc21 u v)), ((u 28), zI K 8 (fun _ => 0)), ((u 61), zR K 512 (fun _ => none)), ((u 62), zO 2 6 (zc63 u v)), ((u 68), zI K 10 (fun _ => 0)), ((u 15), zI K 8 (fun _ => 0)), (qo, zJ K 1 (fun _ => 0))] [(qm, zO 10 83 (zc71 u v)), ((v 7), zI K 1290 (fun _ => 0)), ((v 8), zI K 1290 (fun _ => 0)), ((v 12), zI K 1290 (fun _ => 0)), ((v 13), zI K 16 (fun _ => 0)), ((v 25), zI K 60000 (fun _ => 0)), ((v 26), zI K 60000 (fun _ => 0)), ((v 27), zI K 60000 (fun _ => 0)), ((v 28), zI K 60000 (fun _ => 0)), ((v 29), zI K 60000 (fun _ => 0)), ((v 30), zI K 60000 (fun _ => 0)), ((v 31), zI K 60000 (fun _ => 0)), ((v 42), zI K 210000 (fun _ => 0)), ((v 43), zI K 210000 (fun _ => 0)), ((v 49), zI K 10 (fun _ => 0))] [0, 1, 2, 3, 4, 5, 6, 7, 12, 13, 9, 10, 11, 14, 15, 16, 8, 32] [17, 18, 19, 20, 21, 22, 23, 24, 25, 26, 27, 28, 29, 30, 31] hP hD hS hA rfl rfl (by decide +kernel) (by decide +kernel) (by decide +kernel) 128 1867719 rfl rfl (fun hPc hDc hF => z_xrunH (As := [.ref qx, .int (nI t1), .int 0, .int (xs 3), .int (xs 4), .int (xs 5), .int 0, .ref qo]) (rest := []) ⟨hx, hb, hml, hown, hg⟩ (cL_run_11 l hl9 K H.size qx qo (u 8) (u 9) (u 10) (u 11) (u 12) (u 13) (u 14) (u 59) (u 60) (u 16) (u 20) (u 28) (u 61) (u 62) (u 68) (u 15) (zc0 u v) (zc9 u v) (zc10 u v) (fun _ => 0) (fun _ => 0) (fun _ => 0) (fun _ => 0) (fun _ => 0) (zc60 u v) (zc61 u v) (fun _ => 0) (zc21 u v) (fun _ => 0) (fun _ => none) (zc63 u v) (fun _ => 0) (fun _ => 0) (fun _ => 0) t1 ht1 (xs 3) (xs 4) (xs 5) (by rw [Int32.lt_iff_toInt_lt, show (0 : Int32).toInt = 0 from by decide]; omega) (by rw [Int32.lt_iff_toInt_lt, show (601 : Int32).toInt = 601 from by decide]; omega) (zc0_3 u v) (zc9_0 u v) (zc10_5 u v) (zc10_0 u v) (zc10_1 u v) (zc10_2 u v) (zc10_3 u v) (zc10_4 u v) (zc0_7 u v) (zc60_0 u v) (zc61_6 u v) (zc61_4 u v) (zc61_0 u v) (zc9_2 u v) rfl rfl rfl rfl rfl rfl rfl rfl (zc61_1 u v) (zc21_2 u v) rfl rfl rfl rfl rfl rfl rfl rfl (zc61_3 u v) (zc61_2 u v) (zc60_1 u v) (zc60_2 u v) (fun c9 => h7 c9.symm) (fun _ => rfl) (zc9_1 u v) (fun _ => rfl)) kS_RL_166 hd_L_run rfl rfl ⟨(Nat.le_of_ble_eq_true rfl), (Nat.le_of_ble_eq_true rfl)⟩ hK hS hZ hPc hDc hF rfl hl.1 rfl (Nat.le_of_ble_eq_true rfl) dL_law_1518 ⟨(Nat.le_of_ble_eq_true rfl), (Nat.le_of_ble_eq_true rfl)⟩) (fun r3 u1 H locs w2 hP hD hS => ?_)
  subst w2
  have hP : va_P K.1 classes [(qm, zO 10 83 (zc71 u v)), ((v 7), zI K 1290 (fun _ => 0)), ((v 8), zI K 1290 (fun _ => 0)), ((v 12), zI K 1290 (fun _ => 0)), ((v 13), zI K 16 (fun _ => 0)), ((v 25), zI K 60000 (fun _ => 0)), ((v 26), zI K 60000 (fun _ => 0)), ((v 27), zI K 60000 (fun _ => 0)), ((v 28), zI K 60000 (fun _ => 0)), ((v 29), zI K 60000 (fun _ => 0)), ((v 30), zI K 60000 (fun _ => 0)), ((v 31), zI K 60000 (fun _ => 0)), ((v 42), zI K 210000 (fun _ => 0)), ((v 43), zI K 210000 (fun _ => 0)), ((v 49), zI K 10 (fun _ => 0)), (qo, zJ K 1 (va_up (fun _ => 0) 0 5))] H := hP
  have hD : va_D A [(qm, zO 10 83 (zc71 u v)), ((v 7), zI K 1290 (fun _ => 0)), ((v 8), zI K 1290 (fun _ => 0)), ((v 12), zI K 1290 (fun _ => 0)), ((v 13), zI K 16 (fun _ => 0)), ((v 25), zI K 60000 (fun _ => 0)), ((v 26), zI K 60000 (fun _ => 0)), ((v 27), zI K 60000 (fun _ => 0)), ((v 28), zI K 60000 (fun _ => 0)), ((v 29), zI K 60000 (fun _ => 0)), ((v 30), zI K 60000 (fun _ => 0)), ((v 31), zI K 60000 (fun _ => 0)), ((v 42), zI K 210000 (fun _ => 0)), ((v 43), zI K 210000 (fun _ => 0)), ((v 49), zI K 10 (fun _ => 0)), (qo, zJ K 1 (va_up (fun _ => 0) 0 5))] := hD
  refine lv_istore (lv' := [(5, .int 0), (4, .int 0), (3, .ref qo), (2, .ref qm), (1, .ref qx), (0, .ref b)]) hx hb dL_law_1521 hl (by decide) rfl (fun ls hl => ?_)
  refine lv_aload_n hx hb dL_law_1523 rfl (lv_at hl 3 rfl) ?_
  refine lv_aload_n hx hb dL_law_1524 rfl (lv_at hl 5 rfl) ?_
  refine lv_iload hx hb dL_law_1525 (lv_at hl 1 rfl) ?_
  refine lv_iconst (v := 1) hx hb dL_law_1527 (by decide) ?_
  refine lv_iadd hx hb dL_law_1528 ?_
  refine z_cst (v := 1) (by decide +kernel) ?_
  refine z_sld (v := (nI t1)) (j := 1) hx hb hX hbl hbA hS rfl (Nat.le_of_ble_eq_true rfl) v1 dL_law_1529 ?_
  refine lv_aload_n hx hb dL_law_1530 rfl (lv_at hl 5 rfl) ?_
  refine lv_iload hx hb dL_law_1531 (lv_at hl 1 rfl) ?_
  refine lv_iconst (v := 2) hx hb dL_law_1533 (by decide) ?_
  refine lv_iadd hx hb dL_law_1534 ?_
  refine z_cst (v := 2) (by decide +kernel) ?_
  refine z_sld (v := 0) (j := 2) hx hb hX hbl hbA hS rfl (Nat.le_of_ble_eq_true rfl) v2 dL_law_1535 ?_
  refine lv_aload_n hx hb dL_law_1536 rfl (lv_at hl 5 rfl) ?_
  refine lv_iload hx hb dL_law_1537 (lv_at hl 1 rfl) ?_
  refine lv_iconst (v := 3) hx hb dL_law_1539 (by decide) ?_
  refine lv_iadd hx hb dL_law_1540 ?_
  refine z_cst (v := 3) (by decide +kernel) ?_
  refine z_sld (v := (xs 3)) (j := 3) hx hb hX hbl hbA hS rfl (Nat.le_of_ble_eq_true rfl) rfl dL_law_1541 ?_
  refine lv_aload_n hx hb dL_law_1542 rfl (lv_at hl 5 rfl) ?_
  refine lv_iload hx hb dL_law_1543 (lv_at hl 1 rfl) ?_
  refine lv_iconst (v := 4) hx hb dL_law_1545 (by decide) ?_
  refine lv_iadd hx hb dL_law_1546 ?_
  refine z_cst (v := 4) (by decide +kernel) ?_
  refine z_sld (v := (xs 4)) (j := 4) hx hb hX hbl hbA hS rfl (Nat.le_of_ble_eq_true rfl) rfl dL_law_1547 ?_
  refine lv_aload_n hx hb dL_law_1548 rfl (lv_at hl 5 rfl) ?_
  refine lv_iload hx hb dL_law_1549 (lv_at hl 1 rfl) ?_
  refine lv_iconst (v := 5) hx hb dL_law_1551 (by decide) ?_
  refine lv_iadd hx hb dL_law_1552 ?_
  refine z_cst (v := 5) (by decide +kernel) ?_
  refine z_sld (v := (xs 5)) (j := 5) hx hb hX hbl hbA hS rfl (Nat.le_of_ble_eq_true rfl) rfl dL_law_1553 ?_
  refine lv_aload_n hx hb dL_law_1554 rfl (lv_at hl 5 rfl) ?_
  refine lv_iload hx hb dL_law_1555 (lv_at hl 1 rfl) ?_
  refine lv_bipush (v := 6) hx hb dL_law_1557 (by decide) ?_
  refine lv_iadd hx hb dL_law_1559 ?_
  refine z_cst (v := 6) (by decide +kernel) ?_
  refine z_sld (v := 0) (j := 6) hx hb hX hbl hbA hS rfl (Nat.le_of_ble_eq_true rfl) h0 dL_law_1560 ?_
  refine lv_if_eq (tgt := 1568) hx hb dL_law_1561 (by decide) (fun _ => ?_) (fun c => absurd (by decide) c)
  refine lv_iconst (v := 0) hx hb dL_law_1568 (by decide) ?_
  refine z_calli [(qm, zO 10 83 (zc71 u v)), ((v 49), zI K 10 (fun _ => 0)), ((v 7), zI K 1290 (fun _ => 0)), ((v 8), zI K 1290 (fun _ => 0)), ((v 12), zI K 1290 (fun _ => 0)), ((v 25), zI K 60000 (fun _ => 0)), ((v 13), zI K 16 (fun _ => 0)), ((v 42), zI K 210000 (fun _ => 0)), ((v 43), zI K 210000 (fun _ => 0)), ((v 26), zI K 60000 (fun _ => 0)), ((v 27), zI K 60000 (fun _ => 0)), ((v 28), zI K 60000 (fun _ => 0)), ((v 29), zI K 60000 (fun _ => 0)), ((v 30), zI K 60000 (fun _ => 0)), ((v 31), zI K 60000 (fun _ => 0))] [(qo, zJ K 1 (va_up (fun _ => 0) 0 5))] [0, 14, 1, 2, 3, 5, 4, 12, 13, 6, 7, 8, 9, 10, 11] [15] hP hD hS hA rfl rfl (by decide +kernel) (by decide +kernel) (by decide +kernel) 128 1867719 rfl rfl (fun hPc hDc hF => z_runV (As := [.int (nI t1), .int 0, .int (xs 3), .int (xs 4), .int (xs 5), .int 0]) (rest := []) ⟨hx, hb, hml, hown, hg⟩ (cX12_run_11 l K H.size qm (v 49) (v 7) (v 8) (v 12) (v 25) (v 13) (v 42) (v 43) (v 26) (v 27) (v 28) (v 29) (v 30) (v 31) (zc71 u v) (fun _ => 0) (fun _ => 0) (fun _ => 0) (fun _ => 0) (fun _ => 0) (fun _ => 0) (fun _ => 0) (fun _ => 0) (fun _ => 0) (fun _ => 0) (fun _ => 0) (fun _ => 0) (fun _ => 0) (fun _ => 0) t1 ht1 (xs 3) (xs 4) (xs 5) (by rw [Int32.lt_iff_toInt_lt, show (0 : Int32).toInt = 0 from by decide]; omega) (by rw [Int32.lt_iff_toInt_lt, show (600 : Int32).toInt = 600 from by decide]; omega) (zc71_80 u v) (zc71_8 u v) (zc71_9 u v) (zc71_13 u v) (zc71_57 u v) (fun c9 => h7 c9.symm) (zc71_33 u v) (fun _ => rfl) (zc71_14 u v) (fun _ => rfl) (zc71_32 u v) (zc71_52 u v) (zc71_40 u v) (zc71_46 u v) (zc71_53 u v) (zc71_34 u v) rfl (zc71_35 u v) (zc71_36 u v) (zc71_37 u v) rfl (zc71_38 u v) (zc71_39 u v) rfl rfl rfl rfl rfl rfl rfl rfl rfl rfl rfl rfl rfl rfl rfl rfl rfl rfl rfl rfl rfl rfl rfl rfl rfl rfl rfl rfl rfl rfl rfl rfl rfl rfl rfl rfl rfl rfl rfl rfl rfl rfl rfl rfl rfl rfl) kV_RL_169 hd_X12_run rfl rfl ⟨(Nat.le_of_ble_eq_true rfl), (Nat.le_of_ble_eq_true rfl)⟩ hK hS hZ hPc hDc hF 0 rfl rfl rfl hl.1 rfl (Nat.le_of_ble_eq_true rfl) dL_law_1569 ⟨(Nat.le_of_ble_eq_true rfl), (Nat.le_of_ble_eq_true rfl)⟩) (fun r6 u4 H locs w5 hP hD hS => ?_)
  subst w5
  have hP : va_P K.1 classes [(qo, zJ K 1 (va_up (fun _ => 0) 0 5)), (qm, zO 10 83 (va_up (va_up (va_up (va_up (va_up (va_up (va_up (va_up (va_up (va_up (va_up (va_up (va_up (va_up (va_up (va_up (va_up (va_up (va_up (va_up (va_up (va_up (va_up (va_up (va_up (va_up (va_up (va_up (va_up (va_up (va_up (va_up (va_up (va_up (va_up (va_up (va_up (va_up (va_up (va_up (va_up (va_up (va_up (va_up (va_up (va_up (va_up (va_up (va_up (va_up (va_up (va_up (zc71 u v) 81 (.int 0)) 56 (.int 0)) 60 (.int (xs 5))) 79 (.int 0)) 55 (.int 0)) 58 (.int 0)) 59 (.int 600)) 72 (.int 0)) 77 (.int 0)) 62 (.int 1280)) 63 (.int (-1))) 64 (.int 0)) 65 (.int 0)) 61 (.int (-1))) 58 (.int 1)) 61 (.int 5)) 54 (.int 0)) 54 (.int 1)) 54 (.int 2)) 54 (.int 3)) 54 (.int 4)) 54 (.int 5)) 54 (.int 6)) 54 (.int 7)) 54 (.int 8)) 54 (.int 9)) 54 (.int 10)) 54 (.int 11)) 54 (.int 12)) 54 (.int 13)) 54 (.int 14)) 54 (.int 15)) 54 (.int 16)) 54 (.int 15)) 54 (.int 14)) 54 (.int 13)) 54 (.int 12)) 54 (.int 11)) 54 (.int 10)) 54 (.int 9)) 54 (.int 8)) 54 (.int 7)) 54 (.int 6)) 54 (.int 5)) 54 (.int 4)) 54 (.int 3)) 54 (.int 2)) 54 (.int 1)) 54 (.int 0)) 32 (.int 16)) 40 (.int 0)) 46 (.int 0)))] H := hP
  have hD : va_D A [(qo, zJ K 1 (va_up (fun _ => 0) 0 5)), (qm, zO 10 83 (va_up (va_up (va_up (va_up (va_up (va_up (va_up (va_up (va_up (va_up (va_up (va_up (va_up (va_up (va_up (va_up (va_up (va_up (va_up (va_up (va_up (va_up (va_up (va_up (va_up (va_up (va_up (va_up (va_up (va_up (va_up (va_up (va_up (va_up (va_up (va_up (va_up (va_up (va_up (va_up (va_up (va_up (va_up (va_up (va_up (va_up (va_up (va_up (va_up (va_up (va_up (va_up (zc71 u v) 81 (.int 0)) 56 (.int 0)) 60 (.int (xs 5))) 79 (.int 0)) 55 (.int 0)) 58 (.int 0)) 59 (.int 600)) 72 (.int 0)) 77 (.int 0)) 62 (.int 1280)) 63 (.int (-1))) 64 (.int 0)) 65 (.int 0)) 61 (.int (-1))) 58 (.int 1)) 61 (.int 5)) 54 (.int 0)) 54 (.int 1)) 54 (.int 2)) 54 (.int 3)) 54 (.int 4)) 54 (.int 5)) 54 (.int 6)) 54 (.int 7)) 54 (.int 8)) 54 (.int 9)) 54 (.int 10)) 54 (.int 11)) 54 (.int 12)) 54 (.int 13)) 54 (.int 14)) 54 (.int 15)) 54 (.int 16)) 54 (.int 15)) 54 (.int 14)) 54 (.int 13)) 54 (.int 12)) 54 (.int 11)) 54 (.int 10)) 54 (.int 9)) 54 (.int 8)) 54 (.int 7)) 54 (.int 6)) 54 (.int 5)) 54 (.int 4)) 54 (.int 3)) 54 (.int 2)) 54 (.int 1)) 54 (.int 0)) 32 (.int 16)) 40 (.int 0)) 46 (.int 0)))] := hD
  refine lv_istore (lv' := [(6, .int 5), (5, .int 0), (4, .int 0), (3, .ref qo), (2, .ref qm), (1, .ref qx), (0, .ref b)]) hx hb dL_law_1572 hl (by decide) rfl (fun ls hl => ?_)
  refine lv_aload_n hx hb dL_law_1574 rfl (lv_at hl 4 rfl) ?_
  refine z_calli [(qm, zO 10 83 (va_up (va_up (va_up (va_up (va_up (va_up (va_up (va_up (va_up (va_up (va_up (va_up (va_up (va_up (va_up (va_up (va_up (va_up (va_up (va_up (va_up (va_up (va_up (va_up (va_up (va_up (va_up (va_up (va_up (va_up (va_up (va_up (va_up (va_up (va_up (va_up (va_up (va_up (va_up (va_up (va_up (va_up (va_up (va_up (va_up (va_up (va_up (va_up (va_up (va_up (va_up (va_up (zc71 u v) 81 (.int 0)) 56 (.int 0)) 60 (.int (xs 5))) 79 (.int 0)) 55 (.int 0)) 58 (.int 0)) 59 (.int 600)) 72 (.int 0)) 77 (.int 0)) 62 (.int 1280)) 63 (.int (-1))) 64 (.int 0)) 65 (.int 0)) 61 (.int (-1))) 58 (.int 1)) 61 (.int 5)) 54 (.int 0)) 54 (.int 1)) 54 (.int 2)) 54 (.int 3)) 54 (.int 4)) 54 (.int 5)) 54 (.int 6)) 54 (.int 7)) 54 (.int 8)) 54 (.int 9)) 54 (.int 10)) 54 (.int 11)) 54 (.int 12)) 54 (.int 13)) 54 (.int 14)) 54 (.int 15)) 54 (.int 16)) 54 (.int 15)) 54 (.int 14)) 54 (.int 13)) 54 (.int 12)) 54 (.int 11)) 54 (.int 10)) 54 (.int 9)) 54 (.int 8)) 54 (.int 7)) 54 (.int 6)) 54 (.int 5)) 54 (.int 4)) 54 (.int 3)) 54 (.int 2)) 54 (.int 1)) 54 (.int 0)) 32 (.int 16)) 40 (.int 0)) 46 (.int 0)))] [(qo, zJ K 1 (va_up (fun _ => 0) 0 5))] [1] [0] hP hD hS hA rfl rfl (by decide +kernel) (by decide +kernel) (by decide +kernel) 128 1867719 rfl rfl (fun hPc hDc hF => z_runV (As := []) (rest := []) ⟨hx, hb, hml, hown, hg⟩ (cX12_thrown_1 l K H.size qm (va_up (va_up (va_up (va_up (va_up (va_up (va_up (va_up (va_up (va_up (va_up (va_up (va_up (va_up (va_up (va_up (va_up (va_up (va_up (va_up (va_up (va_up (va_up (va_up (va_up (va_up (va_up (va_up (va_up (va_up (va_up (va_up (va_up (va_up (va_up (va_up (va_up (va_up (va_up (va_up (va_up (va_up (va_up (va_up (va_up (va_up (va_up (va_up (va_up (va_up (va_up (va_up (zc71 u v) 81 (.int 0)) 56 (.int 0)) 60 (.int (xs 5))) 79 (.int 0)) 55 (.int 0)) 58 (.int 0)) 59 (.int 600)) 72 (.int 0)) 77 (.int 0)) 62 (.int 1280)) 63 (.int (-1))) 64 (.int 0)) 65 (.int 0)) 61 (.int (-1))) 58 (.int 1)) 61 (.int 5)) 54 (.int 0)) 54 (.int 1)) 54 (.int 2)) 54 (.int 3)) 54 (.int 4)) 54 (.int 5)) 54 (.int 6)) 54 (.int 7)) 54 (.int 8)) 54 (.int 9)) 54 (.int 10)) 54 (.int 11)) 54 (.int 12)) 54 (.int 13)) 54 (.int 14)) 54 (.int 15)) 54 (.int 16)) 54 (.int 15)) 54 (.int 14)) 54 (.int 13)) 54 (.int 12)) 54 (.int 11)) 54 (.int 10)) 54 (.int 9)) 54 (.int 8)) 54 (.int 7)) 54 (.int 6)) 54 (.int 5)) 54 (.int 4)) 54 (.int 3)) 54 (.int 2)) 54 (.int 1)) 54 (.int 0)) 32 (.int 16)) 40 (.int 0)) 46 (.int 0)) (zu_ne (by decide) (zu_ne (by decide) (zu_ne (by decide) (zu_ne (by decide) (zu_ne (by decide) (zu_ne (by decide) (zu_ne (by decide) (zu_ne (by decide) (zu_ne (by decide) (zu_ne (by decide) (zu_ne (by decide) (zu_ne (by decide) (zu_ne (by decide) (zu_ne (by decide) (zu_ne (by decide) (zu_ne (by decide) (zu_ne (by decide) (zu_ne (by decide) (zu_ne (by decide) (zu_ne (by decide) (zu_ne (by decide) (zu_ne (by decide) (zu_ne (by decide) (zu_ne (by decide) (zu_ne (by decide) (zu_ne (by decide) (zu_ne (by decide) (zu_ne (by decide) (zu_ne (by decide) (zu_ne (by decide) (zu_ne (by decide) (zu_ne (by decide) (zu_ne (by decide) (zu_ne (by decide) (zu_ne (by decide) (zu_ne (by decide) (zu_ne (by decide) (zu_ne (by decide) (zu_ne (by decide) (zu_ne (by decide) (zu_ne (by decide) (zu_ne (by decide) (zu_ne (by decide) (zu_ne (by decide) (zu_ne (by decide) (zu_ne (by decide) (zu_ne (by decide) (zu_ne (by decide) (zu_ne (by decide) (zu_ne (by decide) (zu_ne (by decide) zu_eq)))))))))))))))))))))))))))))))))))))))))))))))))))) kV_RL_104 hd_X12_thrown rfl rfl ⟨(Nat.le_of_ble_eq_true rfl), (Nat.le_of_ble_eq_true rfl)⟩ hK hS hZ hPc hDc hF 0 rfl rfl rfl hl.1 rfl (Nat.le_of_ble_eq_true rfl) dL_law_1575 ⟨(Nat.le_of_ble_eq_true rfl), (Nat.le_of_ble_eq_true rfl)⟩) (fun r9 u7 H locs w8 hP hD hS => ?_)
  subst w8
  have hP : va_P K.1 classes [(qo, zJ K 1 (va_up (fun _ => 0) 0 5)), (qm, zO 10 83 (va_up (va_up (va_up (va_up (va_up (va_up (va_up (va_up (va_up (va_up (va_up (va_up (va_up (va_up (va_up (va_up (va_up (va_up (va_up (va_up (va_up (va_up (va_up (va_up (va_up (va_up (va_up (va_up (va_up (va_up (va_up (va_up (va_up (va_up (va_up (va_up (va_up (va_up (va_up (va_up (va_up (va_up (va_up (va_up (va_up (va_up (va_up (va_up (va_up (va_up (va_up (va_up (zc71 u v) 81 (.int 0)) 56 (.int 0)) 60 (.int (xs 5))) 79 (.int 0)) 55 (.int 0)) 58 (.int 0)) 59 (.int 600)) 72 (.int 0)) 77 (.int 0)) 62 (.int 1280)) 63 (.int (-1))) 64 (.int 0)) 65 (.int 0)) 61 (.int (-1))) 58 (.int 1)) 61 (.int 5)) 54 (.int 0)) 54 (.int 1)) 54 (.int 2)) 54 (.int 3)) 54 (.int 4)) 54 (.int 5)) 54 (.int 6)) 54 (.int 7)) 54 (.int 8)) 54 (.int 9)) 54 (.int 10)) 54 (.int 11)) 54 (.int 12)) 54 (.int 13)) 54 (.int 14)) 54 (.int 15)) 54 (.int 16)) 54 (.int 15)) 54 (.int 14)) 54 (.int 13)) 54 (.int 12)) 54 (.int 11)) 54 (.int 10)) 54 (.int 9)) 54 (.int 8)) 54 (.int 7)) 54 (.int 6)) 54 (.int 5)) 54 (.int 4)) 54 (.int 3)) 54 (.int 2)) 54 (.int 1)) 54 (.int 0)) 32 (.int 16)) 40 (.int 0)) 46 (.int 0)))] H := hP
  have hD : va_D A [(qo, zJ K 1 (va_up (fun _ => 0) 0 5)), (qm, zO 10 83 (va_up (va_up (va_up (va_up (va_up (va_up (va_up (va_up (va_up (va_up (va_up (va_up (va_up (va_up (va_up (va_up (va_up (va_up (va_up (va_up (va_up (va_up (va_up (va_up (va_up (va_up (va_up (va_up (va_up (va_up (va_up (va_up (va_up (va_up (va_up (va_up (va_up (va_up (va_up (va_up (va_up (va_up (va_up (va_up (va_up (va_up (va_up (va_up (va_up (va_up (va_up (va_up (zc71 u v) 81 (.int 0)) 56 (.int 0)) 60 (.int (xs 5))) 79 (.int 0)) 55 (.int 0)) 58 (.int 0)) 59 (.int 600)) 72 (.int 0)) 77 (.int 0)) 62 (.int 1280)) 63 (.int (-1))) 64 (.int 0)) 65 (.int 0)) 61 (.int (-1))) 58 (.int 1)) 61 (.int 5)) 54 (.int 0)) 54 (.int 1)) 54 (.int 2)) 54 (.int 3)) 54 (.int 4)) 54 (.int 5)) 54 (.int 6)) 54 (.int 7)) 54 (.int 8)) 54 (.int 9)) 54 (.int 10)) 54 (.int 11)) 54 (.int 12)) 54 (.int 13)) 54 (.int 14)) 54 (.int 15)) 54 (.int 16)) 54 (.int 15)) 54 (.int 14)) 54 (.int 13)) 54 (.int 12)) 54 (.int 11)) 54 (.int 10)) 54 (.int 9)) 54 (.int 8)) 54 (.int 7)) 54 (.int 6)) 54 (.int 5)) 54 (.int 4)) 54 (.int 3)) 54 (.int 2)) 54 (.int 1)) 54 (.int 0)) 32 (.int 16)) 40 (.int 0)) 46 (.int 0)))] := hD
  refine lv_iload hx hb dL_law_1578 (lv_at hl 1 rfl) ?_
  refine lv_icmp_eq (tgt := 1585) hx hb dL_law_1580 (by decide) (fun _ => ?_) (fun c => absurd (by decide) c)
  refine lv_iload hx hb dL_law_1585 (lv_at hl 1 rfl) ?_
  refine lv_if_ne (tgt := 1602) hx hb dL_law_1587 (by decide) (fun c => absurd (by decide) c) (fun _ => ?_)
  refine lv_aload_n hx hb dL_law_1590 rfl (lv_at hl 3 rfl) ?_
  refine lv_iconst (v := 0) hx hb dL_law_1591 (by decide) ?_
  refine z_lald (v := 5) (j := 0) hx hb hK hP 0 rfl rfl (Nat.le_of_ble_eq_true rfl) (Nat.le_of_ble_eq_true rfl) zu_eq dL_law_1592 ?_
  refine lv_iload hx hb dL_law_1593 (lv_at hl 0 rfl) ?_
  refine lv_i2l hx hb dL_law_1595 rfl ?_
  refine z_cstl (v := 5) (by decide +kernel) ?_
  refine W.lcmp hx hb dL_law_1596 ?_
  refine z_cst (v := 0) (by decide +kernel) ?_
  refine lv_if_eq (tgt := 1602) hx hb dL_law_1597 (by decide) (fun _ => ?_) (fun c => absurd (by decide) c)
  refine lv_goto (tgt := 2026) hx hb dL_law_1602 (by decide) ?_
  exact law_back ⟨hx, hb, hr, hml, hown, hg, hX, hbl, hlocks, hK, hZ, hl9, hAA, hA, hbA⟩ (Nat.le_of_ble_eq_true rfl) (Nat.le_of_ble_eq_true rfl) hS (lv_sub hl [2, 6] rfl)
set_option maxHeartbeats 4000000 in
set_option maxRecDepth 100000 in
theorem lawS_19_11 {p : Program} {l : Launch} {e : Env} {s : State} {m : MethodId} {below : List Frame} {meth : Method} {c : Code} {b : Nat} {xs : Nat → Int32} {K : zK} {A : Nat → Prop} {H : Heap} {locs : List Loc} {ls : Array Slot} (C : zC p l s m meth c b xs K A) (qx qm qo : Nat) (u v : Nat → Nat) (h0 : xs 6 = 0) (h1 : 0 ≤ (xs 5).toInt) (h2 : (xs 5).toInt < 601) (h3 : 0 ≤ (xs 1).toInt) (h4 : (xs 1).toInt < 8) (h5 : 0 ≤ (xs 2).toInt) (h6 : (xs 2).toInt < 3) (h7 : ¬ xs 5 = 1) (h8 : 1 ≤ (xs 2).toInt) (h9 : (xs 2).toInt < 2) (h10 : xs 5 = 2) (hP : va_P K.1 classes (lwW K qx qm qo u v) H) (hD : va_D A (lwW K qx qm qo u v)) (hS : va_S A s.heap H locs) (hl : lv_has ls 7 [(4, .int 0), (3, .ref qo), (2, .ref qm), (1, .ref qx), (0, .ref b)]) : W p l e room_1 s m #[Value.ref b] below meth c H locs 124 1863516 (lw_Z below #[Value.ref b] s) (F0 m 1471 ls []) := by
  obtain ⟨hx, hb, hr, hml, hown, hg, hX, hbl, hlocks, hK, hZ, hl9, hAA, hA, hbA⟩ := C
  have hP : va_P K.1 classes [(qx, zO 9 9 (zc0 u v)), ((u 8), zO 4 6 (zc9 u v)), ((u 9), zO 7 6 (zc10 u v)), ((u 10), zI K 645 (fun _ => 0)), ((u 11), zI K 645 (fun _ => 0)), ((u 12), zI K 645 (fun _ => 0)), ((u 13), zI K 645 (fun _ => 0)), ((u 14), zI K 1935 (fun _ => 0)), ((u 16), zI K 8 (fun _ => 0)), ((u 20), zO 4 6 (zc21 u v)), ((u 28), zI K 8 (fun _ => 0)), ((u 59), zO 1 18 (zc60 u v)), ((u 60), zO 3 7 (zc61 u v)), ((u 61), zR K 512 (fun _ => none)), ((u 62), zO 2 6 (zc63 u v)), ((u 63), zI K 608 (fun _ => 0)), ((u 64), zI K 608 (fun _ => 0)), ((u 65), zI K 608 (fun _ => 0)), ((u 66), zI K 608 (fun _ => 0)), ((u 67), zI K 608 (fun _ => 0)), ((u 68), zI K 10 (fun _ => 0)), (qm, zO 10 83 (zc71 u v)), ((v 7), zI K 1290 (fun _ => 0)), ((v 8), zI K 1290 (fun _ => 0)), ((v 12), zI K 1290 (fun _ => 0)), ((v 25), zI K 60000 (fun _ => 0)), ((v 26), zI K 60000 (fun _ => 0)), ((v 27), zI K 60000 (fun _ => 0)), ((v 28), zI K 60000 (fun _ => 0)), ((v 29), zI K 60000 (fun _ => 0)), ((v 30), zI K 60000 (fun _ => 0)), ((v 31), zI K 60000 (fun _ => 0)), ((v 42), zI K 210000 (fun _ => 0)), ((v 43), zI K 210000 (fun _ => 0)), ((v 44), zI K 900 (fun _ => 0)), ((v 45), zI K 900 (fun _ => 0)), ((v 46), zI K 900 (fun _ => 0)), ((v 47), zI K 900 (fun _ => 0)), ((v 49), zI K 10 (fun _ => 0)), (qo, zJ K 1 (fun _ => 0))] H := hP.sub [0, 9, 10, 11, 12, 13, 14, 15, 17, 21, 29, 60, 61, 62, 63, 64, 65, 66, 67, 68, 69, 71, 79, 80, 84, 97, 98, 99, 100, 101, 102, 103, 114, 115, 116, 117, 118, 119, 121, 123] rfl
  have hD : va_D A [(qx, zO 9 9 (zc0 u v)), ((u 8), zO 4 6 (zc9 u v)), ((u 9), zO 7 6 (zc10 u v)), ((u 10), zI K 645 (fun _ => 0)), ((u 11), zI K 645 (fun _ => 0)), ((u 12), zI K 645 (fun _ => 0)), ((u 13), zI K 645 (fun _ => 0)), ((u 14), zI K 1935 (fun _ => 0)), ((u 16), zI K 8 (fun _ => 0)), ((u 20), zO 4 6 (zc21 u v)), ((u 28), zI K 8 (fun _ => 0)), ((u 59), zO 1 18 (zc60 u v)), ((u 60), zO 3 7 (zc61 u v)), ((u 61), zR K 512 (fun _ => none)), ((u 62), zO 2 6 (zc63 u v)), ((u 63), zI K 608 (fun _ => 0)), ((u 64), zI K 608 (fun _ => 0)), ((u 65), zI K 608 (fun _ => 0)), ((u 66), zI K 608 (fun _ => 0)), ((u 67), zI K 608 (fun _ => 0)), ((u 68), zI K 10 (fun _ => 0)), (qm, zO 10 83 (zc71 u v)), ((v 7), zI K 1290 (fun _ => 0)), ((v 8), zI K 1290 (fun _ => 0)), ((v 12), zI K 1290 (fun _ => 0)), ((v 25), zI K 60000 (fun _ => 0)), ((v 26), zI K 60000 (fun _ => 0)), ((v 27), zI K 60000 (fun _ => 0)), ((v 28), zI K 60000 (fun _ => 0)), ((v 29), zI K 60000 (fun _ => 0)), ((v 30), zI K 60000 (fun _ => 0)), ((v 31), zI K 60000 (fun _ => 0)), ((v 42), zI K 210000 (fun _ => 0)), ((v 43), zI K 210000 (fun _ => 0)), ((v 44), zI K 900 (fun _ => 0)), ((v 45), zI K 900 (fun _ => 0)), ((v 46), zI K 900 (fun _ => 0)), ((v 47), zI K 900 (fun _ => 0)), ((v 49), zI K 10 (fun _ => 0)), (qo, zJ K 1 (fun _ => 0))] := hD.sub [0, 9, 10, 11, 12, 13, 14, 15, 17, 21, 29, 60, 61, 62, 63, 64, 65, 66, 67, 68, 69, 71, 79, 80, 84, 97, 98, 99, 100, 101, 102, 103, 114, 115, 116, 117, 118, 119, 121, 123] (by decide +kernel) rfl
  obtain ⟨t1, ht1, v1⟩ : ∃ j : Nat, j < 8 ∧ xs 1 = nI j := z_nat (n := 8) (by omega) (by omega) (by decide)
  have v2 : xs 2 = 1 := z_lit (by rw [show (1 : Int32).toInt = 1 from by decide]; omega)
  refine lv_aload_n hx hb dL_law_1471 rfl (lv_at hl 3 rfl) ?_
  refine lv_aload_n hx hb dL_law_1472 rfl (lv_at hl 4 rfl) ?_
  refine lv_iload hx hb dL_law_1473 (lv_at hl 0 rfl) ?_
  refine lv_iconst (v := 1) hx hb dL_law_1475 (by decide) ?_
  refine lv_iadd hx hb dL_law_1476 ?_
  refine z_cst (v := 1) (by decide +kernel) ?_
  refine z_sld (v := (nI t1)) (j := 1) hx hb hX hbl hbA hS rfl (Nat.le_of_ble_eq_true rfl) v1 dL_law_1477 ?_
  refine lv_aload_n hx hb dL_law_1478 rfl (lv_at hl 4 rfl) ?_
  refine lv_iload hx hb dL_law_1479 (lv_at hl 0 rfl) ?_
  refine lv_iconst (v := 2) hx hb dL_law_1481 (by decide) ?_
  refine lv_iadd hx hb dL_law_1482 ?_
  refine z_cst (v := 2) (by decide +kernel) ?_
  refine z_sld (v := 1) (j := 2) hx hb hX hbl hbA hS rfl (Nat.le_of_ble_eq_true rfl) v2 dL_law_1483 ?_
  refine lv_aload_n hx hb dL_law_1484 rfl (lv_at hl 4 rfl) ?_
  refine lv_iload hx hb dL_law_1485 (lv_at hl 0 rfl) ?_
  refine lv_iconst (v := 3) hx hb dL_law_1487 (by decide) ?_
  refine lv_iadd hx hb dL_law_1488 ?_
  refine z_cst (v := 3) (by decide +kernel) ?_
  refine z_sld (v := (xs 3)) (j := 3) hx hb hX hbl hbA hS rfl (Nat.le_of_ble_eq_true rfl) rfl dL_law_1489 ?_
  refine lv_aload_n hx hb dL_law_1490 rfl (lv_at hl 4 rfl) ?_
  refine lv_iload hx hb dL_law_1491 (lv_at hl 0 rfl) ?_
  refine lv_iconst (v := 4) hx hb dL_law_1493 (by decide) ?_
  refine lv_iadd hx hb dL_law_1494 ?_
  refine z_cst (v := 4) (by decide +kernel) ?_
  refine z_sld (v := (xs 4)) (j := 4) hx hb hX hbl hbA hS rfl (Nat.le_of_ble_eq_true rfl) rfl dL_law_1495 ?_
  refine lv_aload_n hx hb dL_law_1496 rfl (lv_at hl 4 rfl) ?_
  refine lv_iload hx hb dL_law_1497 (lv_at hl 0 rfl) ?_
  refine lv_iconst (v := 5) hx hb dL_law_1499 (by decide) ?_
  refine lv_iadd hx hb dL_law_1500 ?_
  refine z_cst (v := 5) (by decide +kernel) ?_
  refine z_sld (v := 2) (j := 5) hx hb hX hbl hbA hS rfl (Nat.le_of_ble_eq_true rfl) h10 dL_law_1501 ?_
  refine lv_aload_n hx hb dL_law_1502 rfl (lv_at hl 4 rfl) ?_
  refine lv_iload hx hb dL_law_1503 (lv_at hl 0 rfl) ?_
  refine lv_bipush (v := 6) hx hb dL_law_1505 (by decide) ?_
  refine lv_iadd hx hb dL_law_1507 ?_
  refine z_cst (v := 6) (by decide +kernel) ?_
  refine z_sld (v := 0) (j := 6) hx hb hX hbl hbA hS rfl (Nat.le_of_ble_eq_true rfl) h0 dL_law_1508 ?_
  refine lv_if_eq (tgt := 1516) hx hb dL_law_1509 (by decide) (fun _ => ?_) (fun c => absurd (by decide) c)
  refine lv_iconst (v := 0) hx hb dL_law_1516 (by decide) ?_
  refine lv_aload_n hx hb dL_law_1517 rfl (lv_at hl 1 rfl) ?_
  refine z_hcalli [(qx, zO 9 9 (zc0 u v)), ((u 8), zO 4 6 (zc9 u v)), ((u 9), zO 7 6 (zc10 u v)), ((u 10), zI K 645 (fun _ => 0)), ((u 11), zI K 645 (fun _ => 0)), ((u 12), zI K 645 (fun _ => 0)), ((u 13), zI K 645 (fun _ => 0)), ((u 14), zI K 1935 (fun _ => 0)), ((u 59), zO 1 18 (zc60 u v)), ((u 60), zO 3 7 (zc61 u v)), ((u 16), zI K 8 (fun _ => 0)), ((u 20), zO 4 6 (zc21 u v)), ((u 28), zI K 8 (fun _ => 0)), ((u 61), zR K 512 (fun _ => none)), ((u 62), zO 2 6 (zc63 u v)), ((u 68), zI K 10 (fun _ => 0)), ((u 63), zI K 608 (fun _ => 0)), ((u 64), zI K 608 (fun _ => 0)), ((u 65), zI K 608 (fun _ => 0)), ((u 66), zI K 608 (fun _ => 0)), ((u 67), zI K 608 (fun _ => 0)), (qo, zJ K 1 (fun _ => 0))] [(qm, zO 10 83 (zc71 u v)), ((v 7), zI K 1290 (fun _ => 0)), ((v 8), zI K 1290 (fun _ => 0)), ((v 12), zI K 1290 (fun _ => 0)), ((v 25), zI K 60000 (fun _ => 0)), ((v 26), zI K 60000 (fun _ => 0)), ((v 27), zI K 60000 (fun _ => 0)), ((v 28), zI K 60000 (fun _ => 0)), ((v 29), zI K 60000 (fun _ => 0)), ((v 30), zI K 60000 (fun _ => 0)), ((v 31), zI K 60000 (fun _ => 0)), ((v 42), zI K 210000 (fun _ => 0)), ((v 43), zI K 210000 (fun _ => 0)), ((v 44), zI K 900 (fun _ => 0)), ((v 45), zI K 900 (fun _ => 0)), ((v 46), zI K 900 (fun _ => 0)), ((v 47), zI K 900 (fun _ => 0)), ((v 49), zI K 10 (fun _ => 0))] [0, 1, 2, 3, 4, 5, 6, 7, 11, 12, 8, 9, 10, 13, 14, 20, 15, 16, 17, 18, 19, 39] [21, 22, 23, 24, 25, 26, 27, 28, 29, 30, 31, 32, 33, 34, 35, 36, 37, 38] hP hD hS hA rfl rfl (by decide +kernel) (by decide +kernel) (by decide +kernel) 128 1867719 rfl rfl (fun hPc hDc hF => z_xrunH (As := [.ref qx, .int (nI t1), .int 1, .int (xs 3), .int (xs 4), .int 2, .int 0, .ref qo]) (rest := []) ⟨hx, hb, hml, hown, hg⟩ (cL_run_12 l hl9 K H.size qx qo (u 8) (u 9) (u 10) (u 11) (u 12) (u 13) (u 14) (u 59) (u 60) (u 16) (u 20) (u 28) (u 61) (u 62) (u 68) (u 63) (u 64) (u 65) (u 66) (u 67) (zc0 u v) (zc9 u v) (zc10 u v) (fun _ => 0) (fun _ => 0) (fun _ => 0) (fun _ => 0) (fun _ => 0) (zc60 u v) (zc61 u v) (fun _ => 0) (zc21 u v) (fun _ => 0) (fun _ => none) (zc63 u v) (fun _ => 0) (fun _ => 0) (fun _ => 0) (fun _ => 0) (fun _ => 0) (fun _ => 0) (fun _ => 0) t1 ht1 (xs 3) (xs 4) (zc0_3 u v) (zc9_0 u v) (zc10_5 u v) (zc10_0 u v) (zc10_1 u v) (zc10_2 u v) (zc10_3 u v) (zc10_4 u v) (zc0_7 u v) (zc60_0 u v) (zc61_6 u v) (zc61_4 u v) (zc61_0 u v) (zc9_2 u v) rfl rfl rfl rfl rfl rfl rfl rfl (zc61_1 u v) (zc21_2 u v) rfl rfl rfl rfl rfl rfl rfl rfl (zc61_3 u v) (zc61_2 u v) (zc60_1 u v) (zc60_2 u v) (zc63_0 u v) (zc63_1 u v) (zc63_2 u v) (zc63_3 u v) (zc63_4 u v)) kS_RL_166 hd_L_run rfl rfl ⟨(Nat.le_of_ble_eq_true rfl), (Nat.le_of_ble_eq_true rfl)⟩ hK hS hZ hPc hDc hF rfl hl.1 rfl (Nat.le_of_ble_eq_true rfl) dL_law_1518 ⟨(Nat.le_of_ble_eq_true rfl), (Nat.le_of_ble_eq_true rfl)⟩) (fun r3 u1 H locs w2 hP hD hS => ?_)
  subst w2
  have hP : va_P K.1 classes [(qm, zO 10 83 (zc71 u v)), ((v 7), zI K 1290 (fun _ => 0)), ((v 8), zI K 1290 (fun _ => 0)), ((v 12), zI K 1290 (fun _ => 0)), ((v 25), zI K 60000 (fun _ => 0)), ((v 26), zI K 60000 (fun _ => 0)), ((v 27), zI K 60000 (fun _ => 0)), ((v 28), zI K 60000 (fun _ => 0)), ((v 29), zI K 60000 (fun _ => 0)), ((v 30), zI K 60000 (fun _ => 0)), ((v 31), zI K 60000 (fun _ => 0)), ((v 42), zI K 210000 (fun _ => 0)), ((v 43), zI K 210000 (fun _ => 0)), ((v 44), zI K 900 (fun _ => 0)), ((v 45), zI K 900 (fun _ => 0)), ((v 46), zI K 900 (fun _ => 0)), ((v 47), zI K 900 (fun _ => 0)), ((v 49), zI K 10 (fun _ => 0)), (qo, zJ K 1 (va_up (fun _ => 0) 0 7))] H := hP
  have hD : va_D A [(qm, zO 10 83 (zc71 u v)), ((v 7), zI K 1290 (fun _ => 0)), ((v 8), zI K 1290 (fun _ => 0)), ((v 12), zI K 1290 (fun _ => 0)), ((v 25), zI K 60000 (fun _ => 0)), ((v 26), zI K 60000 (fun _ => 0)), ((v 27), zI K 60000 (fun _ => 0)), ((v 28), zI K 60000 (fun _ => 0)), ((v 29), zI K 60000 (fun _ => 0)), ((v 30), zI K 60000 (fun _ => 0)), ((v 31), zI K 60000 (fun _ => 0)), ((v 42), zI K 210000 (fun _ => 0)), ((v 43), zI K 210000 (fun _ => 0)), ((v 44), zI K 900 (fun _ => 0)), ((v 45), zI K 900 (fun _ => 0)), ((v 46), zI K 900 (fun _ => 0)), ((v 47), zI K 900 (fun _ => 0)), ((v 49), zI K 10 (fun _ => 0)), (qo, zJ K 1 (va_up (fun _ => 0) 0 7))] := hD
  refine lv_istore (lv' := [(5, .int 0), (4, .int 0), (3, .ref qo), (2, .ref qm), (1, .ref qx), (0, .ref b)]) hx hb dL_law_1521 hl (by decide) rfl (fun ls hl => ?_)
  refine lv_aload_n hx hb dL_law_1523 rfl (lv_at hl 3 rfl) ?_
  refine lv_aload_n hx hb dL_law_1524 rfl (lv_at hl 5 rfl) ?_
  refine lv_iload hx hb dL_law_1525 (lv_at hl 1 rfl) ?_
  refine lv_iconst (v := 1) hx hb dL_law_1527 (by decide) ?_
  refine lv_iadd hx hb dL_law_1528 ?_
  refine z_cst (v := 1) (by decide +kernel) ?_
  refine z_sld (v := (nI t1)) (j := 1) hx hb hX hbl hbA hS rfl (Nat.le_of_ble_eq_true rfl) v1 dL_law_1529 ?_
  refine lv_aload_n hx hb dL_law_1530 rfl (lv_at hl 5 rfl) ?_
  refine lv_iload hx hb dL_law_1531 (lv_at hl 1 rfl) ?_
  refine lv_iconst (v := 2) hx hb dL_law_1533 (by decide) ?_
  refine lv_iadd hx hb dL_law_1534 ?_
  refine z_cst (v := 2) (by decide +kernel) ?_
  refine z_sld (v := 1) (j := 2) hx hb hX hbl hbA hS rfl (Nat.le_of_ble_eq_true rfl) v2 dL_law_1535 ?_
  refine lv_aload_n hx hb dL_law_1536 rfl (lv_at hl 5 rfl) ?_
  refine lv_iload hx hb dL_law_1537 (lv_at hl 1 rfl) ?_
  refine lv_iconst (v := 3) hx hb dL_law_1539 (by decide) ?_
  refine lv_iadd hx hb dL_law_1540 ?_
  refine z_cst (v := 3) (by decide +kernel) ?_
  refine z_sld (v := (xs 3)) (j := 3) hx hb hX hbl hbA hS rfl (Nat.le_of_ble_eq_true rfl) rfl dL_law_1541 ?_
  refine lv_aload_n hx hb dL_law_1542 rfl (lv_at hl 5 rfl) ?_
  refine lv_iload hx hb dL_law_1543 (lv_at hl 1 rfl) ?_
  refine lv_iconst (v := 4) hx hb dL_law_1545 (by decide) ?_
  refine lv_iadd hx hb dL_law_1546 ?_
  refine z_cst (v := 4) (by decide +kernel) ?_
  refine z_sld (v := (xs 4)) (j := 4) hx hb hX hbl hbA hS rfl (Nat.le_of_ble_eq_true rfl) rfl dL_law_1547 ?_
  refine lv_aload_n hx hb dL_law_1548 rfl (lv_at hl 5 rfl) ?_
  refine lv_iload hx hb dL_law_1549 (lv_at hl 1 rfl) ?_
  refine lv_iconst (v := 5) hx hb dL_law_1551 (by decide) ?_
  refine lv_iadd hx hb dL_law_1552 ?_
  refine z_cst (v := 5) (by decide +kernel) ?_
  refine z_sld (v := 2) (j := 5) hx hb hX hbl hbA hS rfl (Nat.le_of_ble_eq_true rfl) h10 dL_law_1553 ?_
  refine lv_aload_n hx hb dL_law_1554 rfl (lv_at hl 5 rfl) ?_
  refine lv_iload hx hb dL_law_1555 (lv_at hl 1 rfl) ?_
  refine lv_bipush (v := 6) hx hb dL_law_1557 (by decide) ?_
  refine lv_iadd hx hb dL_law_1559 ?_
  refine z_cst (v := 6) (by decide +kernel) ?_
  refine z_sld (v := 0) (j := 6) hx hb hX hbl hbA hS rfl (Nat.le_of_ble_eq_true rfl) h0 dL_law_1560 ?_
  refine lv_if_eq (tgt := 1568) hx hb dL_law_1561 (by decide) (fun _ => ?_) (fun c => absurd (by decide) c)
  refine lv_iconst (v := 0) hx hb dL_law_1568 (by decide) ?_
  refine z_calli [(qm, zO 10 83 (zc71 u v)), ((v 49), zI K 10 (fun _ => 0)), ((v 7), zI K 1290 (fun _ => 0)), ((v 8), zI K 1290 (fun _ => 0)), ((v 12), zI K 1290 (fun _ => 0)), ((v 44), zI K 900 (fun _ => 0)), ((v 45), zI K 900 (fun _ => 0)), ((v 46), zI K 900 (fun _ => 0)), ((v 47), zI K 900 (fun _ => 0)), ((v 42), zI K 210000 (fun _ => 0)), ((v 43), zI K 210000 (fun _ => 0)), ((v 25), zI K 60000 (fun _ => 0)), ((v 26), zI K 60000 (fun _ => 0)), ((v 27), zI K 60000 (fun _ => 0)), ((v 28), zI K 60000 (fun _ => 0)), ((v 29), zI K 60000 (fun _ => 0)), ((v 30), zI K 60000 (fun _ => 0)), ((v 31), zI K 60000 (fun _ => 0))] [(qo, zJ K 1 (va_up (fun _ => 0) 0 7))] [0, 17, 1, 2, 3, 13, 14, 15, 16, 11, 12, 4, 5, 6, 7, 8, 9, 10] [18] hP hD hS hA rfl rfl (by decide +kernel) (by decide +kernel) (by decide +kernel) 128 1867719 rfl rfl (fun hPc hDc hF => z_runV (As := [.int (nI t1), .int 1, .int (xs 3), .int (xs 4), .int 2, .int 0]) (rest := []) ⟨hx, hb, hml, hown, hg⟩ (cX12_run_12 l K H.size qm (v 49) (v 7) (v 8) (v 12) (v 44) (v 45) (v 46) (v 47) (v 42) (v 43) (v 25) (v 26) (v 27) (v 28) (v 29) (v 30) (v 31) (zc71 u v) (fun _ => 0) (fun _ => 0) (fun _ => 0) (fun _ => 0) (fun _ => 0) (fun _ => 0) (fun _ => 0) (fun _ => 0) (fun _ => 0) (fun _ => 0) (fun _ => 0) (fun _ => 0) (fun _ => 0) (fun _ => 0) (fun _ => 0) (fun _ => 0) (fun _ => 0) t1 ht1 (xs 3) (xs 4) (zc71_80 u v) (zc71_8 u v) (zc71_9 u v) (zc71_13 u v) (zc71_57 u v) (zc71_73 u v) (zc71_74 u v) (zc71_75 u v) (zc71_76 u v) (zc71_32 u v) (zc71_52 u v) (zc71_40 u v) (zc71_46 u v) (zc71_53 u v) (zc71_33 u v) rfl rfl rfl rfl rfl rfl rfl rfl rfl rfl rfl rfl rfl rfl rfl rfl (zc71_34 u v) rfl (zc71_35 u v) (zc71_36 u v) (zc71_37 u v) rfl (zc71_38 u v) (zc71_39 u v) rfl rfl rfl rfl rfl rfl rfl rfl rfl rfl rfl rfl rfl rfl rfl rfl rfl rfl rfl rfl rfl rfl rfl rfl rfl rfl rfl rfl rfl rfl rfl rfl rfl rfl rfl rfl rfl rfl rfl rfl rfl rfl rfl rfl rfl rfl) kV_RL_169 hd_X12_run rfl rfl ⟨(Nat.le_of_ble_eq_true rfl), (Nat.le_of_ble_eq_true rfl)⟩ hK hS hZ hPc hDc hF 0 rfl rfl rfl hl.1 rfl (Nat.le_of_ble_eq_true rfl) dL_law_1569 ⟨(Nat.le_of_ble_eq_true rfl), (Nat.le_of_ble_eq_true rfl)⟩) (fun r6 u4 H locs w5 hP hD hS => ?_)
  subst w5
  have hP : va_P K.1 classes [(qo, zJ K 1 (va_up (fun _ => 0) 0 7)), (qm, zO 10 83 (va_up (va_up (va_up (va_up (va_up (va_up (va_up (va_up (va_up (va_up (va_up (va_up (va_up (va_up (va_up (va_up (va_up (va_up (va_up (va_up (va_up (va_up (va_up (va_up (va_up (va_up (va_up (va_up (va_up (va_up (va_up (va_up (va_up (va_up (va_up (va_up (va_up (va_up (va_up (va_up (va_up (va_up (va_up (va_up (va_up (va_up (va_up (va_up (va_up (va_up (va_up (va_up (va_up (va_up (va_up (va_up (va_up (va_up (zc71 u v) 81 (.int 0)) 56 (.int 0)) 60 (.int 2)) 79 (.int 0)) 55 (.int 0)) 58 (.int 0)) 59 (.int 600)) 72 (.int 0)) 77 (.int 0)) 62 (.int 1280)) 63 (.int (-1))) 64 (.int 0)) 65 (.int 0)) 61 (.int (-1))) 58 (.int 1)) 72 (.int 1)) 62 (.int 1281)) 63 (.int (-1))) 64 (.int 0)) 65 (.int 0)) 61 (.int 7)) 72 (.int 0)) 54 (.int 0)) 54 (.int 1)) 54 (.int 2)) 54 (.int 3)) 54 (.int 4)) 54 (.int 5)) 54 (.int 6)) 54 (.int 7)) 54 (.int 8)) 54 (.int 9)) 54 (.int 10)) 54 (.int 11)) 54 (.int 12)) 54 (.int 13)) 54 (.int 14)) 54 (.int 15)) 54 (.int 16)) 54 (.int 15)) 54 (.int 14)) 54 (.int 13)) 54 (.int 12)) 54 (.int 11)) 54 (.int 10)) 54 (.int 9)) 54 (.int 8)) 54 (.int 7)) 54 (.int 6)) 54 (.int 5)) 54 (.int 4)) 54 (.int 3)) 54 (.int 2)) 54 (.int 1)) 54 (.int 0)) 32 (.int 16)) 40 (.int 0)) 46 (.int 0)))] H := hP
  have hD : va_D A [(qo, zJ K 1 (va_up (fun _ => 0) 0 7)), (qm, zO 10 83 (va_up (va_up (va_up (va_up (va_up (va_up (va_up (va_up (va_up (va_up (va_up (va_up (va_up (va_up (va_up (va_up (va_up (va_up (va_up (va_up (va_up (va_up (va_up (va_up (va_up (va_up (va_up (va_up (va_up (va_up (va_up (va_up (va_up (va_up (va_up (va_up (va_up (va_up (va_up (va_up (va_up (va_up (va_up (va_up (va_up (va_up (va_up (va_up (va_up (va_up (va_up (va_up (va_up (va_up (va_up (va_up (va_up (va_up (zc71 u v) 81 (.int 0)) 56 (.int 0)) 60 (.int 2)) 79 (.int 0)) 55 (.int 0)) 58 (.int 0)) 59 (.int 600)) 72 (.int 0)) 77 (.int 0)) 62 (.int 1280)) 63 (.int (-1))) 64 (.int 0)) 65 (.int 0)) 61 (.int (-1))) 58 (.int 1)) 72 (.int 1)) 62 (.int 1281)) 63 (.int (-1))) 64 (.int 0)) 65 (.int 0)) 61 (.int 7)) 72 (.int 0)) 54 (.int 0)) 54 (.int 1)) 54 (.int 2)) 54 (.int 3)) 54 (.int 4)) 54 (.int 5)) 54 (.int 6)) 54 (.int 7)) 54 (.int 8)) 54 (.int 9)) 54 (.int 10)) 54 (.int 11)) 54 (.int 12)) 54 (.int 13)) 54 (.int 14)) 54 (.int 15)) 54 (.int 16)) 54 (.int 15)) 54 (.int 14)) 54 (.int 13)) 54 (.int 12)) 54 (.int 11)) 54 (.int 10)) 54 (.int 9)) 54 (.int 8)) 54 (.int 7)) 54 (.int 6)) 54 (.int 5)) 54 (.int 4)) 54 (.int 3)) 54 (.int 2)) 54 (.int 1)) 54 (.int 0)) 32 (.int 16)) 40 (.int 0)) 46 (.int 0)))] := hD
  refine lv_istore (lv' := [(6, .int 7), (5, .int 0), (4, .int 0), (3, .ref qo), (2, .ref qm), (1, .ref qx), (0, .ref b)]) hx hb dL_law_1572 hl (by decide) rfl (fun ls hl => ?_)
  refine lv_aload_n hx hb dL_law_1574 rfl (lv_at hl 4 rfl) ?_
  refine z_calli [(qm, zO 10 83 (va_up (va_up (va_up (va_up (va_up (va_up (va_up (va_up (va_up (va_up (va_up (va_up (va_up (va_up (va_up (va_up (va_up (va_up (va_up (va_up (va_up (va_up (va_up (va_up (va_up (va_up (va_up (va_up (va_up (va_up (va_up (va_up (va_up (va_up (va_up (va_up (va_up (va_up (va_up (va_up (va_up (va_up (va_up (va_up (va_up (va_up (va_up (va_up (va_up (va_up (va_up (va_up (va_up (va_up (va_up (va_up (va_up (va_up (zc71 u v) 81 (.int 0)) 56 (.int 0)) 60 (.int 2)) 79 (.int 0)) 55 (.int 0)) 58 (.int 0)) 59 (.int 600)) 72 (.int 0)) 77 (.int 0)) 62 (.int 1280)) 63 (.int (-1))) 64 (.int 0)) 65 (.int 0)) 61 (.int (-1))) 58 (.int 1)) 72 (.int 1)) 62 (.int 1281)) 63 (.int (-1))) 64 (.int 0)) 65 (.int 0)) 61 (.int 7)) 72 (.int 0)) 54 (.int 0)) 54 (.int 1)) 54 (.int 2)) 54 (.int 3)) 54 (.int 4)) 54 (.int 5)) 54 (.int 6)) 54 (.int 7)) 54 (.int 8)) 54 (.int 9)) 54 (.int 10)) 54 (.int 11)) 54 (.int 12)) 54 (.int 13)) 54 (.int 14)) 54 (.int 15)) 54 (.int 16)) 54 (.int 15)) 54 (.int 14)) 54 (.int 13)) 54 (.int 12)) 54 (.int 11)) 54 (.int 10)) 54 (.int 9)) 54 (.int 8)) 54 (.int 7)) 54 (.int 6)) 54 (.int 5)) 54 (.int 4)) 54 (.int 3)) 54 (.int 2)) 54 (.int 1)) 54 (.int 0)) 32 (.int 16)) 40 (.int 0)) 46 (.int 0)))] [(qo, zJ K 1 (va_up (fun _ => 0) 0 7))] [1] [0] hP hD hS hA rfl rfl (by decide +kernel) (by decide +kernel) (by decide +kernel) 128 1867719 rfl rfl (fun hPc hDc hF => z_runV (As := []) (rest := []) ⟨hx, hb, hml, hown, hg⟩ (cX12_thrown_1 l K H.size qm (va_up (va_up (va_up (va_up (va_up (va_up (va_up (va_up (va_up (va_up (va_up (va_up (va_up (va_up (va_up (va_up (va_up (va_up (va_up (va_up (va_up (va_up (va_up (va_up (va_up (va_up (va_up (va_up (va_up (va_up (va_up (va_up (va_up (va_up (va_up (va_up (va_up (va_up (va_up (va_up (va_up (va_up (va_up (va_up (va_up (va_up (va_up (va_up (va_up (va_up (va_up (va_up (va_up (va_up (va_up (va_up (va_up (va_up (zc71 u v) 81 (.int 0)) 56 (.int 0)) 60 (.int 2)) 79 (.int 0)) 55 (.int 0)) 58 (.int 0)) 59 (.int 600)) 72 (.int 0)) 77 (.int 0)) 62 (.int 1280)) 63 (.int (-1))) 64 (.int 0)) 65 (.int 0)) 61 (.int (-1))) 58 (.int 1)) 72 (.int 1)) 62 (.int 1281)) 63 (.int (-1))) 64 (.int 0)) 65 (.int 0)) 61 (.int 7)) 72 (.int 0)) 54 (.int 0)) 54 (.int 1)) 54 (.int 2)) 54 (.int 3)) 54 (.int 4)) 54 (.int 5)) 54 (.int 6)) 54 (.int 7)) 54 (.int 8)) 54 (.int 9)) 54 (.int 10)) 54 (.int 11)) 54 (.int 12)) 54 (.int 13)) 54 (.int 14)) 54 (.int 15)) 54 (.int 16)) 54 (.int 15)) 54 (.int 14)) 54 (.int 13)) 54 (.int 12)) 54 (.int 11)) 54 (.int 10)) 54 (.int 9)) 54 (.int 8)) 54 (.int 7)) 54 (.int 6)) 54 (.int 5)) 54 (.int 4)) 54 (.int 3)) 54 (.int 2)) 54 (.int 1)) 54 (.int 0)) 32 (.int 16)) 40 (.int 0)) 46 (.int 0)) (zu_ne (by decide) (zu_ne (by decide) (zu_ne (by decide) (zu_ne (by decide) (zu_ne (by decide) (zu_ne (by decide) (zu_ne (by decide) (zu_ne (by decide) (zu_ne (by decide) (zu_ne (by decide) (zu_ne (by decide) (zu_ne (by decide) (zu_ne (by decide) (zu_ne (by decide) (zu_ne (by decide) (zu_ne (by decide) (zu_ne (by decide) (zu_ne (by decide) (zu_ne (by decide) (zu_ne (by decide) (zu_ne (by decide) (zu_ne (by decide) (zu_ne (by decide) (zu_ne (by decide) (zu_ne (by decide) (zu_ne (by decide) (zu_ne (by decide) (zu_ne (by decide) (zu_ne (by decide) (zu_ne (by decide) (zu_ne (by decide) (zu_ne (by decide) (zu_ne (by decide) (zu_ne (by decide) (zu_ne (by decide) (zu_ne (by decide) (zu_ne (by decide) (zu_ne (by decide) (zu_ne (by decide) (zu_ne (by decide) (zu_ne (by decide) (zu_ne (by decide) (zu_ne (by decide) (zu_ne (by decide) (zu_ne (by decide) (zu_ne (by decide) (zu_ne (by decide) (zu_ne (by decide) (zu_ne (by decide) (zu_ne (by decide) (zu_ne (by decide) (zu_ne (by decide) (zu_ne (by decide) (zu_ne (by decide) (zu_ne (by decide) (zu_ne (by decide) (zu_ne (by decide) zu_eq)))))))))))))))))))))))))))))))))))))))))))))))))))))))))) kV_RL_104 hd_X12_thrown rfl rfl ⟨(Nat.le_of_ble_eq_true rfl), (Nat.le_of_ble_eq_true rfl)⟩ hK hS hZ hPc hDc hF 0 rfl rfl rfl hl.1 rfl (Nat.le_of_ble_eq_true rfl) dL_law_1575 ⟨(Nat.le_of_ble_eq_true rfl), (Nat.le_of_ble_eq_true rfl)⟩) (fun r9 u7 H locs w8 hP hD hS => ?_)
  subst w8
  have hP : va_P K.1 classes [(qo, zJ K 1 (va_up (fun _ => 0) 0 7)), (qm, zO 10 83 (va_up (va_up (va_up (va_up (va_up (va_up (va_up (va_up (va_up (va_up (va_up (va_up (va_up (va_up (va_up (va_up (va_up (va_up (va_up (va_up (va_up (va_up (va_up (va_up (va_up (va_up (va_up (va_up (va_up (va_up (va_up (va_up (va_up (va_up (va_up (va_up (va_up (va_up (va_up (va_up (va_up (va_up (va_up (va_up (va_up (va_up (va_up (va_up (va_up (va_up (va_up (va_up (va_up (va_up (va_up (va_up (va_up (va_up (zc71 u v) 81 (.int 0)) 56 (.int 0)) 60 (.int 2)) 79 (.int 0)) 55 (.int 0)) 58 (.int 0)) 59 (.int 600)) 72 (.int 0)) 77 (.int 0)) 62 (.int 1280)) 63 (.int (-1))) 64 (.int 0)) 65 (.int 0)) 61 (.int (-1))) 58 (.int 1)) 72 (.int 1)) 62 (.int 1281)) 63 (.int (-1))) 64 (.int 0)) 65 (.int 0)) 61 (.int 7)) 72 (.int 0)) 54 (.int 0)) 54 (.int 1)) 54 (.int 2)) 54 (.int 3)) 54 (.int 4)) 54 (.int 5)) 54 (.int 6)) 54 (.int 7)) 54 (.int 8)) 54 (.int 9)) 54 (.int 10)) 54 (.int 11)) 54 (.int 12)) 54 (.int 13)) 54 (.int 14)) 54 (.int 15)) 54 (.int 16)) 54 (.int 15)) 54 (.int 14)) 54 (.int 13)) 54 (.int 12)) 54 (.int 11)) 54 (.int 10)) 54 (.int 9)) 54 (.int 8)) 54 (.int 7)) 54 (.int 6)) 54 (.int 5)) 54 (.int 4)) 54 (.int 3)) 54 (.int 2)) 54 (.int 1)) 54 (.int 0)) 32 (.int 16)) 40 (.int 0)) 46 (.int 0)))] H := hP
  have hD : va_D A [(qo, zJ K 1 (va_up (fun _ => 0) 0 7)), (qm, zO 10 83 (va_up (va_up (va_up (va_up (va_up (va_up (va_up (va_up (va_up (va_up (va_up (va_up (va_up (va_up (va_up (va_up (va_up (va_up (va_up (va_up (va_up (va_up (va_up (va_up (va_up (va_up (va_up (va_up (va_up (va_up (va_up (va_up (va_up (va_up (va_up (va_up (va_up (va_up (va_up (va_up (va_up (va_up (va_up (va_up (va_up (va_up (va_up (va_up (va_up (va_up (va_up (va_up (va_up (va_up (va_up (va_up (va_up (va_up (zc71 u v) 81 (.int 0)) 56 (.int 0)) 60 (.int 2)) 79 (.int 0)) 55 (.int 0)) 58 (.int 0)) 59 (.int 600)) 72 (.int 0)) 77 (.int 0)) 62 (.int 1280)) 63 (.int (-1))) 64 (.int 0)) 65 (.int 0)) 61 (.int (-1))) 58 (.int 1)) 72 (.int 1)) 62 (.int 1281)) 63 (.int (-1))) 64 (.int 0)) 65 (.int 0)) 61 (.int 7)) 72 (.int 0)) 54 (.int 0)) 54 (.int 1)) 54 (.int 2)) 54 (.int 3)) 54 (.int 4)) 54 (.int 5)) 54 (.int 6)) 54 (.int 7)) 54 (.int 8)) 54 (.int 9)) 54 (.int 10)) 54 (.int 11)) 54 (.int 12)) 54 (.int 13)) 54 (.int 14)) 54 (.int 15)) 54 (.int 16)) 54 (.int 15)) 54 (.int 14)) 54 (.int 13)) 54 (.int 12)) 54 (.int 11)) 54 (.int 10)) 54 (.int 9)) 54 (.int 8)) 54 (.int 7)) 54 (.int 6)) 54 (.int 5)) 54 (.int 4)) 54 (.int 3)) 54 (.int 2)) 54 (.int 1)) 54 (.int 0)) 32 (.int 16)) 40 (.int 0)) 46 (.int 0)))] := hD
  refine lv_iload hx hb dL_law_1578 (lv_at hl 1 rfl) ?_
  refine lv_icmp_eq (tgt := 1585) hx hb dL_law_1580 (by decide) (fun _ => ?_) (fun c => absurd (by decide) c)
  refine lv_iload hx hb dL_law_1585 (lv_at hl 1 rfl) ?_
  refine lv_if_ne (tgt := 1602) hx hb dL_law_1587 (by decide) (fun c => absurd (by decide) c) (fun _ => ?_)
  refine lv_aload_n hx hb dL_law_1590 rfl (lv_at hl 3 rfl) ?_
  refine lv_iconst (v := 0) hx hb dL_law_1591 (by decide) ?_
  refine z_lald (v := 7) (j := 0) hx hb hK hP 0 rfl rfl (Nat.le_of_ble_eq_true rfl) (Nat.le_of_ble_eq_true rfl) zu_eq dL_law_1592 ?_
  refine lv_iload hx hb dL_law_1593 (lv_at hl 0 rfl) ?_
  refine lv_i2l hx hb dL_law_1595 rfl ?_
  refine z_cstl (v := 7) (by decide +kernel) ?_
  refine W.lcmp hx hb dL_law_1596 ?_
  refine z_cst (v := 0) (by decide +kernel) ?_
  refine lv_if_eq (tgt := 1602) hx hb dL_law_1597 (by decide) (fun _ => ?_) (fun c => absurd (by decide) c)
  refine lv_goto (tgt := 2026) hx hb dL_law_1602 (by decide) ?_
  exact law_back ⟨hx, hb, hr, hml, hown, hg, hX, hbl, hlocks, hK, hZ, hl9, hAA, hA, hbA⟩ (Nat.le_of_ble_eq_true rfl) (Nat.le_of_ble_eq_true rfl) hS (lv_sub hl [2, 6] rfl)
set_option maxHeartbeats 4000000 in
set_option maxRecDepth 100000 in
theorem lawS_19_12 {p : Program} {l : Launch} {e : Env} {s : State} {m : MethodId} {below : List Frame} {meth : Method} {c : Code} {b : Nat} {xs : Nat → Int32} {K : zK} {A : Nat → Prop} {H : Heap} {locs : List Loc} {ls : Array Slot} (C : zC p l s m meth c b xs K A) (qx qm qo : Nat) (u v : Nat → Nat) (h0 : xs 6 = 0) (h1 : 0 ≤ (xs 5).toInt) (h2 : (xs 5).toInt < 601) (h3 : 0 ≤ (xs 1).toInt) (h4 : (xs 1).toInt < 8) (h5 : 0 ≤ (xs 2).toInt) (h6 : (xs 2).toInt < 3) (h7 : ¬ xs 5 = 1) (h8 : 1 ≤ (xs 2).toInt) (h9 : (xs 2).toInt < 2) (h10 : ¬ xs 5 = 2) (hP : va_P K.1 classes (lwW K qx qm qo u v) H) (hD : va_D A (lwW K qx qm qo u v)) (hS : va_S A s.heap H locs) (hl : lv_has ls 7 [(4, .int 0), (3, .ref qo), (2, .ref qm), (1, .ref qx), (0, .ref b)]) : W p l e room_1 s m #[Value.ref b] below meth c H locs 124 1863516 (lw_Z below #[Value.ref b] s) (F0 m 1471 ls []) := by
  obtain ⟨hx, hb, hr, hml, hown, hg, hX, hbl, hlocks, hK, hZ, hl9, hAA, hA, hbA⟩ := C
  have hP : va_P K.1 classes [(qx, zO 9 9 (zc0 u v)), ((u 8), zO 4 6 (zc9 u v)), ((u 9), zO 7 6 (zc10 u v)), ((u 10), zI K 645 (fun _ => 0)), ((u 11), zI K 645 (fun _ => 0)), ((u 12), zI K 645 (fun _ => 0)), ((u 13), zI K 645 (fun _ => 0)), ((u 14), zI K 1935 (fun _ => 0)), ((u 15), zI K 8 (fun _ => 0)), ((u 16), zI K 8 (fun _ => 0)), ((u 20), zO 4 6 (zc21 u v)), ((u 28), zI K 8 (fun _ => 0)), ((u 59), zO 1 18 (zc60 u v)), ((u 60), zO 3 7 (zc61 u v)), ((u 61), zR K 512 (fun _ => none)), ((u 62), zO 2 6 (zc63 u v)), ((u 63), zI K 608 (fun _ => 0)), ((u 64), zI K 608 (fun _ => 0)), ((u 65), zI K 608 (fun _ => 0)), ((u 66), zI K 608 (fun _ => 0)), ((u 67), zI K 608 (fun _ => 0)), ((u 68), zI K 10 (fun _ => 0)), (qm, zO 10 83 (zc71 u v)), ((v 7), zI K 1290 (fun _ => 0)), ((v 8), zI K 1290 (fun _ => 0)), ((v 12), zI K 1290 (fun _ => 0)), ((v 13), zI K 16 (fun _ => 0)), ((v 25), zI K 60000 (fun _ => 0)), ((v 26), zI K 60000 (fun _ => 0)), ((v 27), zI K 60000 (fun _ => 0)), ((v 28), zI K 60000 (fun _ => 0)), ((v 29), zI K 60000 (fun _ => 0)), ((v 30), zI K 60000 (fun _ => 0)), ((v 31), zI K 60000 (fun _ => 0)), ((v 42), zI K 210000 (fun _ => 0)), ((v 43), zI K 210000 (fun _ => 0)), ((v 44), zI K 900 (fun _ => 0)), ((v 45), zI K 900 (fun _ => 0)), ((v 46), zI K 900 (fun _ => 0)), ((v 47), zI K 900 (fun _ => 0)), ((v 49), zI K 10 (fun _ => 0)), (qo, zJ K 1 (fun _ => 0))] H := hP.sub [0, 9, 10, 11, 12, 13, 14, 15, 16, 17, 21, 29, 60, 61, 62, 63, 64, 65, 66, 67, 68, 69, 71, 79, 80, 84, 85, 97, 98, 99, 100, 101, 102, 103, 114, 115, 116, 117, 118, 119, 121, 123] rfl
  have hD : va_D A [(qx, zO 9 9 (zc0 u v)), ((u 8), zO 4 6 (zc9 u v)), ((u 9), zO 7 6 (zc10 u v)), ((u 10), zI K 645 (fun _ => 0)), ((u 11), zI K 645 (fun _ => 0)), ((u 12), zI K 645 (fun _ => 0)), ((u 13), zI K 645 (fun _ => 0)), ((u 14), zI K 1935 (fun _ => 0)), ((u 15), zI K 8 (fun _ => 0)), ((u 16), zI K 8 (fun _ => 0)), ((u 20), zO 4 6 (zc21 u v)), ((u 28), zI K 8 (fun _ => 0)), ((u 59), zO 1 18 (zc60 u v)), ((u 60), zO 3 7 (zc61 u v)), ((u 61), zR K 512 (fun _ => none)), ((u 62), zO 2 6 (zc63 u v)), ((u 63), zI K 608 (fun _ => 0)), ((u 64), zI K 608 (fun _ => 0)), ((u 65), zI K 608 (fun _ => 0)), ((u 66), zI K 608 (fun _ => 0)), ((u 67), zI K 608 (fun _ => 0)), ((u 68), zI K 10 (fun _ => 0)), (qm, zO 10 83 (zc71 u v)), ((v 7), zI K 1290 (fun _ => 0)), ((v 8), zI K 1290 (fun _ => 0)), ((v 12), zI K 1290 (fun _ => 0)), ((v 13), zI K 16 (fun _ => 0)), ((v 25), zI K 60000 (fun _ => 0)), ((v 26), zI K 60000 (fun _ => 0)), ((v 27), zI K 60000 (fun _ => 0)), ((v 28), zI K 60000 (fun _ => 0)), ((v 29), zI K 60000 (fun _ => 0)), ((v 30), zI K 60000 (fun _ => 0)), ((v 31), zI K 60000 (fun _ => 0)), ((v 42), zI K 210000 (fun _ => 0)), ((v 43), zI K 210000 (fun _ => 0)), ((v 44), zI K 900 (fun _ => 0)), ((v 45), zI K 900 (fun _ => 0)), ((v 46), zI K 900 (fun _ => 0)), ((v 47), zI K 900 (fun _ => 0)), ((v 49), zI K 10 (fun _ => 0)), (qo, zJ K 1 (fun _ => 0))] := hD.sub [0, 9, 10, 11, 12, 13, 14, 15, 16, 17, 21, 29, 60, 61, 62, 63, 64, 65, 66, 67, 68, 69, 71, 79, 80, 84, 85, 97, 98, 99, 100, 101, 102, 103, 114, 115, 116, 117, 118, 119, 121, 123] (by decide +kernel) rfl
  obtain ⟨t1, ht1, v1⟩ : ∃ j : Nat, j < 8 ∧ xs 1 = nI j := z_nat (n := 8) (by omega) (by omega) (by decide)
  have v2 : xs 2 = 1 := z_lit (by rw [show (1 : Int32).toInt = 1 from by decide]; omega)
  refine lv_aload_n hx hb dL_law_1471 rfl (lv_at hl 3 rfl) ?_
  refine lv_aload_n hx hb dL_law_1472 rfl (lv_at hl 4 rfl) ?_
  refine lv_iload hx hb dL_law_1473 (lv_at hl 0 rfl) ?_
  refine lv_iconst (v := 1) hx hb dL_law_1475 (by decide) ?_
  refine lv_iadd hx hb dL_law_1476 ?_
  refine z_cst (v := 1) (by decide +kernel) ?_
  refine z_sld (v := (nI t1)) (j := 1) hx hb hX hbl hbA hS rfl (Nat.le_of_ble_eq_true rfl) v1 dL_law_1477 ?_
  refine lv_aload_n hx hb dL_law_1478 rfl (lv_at hl 4 rfl) ?_
  refine lv_iload hx hb dL_law_1479 (lv_at hl 0 rfl) ?_
  refine lv_iconst (v := 2) hx hb dL_law_1481 (by decide) ?_
  refine lv_iadd hx hb dL_law_1482 ?_
  refine z_cst (v := 2) (by decide +kernel) ?_
  refine z_sld (v := 1) (j := 2) hx hb hX hbl hbA hS rfl (Nat.le_of_ble_eq_true rfl) v2 dL_law_1483 ?_
  refine lv_aload_n hx hb dL_law_1484 rfl (lv_at hl 4 rfl) ?_
  refine lv_iload hx hb dL_law_1485 (lv_at hl 0 rfl) ?_
  refine lv_iconst (v := 3) hx hb dL_law_1487 (by decide) ?_
  refine lv_iadd hx hb dL_law_1488 ?_
  refine z_cst (v := 3) (by decide +kernel) ?_
  refine z_sld (v := (xs 3)) (j := 3) hx hb hX hbl hbA hS rfl (Nat.le_of_ble_eq_true rfl) rfl dL_law_1489 ?_
  refine lv_aload_n hx hb dL_law_1490 rfl (lv_at hl 4 rfl) ?_
  refine lv_iload hx hb dL_law_1491 (lv_at hl 0 rfl) ?_
  refine lv_iconst (v := 4) hx hb dL_law_1493 (by decide) ?_
  refine lv_iadd hx hb dL_law_1494 ?_
  refine z_cst (v := 4) (by decide +kernel) ?_
  refine z_sld (v := (xs 4)) (j := 4) hx hb hX hbl hbA hS rfl (Nat.le_of_ble_eq_true rfl) rfl dL_law_1495 ?_
  refine lv_aload_n hx hb dL_law_1496 rfl (lv_at hl 4 rfl) ?_
  refine lv_iload hx hb dL_law_1497 (lv_at hl 0 rfl) ?_
  refine lv_iconst (v := 5) hx hb dL_law_1499 (by decide) ?_
  refine lv_iadd hx hb dL_law_1500 ?_
  refine z_cst (v := 5) (by decide +kernel) ?_
  refine z_sld (v := (xs 5)) (j := 5) hx hb hX hbl hbA hS rfl (Nat.le_of_ble_eq_true rfl) rfl dL_law_1501 ?_
  refine lv_aload_n hx hb dL_law_1502 rfl (lv_at hl 4 rfl) ?_
  refine lv_iload hx hb dL_law_1503 (lv_at hl 0 rfl) ?_
  refine lv_bipush (v := 6) hx hb dL_law_1505 (by decide) ?_
  refine lv_iadd hx hb dL_law_1507 ?_
  refine z_cst (v := 6) (by decide +kernel) ?_
  refine z_sld (v := 0) (j := 6) hx hb hX hbl hbA hS rfl (Nat.le_of_ble_eq_true rfl) h0 dL_law_1508 ?_
  refine lv_if_eq (tgt := 1516) hx hb dL_law_1509 (by decide) (fun _ => ?_) (fun c => absurd (by decide) c)
  refine lv_iconst (v := 0) hx hb dL_law_1516 (by decide) ?_
  refine lv_aload_n hx hb dL_law_1517 rfl (lv_at hl 1 rfl) ?_
  refine z_hcalli [(qx, zO 9 9 (zc0 u v)), ((u 8), zO 4 6 (zc9 u v)), ((u 9), zO 7 6 (zc10 u v)), ((u 10), zI K 645 (fun _ => 0)), ((u 11), zI K 645 (fun _ => 0)), ((u 12), zI K 645 (fun _ => 0)), ((u 13), zI K 645 (fun _ => 0)), ((u 14), zI K 1935 (fun _ => 0)), ((u 59), zO 1 18 (zc60 u v)), ((u 60), zO 3 7 (zc61 u v)), ((u 16), zI K 8 (fun _ => 0)), ((u 20), zO 4 6 (zc21 u v)), ((u 28), zI K 8 (fun _ => 0)), ((u 61), zR K 512 (fun _ => none)), ((u 62), zO 2 6 (zc63 u v)), ((u 68), zI K 10 (fun _ => 0)), ((u 63), zI K 608 (fun _ => 0)), ((u 64), zI K 608 (fun _ => 0)), ((u 65), zI K 608 (fun _ => 0)), ((u 66), zI K 608 (fun _ => 0)), ((u 67), zI K 608 (fun _ => 0)), ((u 15), zI K 8 (fun _ => 0)), (qo, zJ K 1 (fun _ => 0))] [(qm, zO 10 83 (zc71 u v)), ((v 7), zI K 1290 (fun _ => 0)), ((v 8), zI K 1290 (fun _ => 0)), ((v 12), zI K 1290 (fun _ => 0)), ((v 13), zI K 16 (fun _ => 0)), ((v 25), zI K 60000 (fun _ => 0)), ((v 26), zI K 60000 (fun _ => 0)), ((v 27), zI K 60000 (fun _ => 0)), ((v 28), zI K 60000 (fun _ => 0)), ((v 29), zI K 60000 (fun _ => 0)), ((v 30), zI K 60000 (fun _ => 0)), ((v 31), zI K 60000 (fun _ => 0)), ((v 42), zI K 210000 (fun _ => 0)), ((v 43), zI K 210000 (fun _ => 0)), ((v 44), zI K 900 (fun _ => 0)), ((v 45), zI K 900 (fun _ => 0)), ((v 46), zI K 900 (fun _ => 0)), ((v 47), zI K 900 (fun _ => 0)), ((v 49), zI K 10 (fun _ => 0))] [0, 1, 2, 3, 4, 5, 6, 7, 12, 13, 9, 10, 11, 14, 15, 21, 16, 17, 18, 19, 20, 8, 41] [22, 23, 24, 25, 26, 27, 28, 29, 30, 31, 32, 33, 34, 35, 36, 37, 38, 39, 40] hP hD hS hA rfl rfl (by decide +kernel) (by decide +kernel) (by decide +kernel) 128 1867719 rfl rfl (fun hPc hDc hF => z_xrunH (As := [.ref qx, .int (nI t1), .int 1, .int (xs 3), .int (xs 4), .int (xs 5), .int 0, .ref qo]) (rest := []) ⟨hx, hb, hml, hown, hg⟩ (cL_run_13 l hl9 K H.size qx qo (u 8) (u 9) (u 10) (u 11) (u 12) (u 13) (u 14) (u 59) (u 60) (u 16) (u 20) (u 28) (u 61) (u 62) (u 68) (u 63) (u 64) (u 65) (u 66) (u 67) (u 15) (zc0 u v) (zc9 u v) (zc10 u v) (fun _ => 0) (fun _ => 0) (fun _ => 0) (fun _ => 0) (fun _ => 0) (zc60 u v) (zc61 u v) (fun _ => 0) (zc21 u v) (fun _ => 0) (fun _ => none) (zc63 u v) (fun _ => 0) (fun _ => 0) (fun _ => 0) (fun _ => 0) (fun _ => 0) (fun _ => 0) (fun _ => 0) (fun _ => 0) t1 ht1 (xs 3) (xs 4) (xs 5) (by rw [Int32.lt_iff_toInt_lt, show (0 : Int32).toInt = 0 from by decide]; omega) (by rw [Int32.lt_iff_toInt_lt, show (601 : Int32).toInt = 601 from by decide]; omega) (zc0_3 u v) (zc9_0 u v) (zc10_5 u v) (zc10_0 u v) (zc10_1 u v) (zc10_2 u v) (zc10_3 u v) (zc10_4 u v) (zc0_7 u v) (zc60_0 u v) (zc61_6 u v) (zc61_4 u v) (zc61_0 u v) (zc9_2 u v) rfl rfl rfl rfl rfl rfl rfl rfl (zc61_1 u v) (zc21_2 u v) rfl rfl rfl rfl rfl rfl rfl rfl (zc61_3 u v) (zc61_2 u v) (zc60_1 u v) (zc60_2 u v) (fun c9 => h7 c9.symm) (zc63_0 u v) (zc63_1 u v) (zc63_2 u v) (zc63_3 u v) (zc63_4 u v) (fun c9 => h10 c9.symm) (fun _ => rfl) (zc9_1 u v) (fun _ => rfl)) kS_RL_166 hd_L_run rfl rfl ⟨(Nat.le_of_ble_eq_true rfl), (Nat.le_of_ble_eq_true rfl)⟩ hK hS hZ hPc hDc hF rfl hl.1 rfl (Nat.le_of_ble_eq_true rfl) dL_law_1518 ⟨(Nat.le_of_ble_eq_true rfl), (Nat.le_of_ble_eq_true rfl)⟩) (fun r3 u1 H locs w2 hP hD hS => ?_)
  subst w2
  have hP : va_P K.1 classes [(qm, zO 10 83 (zc71 u v)), ((v 7), zI K 1290 (fun _ => 0)), ((v 8), zI K 1290 (fun _ => 0)), ((v 12), zI K 1290 (fun _ => 0)), ((v 13), zI K 16 (fun _ => 0)), ((v 25), zI K 60000 (fun _ => 0)), ((v 26), zI K 60000 (fun _ => 0)), ((v 27), zI K 60000 (fun _ => 0)), ((v 28), zI K 60000 (fun _ => 0)), ((v 29), zI K 60000 (fun _ => 0)), ((v 30), zI K 60000 (fun _ => 0)), ((v 31), zI K 60000 (fun _ => 0)), ((v 42), zI K 210000 (fun _ => 0)), ((v 43), zI K 210000 (fun _ => 0)), ((v 44), zI K 900 (fun _ => 0)), ((v 45), zI K 900 (fun _ => 0)), ((v 46), zI K 900 (fun _ => 0)), ((v 47), zI K 900 (fun _ => 0)), ((v 49), zI K 10 (fun _ => 0)), (qo, zJ K 1 (va_up (fun _ => 0) 0 5))] H := hP
  have hD : va_D A [(qm, zO 10 83 (zc71 u v)), ((v 7), zI K 1290 (fun _ => 0)), ((v 8), zI K 1290 (fun _ => 0)), ((v 12), zI K 1290 (fun _ => 0)), ((v 13), zI K 16 (fun _ => 0)), ((v 25), zI K 60000 (fun _ => 0)), ((v 26), zI K 60000 (fun _ => 0)), ((v 27), zI K 60000 (fun _ => 0)), ((v 28), zI K 60000 (fun _ => 0)), ((v 29), zI K 60000 (fun _ => 0)), ((v 30), zI K 60000 (fun _ => 0)), ((v 31), zI K 60000 (fun _ => 0)), ((v 42), zI K 210000 (fun _ => 0)), ((v 43), zI K 210000 (fun _ => 0)), ((v 44), zI K 900 (fun _ => 0)), ((v 45), zI K 900 (fun _ => 0)), ((v 46), zI K 900 (fun _ => 0)), ((v 47), zI K 900 (fun _ => 0)), ((v 49), zI K 10 (fun _ => 0)), (qo, zJ K 1 (va_up (fun _ => 0) 0 5))] := hD
  refine lv_istore (lv' := [(5, .int 0), (4, .int 0), (3, .ref qo), (2, .ref qm), (1, .ref qx), (0, .ref b)]) hx hb dL_law_1521 hl (by decide) rfl (fun ls hl => ?_)
  refine lv_aload_n hx hb dL_law_1523 rfl (lv_at hl 3 rfl) ?_
  refine lv_aload_n hx hb dL_law_1524 rfl (lv_at hl 5 rfl) ?_
  refine lv_iload hx hb dL_law_1525 (lv_at hl 1 rfl) ?_
  refine lv_iconst (v := 1) hx hb dL_law_1527 (by decide) ?_
  refine lv_iadd hx hb dL_law_1528 ?_
  refine z_cst (v := 1) (by decide +kernel) ?_
  refine z_sld (v := (nI t1)) (j := 1) hx hb hX hbl hbA hS rfl (Nat.le_of_ble_eq_true rfl) v1 dL_law_1529 ?_
  refine lv_aload_n hx hb dL_law_1530 rfl (lv_at hl 5 rfl) ?_
  refine lv_iload hx hb dL_law_1531 (lv_at hl 1 rfl) ?_
  refine lv_iconst (v := 2) hx hb dL_law_1533 (by decide) ?_
  refine lv_iadd hx hb dL_law_1534 ?_
  refine z_cst (v := 2) (by decide +kernel) ?_
  refine z_sld (v := 1) (j := 2) hx hb hX hbl hbA hS rfl (Nat.le_of_ble_eq_true rfl) v2 dL_law_1535 ?_
  refine lv_aload_n hx hb dL_law_1536 rfl (lv_at hl 5 rfl) ?_
  refine lv_iload hx hb dL_law_1537 (lv_at hl 1 rfl) ?_
  refine lv_iconst (v := 3) hx hb dL_law_1539 (by decide) ?_
  refine lv_iadd hx hb dL_law_1540 ?_
  refine z_cst (v := 3) (by decide +kernel) ?_
  refine z_sld (v := (xs 3)) (j := 3) hx hb hX hbl hbA hS rfl (Nat.le_of_ble_eq_true rfl) rfl dL_law_1541 ?_
  refine lv_aload_n hx hb dL_law_1542 rfl (lv_at hl 5 rfl) ?_
  refine lv_iload hx hb dL_law_1543 (lv_at hl 1 rfl) ?_
  refine lv_iconst (v := 4) hx hb dL_law_1545 (by decide) ?_
  refine lv_iadd hx hb dL_law_1546 ?_
  refine z_cst (v := 4) (by decide +kernel) ?_
  refine z_sld (v := (xs 4)) (j := 4) hx hb hX hbl hbA hS rfl (Nat.le_of_ble_eq_true rfl) rfl dL_law_1547 ?_
  refine lv_aload_n hx hb dL_law_1548 rfl (lv_at hl 5 rfl) ?_
  refine lv_iload hx hb dL_law_1549 (lv_at hl 1 rfl) ?_
  refine lv_iconst (v := 5) hx hb dL_law_1551 (by decide) ?_
  refine lv_iadd hx hb dL_law_1552 ?_
  refine z_cst (v := 5) (by decide +kernel) ?_
  refine z_sld (v := (xs 5)) (j := 5) hx hb hX hbl hbA hS rfl (Nat.le_of_ble_eq_true rfl) rfl dL_law_1553 ?_
  refine lv_aload_n hx hb dL_law_1554 rfl (lv_at hl 5 rfl) ?_
  refine lv_iload hx hb dL_law_1555 (lv_at hl 1 rfl) ?_
  refine lv_bipush (v := 6) hx hb dL_law_1557 (by decide) ?_
  refine lv_iadd hx hb dL_law_1559 ?_
  refine z_cst (v := 6) (by decide +kernel) ?_
  refine z_sld (v := 0) (j := 6) hx hb hX hbl hbA hS rfl (Nat.le_of_ble_eq_true rfl) h0 dL_law_1560 ?_
  refine lv_if_eq (tgt := 1568) hx hb dL_law_1561 (by decide) (fun _ => ?_) (fun c => absurd (by decide) c)
  refine lv_iconst (v := 0) hx hb dL_law_1568 (by decide) ?_
  refine z_calli [(qm, zO 10 83 (zc71 u v)), ((v 49), zI K 10 (fun _ => 0)), ((v 7), zI K 1290 (fun _ => 0)), ((v 8), zI K 1290 (fun _ => 0)), ((v 12), zI K 1290 (fun _ => 0)), ((v 44), zI K 900 (fun _ => 0)), ((v 45), zI K 900 (fun _ => 0)), ((v 46), zI K 900 (fun _ => 0)), ((v 47), zI K 900 (fun _ => 0)), ((v 25), zI K 60000 (fun _ => 0)), ((v 13), zI K 16 (fun _ => 0)), ((v 42), zI K 210000 (fun _ => 0)), ((v 43), zI K 210000 (fun _ => 0)), ((v 26), zI K 60000 (fun _ => 0)), ((v 27), zI K 60000 (fun _ => 0)), ((v 28), zI K 60000 (fun _ => 0)), ((v 29), zI K 60000 (fun _ => 0)), ((v 30), zI K 60000 (fun _ => 0)), ((v 31), zI K 60000 (fun _ => 0))] [(qo, zJ K 1 (va_up (fun _ => 0) 0 5))] [0, 18, 1, 2, 3, 14, 15, 16, 17, 5, 4, 12, 13, 6, 7, 8, 9, 10, 11] [19] hP hD hS hA rfl rfl (by decide +kernel) (by decide +kernel) (by decide +kernel) 128 1867719 rfl rfl (fun hPc hDc hF => z_runV (As := [.int (nI t1), .int 1, .int (xs 3), .int (xs 4), .int (xs 5), .int 0]) (rest := []) ⟨hx, hb, hml, hown, hg⟩ (cX12_run_13 l K H.size qm (v 49) (v 7) (v 8) (v 12) (v 44) (v 45) (v 46) (v 47) (v 25) (v 13) (v 42) (v 43) (v 26) (v 27) (v 28) (v 29) (v 30) (v 31) (zc71 u v) (fun _ => 0) (fun _ => 0) (fun _ => 0) (fun _ => 0) (fun _ => 0) (fun _ => 0) (fun _ => 0) (fun _ => 0) (fun _ => 0) (fun _ => 0) (fun _ => 0) (fun _ => 0) (fun _ => 0) (fun _ => 0) (fun _ => 0) (fun _ => 0) (fun _ => 0) (fun _ => 0) t1 ht1 (xs 3) (xs 4) (xs 5) (by rw [Int32.lt_iff_toInt_lt, show (0 : Int32).toInt = 0 from by decide]; omega) (by rw [Int32.lt_iff_toInt_lt, show (600 : Int32).toInt = 600 from by decide]; omega) (zc71_80 u v) (zc71_8 u v) (zc71_9 u v) (zc71_13 u v) (zc71_57 u v) (fun c9 => h7 c9.symm) (zc71_73 u v) (zc71_74 u v) (zc71_75 u v) (zc71_76 u v) (fun c9 => h10 c9.symm) (zc71_33 u v) (fun _ => rfl) (zc71_14 u v) (fun _ => rfl) (zc71_32 u v) (zc71_52 u v) (zc71_40 u v) (zc71_46 u v) (zc71_53 u v) (zc71_34 u v) rfl (zc71_35 u v) (zc71_36 u v) (zc71_37 u v) rfl (zc71_38 u v) (zc71_39 u v) rfl rfl rfl rfl rfl rfl rfl rfl rfl rfl rfl rfl rfl rfl rfl rfl rfl rfl rfl rfl rfl rfl rfl rfl rfl rfl rfl rfl rfl rfl rfl rfl rfl rfl rfl rfl rfl rfl rfl rfl rfl rfl rfl rfl rfl rfl) kV_RL_169 hd_X12_run rfl rfl ⟨(Nat.le_of_ble_eq_true rfl), (Nat.le_of_ble_eq_true rfl)⟩ hK hS hZ hPc hDc hF 0 rfl rfl rfl hl.1 rfl (Nat.le_of_ble_eq_true rfl) dL_law_1569 ⟨(Nat.le_of_ble_eq_true rfl), (Nat.le_of_ble_eq_true rfl)⟩) (fun r6 u4 H locs w5 hP hD hS => ?_)
  subst w5
  have hP : va_P K.1 classes [(qo, zJ K 1 (va_up (fun _ => 0) 0 5)), (qm, zO 10 83 (va_up (va_up (va_up (va_up (va_up (va_up (va_up (va_up (va_up (va_up (va_up (va_up (va_up (va_up (va_up (va_up (va_up (va_up (va_up (va_up (va_up (va_up (va_up (va_up (va_up (va_up (va_up (va_up (va_up (va_up (va_up (va_up (va_up (va_up (va_up (va_up (va_up (va_up (va_up (va_up (va_up (va_up (va_up (va_up (va_up (va_up (va_up (va_up (va_up (va_up (va_up (va_up (va_up (va_up (va_up (va_up (va_up (va_up (va_up (zc71 u v) 81 (.int 0)) 56 (.int 0)) 60 (.int (xs 5))) 79 (.int 0)) 55 (.int 0)) 58 (.int 0)) 59 (.int 600)) 72 (.int 0)) 77 (.int 0)) 62 (.int 1280)) 63 (.int (-1))) 64 (.int 0)) 65 (.int 0)) 61 (.int (-1))) 58 (.int 1)) 72 (.int 1)) 62 (.int 1281)) 63 (.int (-1))) 64 (.int 0)) 65 (.int 0)) 58 (.int 2)) 61 (.int 5)) 72 (.int 0)) 54 (.int 0)) 54 (.int 1)) 54 (.int 2)) 54 (.int 3)) 54 (.int 4)) 54 (.int 5)) 54 (.int 6)) 54 (.int 7)) 54 (.int 8)) 54 (.int 9)) 54 (.int 10)) 54 (.int 11)) 54 (.int 12)) 54 (.int 13)) 54 (.int 14)) 54 (.int 15)) 54 (.int 16)) 54 (.int 15)) 54 (.int 14)) 54 (.int 13)) 54 (.int 12)) 54 (.int 11)) 54 (.int 10)) 54 (.int 9)) 54 (.int 8)) 54 (.int 7)) 54 (.int 6)) 54 (.int 5)) 54 (.int 4)) 54 (.int 3)) 54 (.int 2)) 54 (.int 1)) 54 (.int 0)) 32 (.int 16)) 40 (.int 0)) 46 (.int 0)))] H := hP
  have hD : va_D A [(qo, zJ K 1 (va_up (fun _ => 0) 0 5)), (qm, zO 10 83 (va_up (va_up (va_up (va_up (va_up (va_up (va_up (va_up (va_up (va_up (va_up (va_up (va_up (va_up (va_up (va_up (va_up (va_up (va_up (va_up (va_up (va_up (va_up (va_up (va_up (va_up (va_up (va_up (va_up (va_up (va_up (va_up (va_up (va_up (va_up (va_up (va_up (va_up (va_up (va_up (va_up (va_up (va_up (va_up (va_up (va_up (va_up (va_up (va_up (va_up (va_up (va_up (va_up (va_up (va_up (va_up (va_up (va_up (va_up (zc71 u v) 81 (.int 0)) 56 (.int 0)) 60 (.int (xs 5))) 79 (.int 0)) 55 (.int 0)) 58 (.int 0)) 59 (.int 600)) 72 (.int 0)) 77 (.int 0)) 62 (.int 1280)) 63 (.int (-1))) 64 (.int 0)) 65 (.int 0)) 61 (.int (-1))) 58 (.int 1)) 72 (.int 1)) 62 (.int 1281)) 63 (.int (-1))) 64 (.int 0)) 65 (.int 0)) 58 (.int 2)) 61 (.int 5)) 72 (.int 0)) 54 (.int 0)) 54 (.int 1)) 54 (.int 2)) 54 (.int 3)) 54 (.int 4)) 54 (.int 5)) 54 (.int 6)) 54 (.int 7)) 54 (.int 8)) 54 (.int 9)) 54 (.int 10)) 54 (.int 11)) 54 (.int 12)) 54 (.int 13)) 54 (.int 14)) 54 (.int 15)) 54 (.int 16)) 54 (.int 15)) 54 (.int 14)) 54 (.int 13)) 54 (.int 12)) 54 (.int 11)) 54 (.int 10)) 54 (.int 9)) 54 (.int 8)) 54 (.int 7)) 54 (.int 6)) 54 (.int 5)) 54 (.int 4)) 54 (.int 3)) 54 (.int 2)) 54 (.int 1)) 54 (.int 0)) 32 (.int 16)) 40 (.int 0)) 46 (.int 0)))] := hD
  refine lv_istore (lv' := [(6, .int 5), (5, .int 0), (4, .int 0), (3, .ref qo), (2, .ref qm), (1, .ref qx), (0, .ref b)]) hx hb dL_law_1572 hl (by decide) rfl (fun ls hl => ?_)
  refine lv_aload_n hx hb dL_law_1574 rfl (lv_at hl 4 rfl) ?_
  refine z_calli [(qm, zO 10 83 (va_up (va_up (va_up (va_up (va_up (va_up (va_up (va_up (va_up (va_up (va_up (va_up (va_up (va_up (va_up (va_up (va_up (va_up (va_up (va_up (va_up (va_up (va_up (va_up (va_up (va_up (va_up (va_up (va_up (va_up (va_up (va_up (va_up (va_up (va_up (va_up (va_up (va_up (va_up (va_up (va_up (va_up (va_up (va_up (va_up (va_up (va_up (va_up (va_up (va_up (va_up (va_up (va_up (va_up (va_up (va_up (va_up (va_up (va_up (zc71 u v) 81 (.int 0)) 56 (.int 0)) 60 (.int (xs 5))) 79 (.int 0)) 55 (.int 0)) 58 (.int 0)) 59 (.int 600)) 72 (.int 0)) 77 (.int 0)) 62 (.int 1280)) 63 (.int (-1))) 64 (.int 0)) 65 (.int 0)) 61 (.int (-1))) 58 (.int 1)) 72 (.int 1)) 62 (.int 1281)) 63 (.int (-1))) 64 (.int 0)) 65 (.int 0)) 58 (.int 2)) 61 (.int 5)) 72 (.int 0)) 54 (.int 0)) 54 (.int 1)) 54 (.int 2)) 54 (.int 3)) 54 (.int 4)) 54 (.int 5)) 54 (.int 6)) 54 (.int 7)) 54 (.int 8)) 54 (.int 9)) 54 (.int 10)) 54 (.int 11)) 54 (.int 12)) 54 (.int 13)) 54 (.int 14)) 54 (.int 15)) 54 (.int 16)) 54 (.int 15)) 54 (.int 14)) 54 (.int 13)) 54 (.int 12)) 54 (.int 11)) 54 (.int 10)) 54 (.int 9)) 54 (.int 8)) 54 (.int 7)) 54 (.int 6)) 54 (.int 5)) 54 (.int 4)) 54 (.int 3)) 54 (.int 2)) 54 (.int 1)) 54 (.int 0)) 32 (.int 16)) 40 (.int 0)) 46 (.int 0)))] [(qo, zJ K 1 (va_up (fun _ => 0) 0 5))] [1] [0] hP hD hS hA rfl rfl (by decide +kernel) (by decide +kernel) (by decide +kernel) 128 1867719 rfl rfl (fun hPc hDc hF => z_runV (As := []) (rest := []) ⟨hx, hb, hml, hown, hg⟩ (cX12_thrown_1 l K H.size qm (va_up (va_up (va_up (va_up (va_up (va_up (va_up (va_up (va_up (va_up (va_up (va_up (va_up (va_up (va_up (va_up (va_up (va_up (va_up (va_up (va_up (va_up (va_up (va_up (va_up (va_up (va_up (va_up (va_up (va_up (va_up (va_up (va_up (va_up (va_up (va_up (va_up (va_up (va_up (va_up (va_up (va_up (va_up (va_up (va_up (va_up (va_up (va_up (va_up (va_up (va_up (va_up (va_up (va_up (va_up (va_up (va_up (va_up (va_up (zc71 u v) 81 (.int 0)) 56 (.int 0)) 60 (.int (xs 5))) 79 (.int 0)) 55 (.int 0)) 58 (.int 0)) 59 (.int 600)) 72 (.int 0)) 77 (.int 0)) 62 (.int 1280)) 63 (.int (-1))) 64 (.int 0)) 65 (.int 0)) 61 (.int (-1))) 58 (.int 1)) 72 (.int 1)) 62 (.int 1281)) 63 (.int (-1))) 64 (.int 0)) 65 (.int 0)) 58 (.int 2)) 61 (.int 5)) 72 (.int 0)) 54 (.int 0)) 54 (.int 1)) 54 (.int 2)) 54 (.int 3)) 54 (.int 4)) 54 (.int 5)) 54 (.int 6)) 54 (.int 7)) 54 (.int 8)) 54 (.int 9)) 54 (.int 10)) 54 (.int 11)) 54 (.int 12)) 54 (.int 13)) 54 (.int 14)) 54 (.int 15)) 54 (.int 16)) 54 (.int 15)) 54 (.int 14)) 54 (.int 13)) 54 (.int 12)) 54 (.int 11)) 54 (.int 10)) 54 (.int 9)) 54 (.int 8)) 54 (.int 7)) 54 (.int 6)) 54 (.int 5)) 54 (.int 4)) 54 (.int 3)) 54 (.int 2)) 54 (.int 1)) 54 (.int 0)) 32 (.int 16)) 40 (.int 0)) 46 (.int 0)) (zu_ne (by decide) (zu_ne (by decide) (zu_ne (by decide) (zu_ne (by decide) (zu_ne (by decide) (zu_ne (by decide) (zu_ne (by decide) (zu_ne (by decide) (zu_ne (by decide) (zu_ne (by decide) (zu_ne (by decide) (zu_ne (by decide) (zu_ne (by decide) (zu_ne (by decide) (zu_ne (by decide) (zu_ne (by decide) (zu_ne (by decide) (zu_ne (by decide) (zu_ne (by decide) (zu_ne (by decide) (zu_ne (by decide) (zu_ne (by decide) (zu_ne (by decide) (zu_ne (by decide) (zu_ne (by decide) (zu_ne (by decide) (zu_ne (by decide) (zu_ne (by decide) (zu_ne (by decide) (zu_ne (by decide) (zu_ne (by decide) (zu_ne (by decide) (zu_ne (by decide) (zu_ne (by decide) (zu_ne (by decide) (zu_ne (by decide) (zu_ne (by decide) (zu_ne (by decide) (zu_ne (by decide) (zu_ne (by decide) (zu_ne (by decide) (zu_ne (by decide) (zu_ne (by decide) (zu_ne (by decide) (zu_ne (by decide) (zu_ne (by decide) (zu_ne (by decide) (zu_ne (by decide) (zu_ne (by decide) (zu_ne (by decide) (zu_ne (by decide) (zu_ne (by decide) (zu_ne (by decide) (zu_ne (by decide) (zu_ne (by decide) (zu_ne (by decide) (zu_ne (by decide) (zu_ne (by decide) zu_eq))))))))))))))))))))))))))))))))))))))))))))))))))))))))))) kV_RL_104 hd_X12_thrown rfl rfl ⟨(Nat.le_of_ble_eq_true rfl), (Nat.le_of_ble_eq_true rfl)⟩ hK hS hZ hPc hDc hF 0 rfl rfl rfl hl.1 rfl (Nat.le_of_ble_eq_true rfl) dL_law_1575 ⟨(Nat.le_of_ble_eq_true rfl), (Nat.le_of_ble_eq_true rfl)⟩) (fun r9 u7 H locs w8 hP hD hS => ?_)
  subst w8
  have hP : va_P K.1 classes [(qo, zJ K 1 (va_up (fun _ => 0) 0 5)), (qm, zO 10 83 (va_up (va_up (va_up (va_up (va_up (va_up (va_up (va_up (va_up (va_up (va_up (va_up (va_up (va_up (va_up (va_up (va_up (va_up (va_up (va_up (va_up (va_up (va_up (va_up (va_up (va_up (va_up (va_up (va_up (va_up (va_up (va_up (va_up (va_up (va_up (va_up (va_up (va_up (va_up (va_up (va_up (va_up (va_up (va_up (va_up (va_up (va_up (va_up (va_up (va_up (va_up (va_up (va_up (va_up (va_up (va_up (va_up (va_up (va_up (zc71 u v) 81 (.int 0)) 56 (.int 0)) 60 (.int (xs 5))) 79 (.int 0)) 55 (.int 0)) 58 (.int 0)) 59 (.int 600)) 72 (.int 0)) 77 (.int 0)) 62 (.int 1280)) 63 (.int (-1))) 64 (.int 0)) 65 (.int 0)) 61 (.int (-1))) 58 (.int 1)) 72 (.int 1)) 62 (.int 1281)) 63 (.int (-1))) 64 (.int 0)) 65 (.int 0)) 58 (.int 2)) 61 (.int 5)) 72 (.int 0)) 54 (.int 0)) 54 (.int 1)) 54 (.int 2)) 54 (.int 3)) 54 (.int 4)) 54 (.int 5)) 54 (.int 6)) 54 (.int 7)) 54 (.int 8)) 54 (.int 9)) 54 (.int 10)) 54 (.int 11)) 54 (.int 12)) 54 (.int 13)) 54 (.int 14)) 54 (.int 15)) 54 (.int 16)) 54 (.int 15)) 54 (.int 14)) 54 (.int 13)) 54 (.int 12)) 54 (.int 11)) 54 (.int 10)) 54 (.int 9)) 54 (.int 8)) 54 (.int 7)) 54 (.int 6)) 54 (.int 5)) 54 (.int 4)) 54 (.int 3)) 54 (.int 2)) 54 (.int 1)) 54 (.int 0)) 32 (.int 16)) 40 (.int 0)) 46 (.int 0)))] H := hP
  have hD : va_D A [(qo, zJ K 1 (va_up (fun _ => 0) 0 5)), (qm, zO 10 83 (va_up (va_up (va_up (va_up (va_up (va_up (va_up (va_up (va_up (va_up (va_up (va_up (va_up (va_up (va_up (va_up (va_up (va_up (va_up (va_up (va_up (va_up (va_up (va_up (va_up (va_up (va_up (va_up (va_up (va_up (va_up (va_up (va_up (va_up (va_up (va_up (va_up (va_up (va_up (va_up (va_up (va_up (va_up (va_up (va_up (va_up (va_up (va_up (va_up (va_up (va_up (va_up (va_up (va_up (va_up (va_up (va_up (va_up (va_up (zc71 u v) 81 (.int 0)) 56 (.int 0)) 60 (.int (xs 5))) 79 (.int 0)) 55 (.int 0)) 58 (.int 0)) 59 (.int 600)) 72 (.int 0)) 77 (.int 0)) 62 (.int 1280)) 63 (.int (-1))) 64 (.int 0)) 65 (.int 0)) 61 (.int (-1))) 58 (.int 1)) 72 (.int 1)) 62 (.int 1281)) 63 (.int (-1))) 64 (.int 0)) 65 (.int 0)) 58 (.int 2)) 61 (.int 5)) 72 (.int 0)) 54 (.int 0)) 54 (.int 1)) 54 (.int 2)) 54 (.int 3)) 54 (.int 4)) 54 (.int 5)) 54 (.int 6)) 54 (.int 7)) 54 (.int 8)) 54 (.int 9)) 54 (.int 10)) 54 (.int 11)) 54 (.int 12)) 54 (.int 13)) 54 (.int 14)) 54 (.int 15)) 54 (.int 16)) 54 (.int 15)) 54 (.int 14)) 54 (.int 13)) 54 (.int 12)) 54 (.int 11)) 54 (.int 10)) 54 (.int 9)) 54 (.int 8)) 54 (.int 7)) 54 (.int 6)) 54 (.int 5)) 54 (.int 4)) 54 (.int 3)) 54 (.int 2)) 54 (.int 1)) 54 (.int 0)) 32 (.int 16)) 40 (.int 0)) 46 (.int 0)))] := hD
  refine lv_iload hx hb dL_law_1578 (lv_at hl 1 rfl) ?_
  refine lv_icmp_eq (tgt := 1585) hx hb dL_law_1580 (by decide) (fun _ => ?_) (fun c => absurd (by decide) c)
  refine lv_iload hx hb dL_law_1585 (lv_at hl 1 rfl) ?_
  refine lv_if_ne (tgt := 1602) hx hb dL_law_1587 (by decide) (fun c => absurd (by decide) c) (fun _ => ?_)
  refine lv_aload_n hx hb dL_law_1590 rfl (lv_at hl 3 rfl) ?_
  refine lv_iconst (v := 0) hx hb dL_law_1591 (by decide) ?_
  refine z_lald (v := 5) (j := 0) hx hb hK hP 0 rfl rfl (Nat.le_of_ble_eq_true rfl) (Nat.le_of_ble_eq_true rfl) zu_eq dL_law_1592 ?_
  refine lv_iload hx hb dL_law_1593 (lv_at hl 0 rfl) ?_
  refine lv_i2l hx hb dL_law_1595 rfl ?_
  refine z_cstl (v := 5) (by decide +kernel) ?_
  refine W.lcmp hx hb dL_law_1596 ?_
  refine z_cst (v := 0) (by decide +kernel) ?_
  refine lv_if_eq (tgt := 1602) hx hb dL_law_1597 (by decide) (fun _ => ?_) (fun c => absurd (by decide) c)
  refine lv_goto (tgt := 2026) hx hb dL_law_1602 (by decide) ?_
  exact law_back ⟨hx, hb, hr, hml, hown, hg, hX, hbl, hlocks, hK, hZ, hl9, hAA, hA, hbA⟩ (Nat.le_of_ble_eq_true rfl) (Nat.le_of_ble_eq_true rfl) hS (lv_sub hl [2, 6] rfl)
set_option maxHeartbeats 4000000 in
set_option maxRecDepth 100000 in
theorem lawS_19_13 {p : Program} {l : Launch} {e : Env} {s : State} {m : MethodId} {below : List Frame} {meth : Method} {c : Code} {b : Nat} {xs : Nat → Int32} {K : zK} {A : Nat → Prop} {H : Heap} {locs : List Loc} {ls : Array Slot} (C : zC p l s m meth c b xs K A) (qx qm qo : Nat) (u v : Nat → Nat) (h0 : xs 6 = 0) (h1 : 0 ≤ (xs 5).toInt) (h2 : (xs 5).toInt < 601) (h3 : 0 ≤ (xs 1).toInt) (h4 : (xs 1).toInt < 8) (h5 : 0 ≤ (xs 2).toInt) (h6 : (xs 2).toInt < 3) (h7 : ¬ xs 5 = 1) (h8 : 1 ≤ (xs 2).toInt) (h9 : 2 ≤ (xs 2).toInt) (h10 : xs 5 = 2) (hP : va_P K.1 classes (lwW K qx qm qo u v) H) (hD : va_D A (lwW K qx qm qo u v)) (hS : va_S A s.heap H locs) (hl : lv_has ls 7 [(4, .int 0), (3, .ref qo), (2, .ref qm), (1, .ref qx), (0, .ref b)]) : W p l e room_1 s m #[Value.ref b] below meth c H locs 124 1863516 (lw_Z below #[Value.ref b] s) (F0 m 1471 ls []) := by
  obtain ⟨hx, hb, hr, hml, hown, hg, hX, hbl, hlocks, hK, hZ, hl9, hAA, hA, hbA⟩ := C
  have hP : va_P K.1 classes [(qx, zO 9 9 (zc0 u v)), ((u 8), zO 4 6 (zc9 u v)), ((u 9), zO 7 6 (zc10 u v)), ((u 10), zI K 645 (fun _ => 0)), ((u 11), zI K 645 (fun _ => 0)), ((u 12), zI K 645 (fun _ => 0)), ((u 13), zI K 645 (fun _ => 0)), ((u 14), zI K 1935 (fun _ => 0)), ((u 16), zI K 8 (fun _ => 0)), ((u 20), zO 4 6 (zc21 u v)), ((u 28), zI K 8 (fun _ => 0)), ((u 59), zO 1 18 (zc60 u v)), ((u 60), zO 3 7 (zc61 u v)), ((u 61), zR K 512 (fun _ => none)), ((u 62), zO 2 6 (zc63 u v)), ((u 63), zI K 608 (fun _ => 0)), ((u 64), zI K 608 (fun _ => 0)), ((u 65), zI K 608 (fun _ => 0)), ((u 66), zI K 608 (fun _ => 0)), ((u 67), zI K 608 (fun _ => 0)), ((u 68), zI K 10 (fun _ => 0)), (qm, zO 10 83 (zc71 u v)), ((v 7), zI K 1290 (fun _ => 0)), ((v 8), zI K 1290 (fun _ => 0)), ((v 12), zI K 1290 (fun _ => 0)), ((v 25), zI K 60000 (fun _ => 0)), ((v 26), zI K 60000 (fun _ => 0)), ((v 27), zI K 60000 (fun _ => 0)), ((v 28), zI K 60000 (fun _ => 0)), ((v 29), zI K 60000 (fun _ => 0)), ((v 30), zI K 60000 (fun _ => 0)), ((v 31), zI K 60000 (fun _ => 0)), ((v 42), zI K 210000 (fun _ => 0)), ((v 43), zI K 210000 (fun _ => 0)), ((v 44), zI K 900 (fun _ => 0)), ((v 45), zI K 900 (fun _ => 0)), ((v 46), zI K 900 (fun _ => 0)), ((v 47), zI K 900 (fun _ => 0)), ((v 49), zI K 10 (fun _ => 0)), (qo, zJ K 1 (fun _ => 0))] H := hP.sub [0, 9, 10, 11, 12, 13, 14, 15, 17, 21, 29, 60, 61, 62, 63, 64, 65, 66, 67, 68, 69, 71, 79, 80, 84, 97, 98, 99, 100, 101, 102, 103, 114, 115, 116, 117, 118, 119, 121, 123] rfl
  have hD : va_D A [(qx, zO 9 9 (zc0 u v)), ((u 8), zO 4 6 (zc9 u v)), ((u 9), zO 7 6 (zc10 u v)), ((u 10), zI K 645 (fun _ => 0)), ((u 11), zI K 645 (fun _ => 0)), ((u 12), zI K 645 (fun _ => 0)), ((u 13), zI K 645 (fun _ => 0)), ((u 14), zI K 1935 (fun _ => 0)), ((u 16), zI K 8 (fun _ => 0)), ((u 20), zO 4 6 (zc21 u v)), ((u 28), zI K 8 (fun _ => 0)), ((u 59), zO 1 18 (zc60 u v)), ((u 60), zO 3 7 (zc61 u v)), ((u 61), zR K 512 (fun _ => none)), ((u 62), zO 2 6 (zc63 u v)), ((u 63), zI K 608 (fun _ => 0)), ((u 64), zI K 608 (fun _ => 0)), ((u 65), zI K 608 (fun _ => 0)), ((u 66), zI K 608 (fun _ => 0)), ((u 67), zI K 608 (fun _ => 0)), ((u 68), zI K 10 (fun _ => 0)), (qm, zO 10 83 (zc71 u v)), ((v 7), zI K 1290 (fun _ => 0)), ((v 8), zI K 1290 (fun _ => 0)), ((v 12), zI K 1290 (fun _ => 0)), ((v 25), zI K 60000 (fun _ => 0)), ((v 26), zI K 60000 (fun _ => 0)), ((v 27), zI K 60000 (fun _ => 0)), ((v 28), zI K 60000 (fun _ => 0)), ((v 29), zI K 60000 (fun _ => 0)), ((v 30), zI K 60000 (fun _ => 0)), ((v 31), zI K 60000 (fun _ => 0)), ((v 42), zI K 210000 (fun _ => 0)), ((v 43), zI K 210000 (fun _ => 0)), ((v 44), zI K 900 (fun _ => 0)), ((v 45), zI K 900 (fun _ => 0)), ((v 46), zI K 900 (fun _ => 0)), ((v 47), zI K 900 (fun _ => 0)), ((v 49), zI K 10 (fun _ => 0)), (qo, zJ K 1 (fun _ => 0))] := hD.sub [0, 9, 10, 11, 12, 13, 14, 15, 17, 21, 29, 60, 61, 62, 63, 64, 65, 66, 67, 68, 69, 71, 79, 80, 84, 97, 98, 99, 100, 101, 102, 103, 114, 115, 116, 117, 118, 119, 121, 123] (by decide +kernel) rfl
  obtain ⟨t1, ht1, v1⟩ : ∃ j : Nat, j < 8 ∧ xs 1 = nI j := z_nat (n := 8) (by omega) (by omega) (by decide)
  have v2 : xs 2 = 2 := z_lit (by rw [show (2 : Int32).toInt = 2 from by decide]; omega)
  refine lv_aload_n hx hb dL_law_1471 rfl (lv_at hl 3 rfl) ?_
  refine lv_aload_n hx hb dL_law_1472 rfl (lv_at hl 4 rfl) ?_
  refine lv_iload hx hb dL_law_1473 (lv_at hl 0 rfl) ?_
  refine lv_iconst (v := 1) hx hb dL_law_1475 (by decide) ?_
  refine lv_iadd hx hb dL_law_1476 ?_
  refine z_cst (v := 1) (by decide +kernel) ?_
  refine z_sld (v := (nI t1)) (j := 1) hx hb hX hbl hbA hS rfl (Nat.le_of_ble_eq_true rfl) v1 dL_law_1477 ?_
  refine lv_aload_n hx hb dL_law_1478 rfl (lv_at hl 4 rfl) ?_
  refine lv_iload hx hb dL_law_1479 (lv_at hl 0 rfl) ?_
  refine lv_iconst (v := 2) hx hb dL_law_1481 (by decide) ?_
  refine lv_iadd hx hb dL_law_1482 ?_
  refine z_cst (v := 2) (by decide +kernel) ?_
  refine z_sld (v := 2) (j := 2) hx hb hX hbl hbA hS rfl (Nat.le_of_ble_eq_true rfl) v2 dL_law_1483 ?_
  refine lv_aload_n hx hb dL_law_1484 rfl (lv_at hl 4 rfl) ?_
  refine lv_iload hx hb dL_law_1485 (lv_at hl 0 rfl) ?_
  refine lv_iconst (v := 3) hx hb dL_law_1487 (by decide) ?_
  refine lv_iadd hx hb dL_law_1488 ?_
  refine z_cst (v := 3) (by decide +kernel) ?_
  refine z_sld (v := (xs 3)) (j := 3) hx hb hX hbl hbA hS rfl (Nat.le_of_ble_eq_true rfl) rfl dL_law_1489 ?_
  refine lv_aload_n hx hb dL_law_1490 rfl (lv_at hl 4 rfl) ?_
  refine lv_iload hx hb dL_law_1491 (lv_at hl 0 rfl) ?_
  refine lv_iconst (v := 4) hx hb dL_law_1493 (by decide) ?_
  refine lv_iadd hx hb dL_law_1494 ?_
  refine z_cst (v := 4) (by decide +kernel) ?_
  refine z_sld (v := (xs 4)) (j := 4) hx hb hX hbl hbA hS rfl (Nat.le_of_ble_eq_true rfl) rfl dL_law_1495 ?_
  refine lv_aload_n hx hb dL_law_1496 rfl (lv_at hl 4 rfl) ?_
  refine lv_iload hx hb dL_law_1497 (lv_at hl 0 rfl) ?_
  refine lv_iconst (v := 5) hx hb dL_law_1499 (by decide) ?_
  refine lv_iadd hx hb dL_law_1500 ?_
  refine z_cst (v := 5) (by decide +kernel) ?_
  refine z_sld (v := 2) (j := 5) hx hb hX hbl hbA hS rfl (Nat.le_of_ble_eq_true rfl) h10 dL_law_1501 ?_
  refine lv_aload_n hx hb dL_law_1502 rfl (lv_at hl 4 rfl) ?_
  refine lv_iload hx hb dL_law_1503 (lv_at hl 0 rfl) ?_
  refine lv_bipush (v := 6) hx hb dL_law_1505 (by decide) ?_
  refine lv_iadd hx hb dL_law_1507 ?_
  refine z_cst (v := 6) (by decide +kernel) ?_
  refine z_sld (v := 0) (j := 6) hx hb hX hbl hbA hS rfl (Nat.le_of_ble_eq_true rfl) h0 dL_law_1508 ?_
  refine lv_if_eq (tgt := 1516) hx hb dL_law_1509 (by decide) (fun _ => ?_) (fun c => absurd (by decide) c)
  refine lv_iconst (v := 0) hx hb dL_law_1516 (by decide) ?_
  refine lv_aload_n hx hb dL_law_1517 rfl (lv_at hl 1 rfl) ?_
  refine z_hcalli [(qx, zO 9 9 (zc0 u v)), ((u 8), zO 4 6 (zc9 u v)), ((u 9), zO 7 6 (zc10 u v)), ((u 10), zI K 645 (fun _ => 0)), ((u 11), zI K 645 (fun _ => 0)), ((u 12), zI K 645 (fun _ => 0)), ((u 13), zI K 645 (fun _ => 0)), ((u 14), zI K 1935 (fun _ => 0)), ((u 59), zO 1 18 (zc60 u v)), ((u 60), zO 3 7 (zc61 u v)), ((u 16), zI K 8 (fun _ => 0)), ((u 20), zO 4 6 (zc21 u v)), ((u 28), zI K 8 (fun _ => 0)), ((u 61), zR K 512 (fun _ => none)), ((u 62), zO 2 6 (zc63 u v)), ((u 68), zI K 10 (fun _ => 0)), ((u 63), zI K 608 (fun _ => 0)), ((u 64), zI K 608 (fun _ => 0)), ((u 65), zI K 608 (fun _ => 0)), ((u 66), zI K 608 (fun _ => 0)), ((u 67), zI K 608 (fun _ => 0)), (qo, zJ K 1 (fun _ => 0))] [(qm, zO 10 83 (zc71 u v)), ((v 7), zI K 1290 (fun _ => 0)), ((v 8), zI K 1290 (fun _ => 0)), ((v 12), zI K 1290 (fun _ => 0)), ((v 25), zI K 60000 (fun _ => 0)), ((v 26), zI K 60000 (fun _ => 0)), ((v 27), zI K 60000 (fun _ => 0)), ((v 28), zI K 60000 (fun _ => 0)), ((v 29), zI K 60000 (fun _ => 0)), ((v 30), zI K 60000 (fun _ => 0)), ((v 31), zI K 60000 (fun _ => 0)), ((v 42), zI K 210000 (fun _ => 0)), ((v 43), zI K 210000 (fun _ => 0)), ((v 44), zI K 900 (fun _ => 0)), ((v 45), zI K 900 (fun _ => 0)), ((v 46), zI K 900 (fun _ => 0)), ((v 47), zI K 900 (fun _ => 0)), ((v 49), zI K 10 (fun _ => 0))] [0, 1, 2, 3, 4, 5, 6, 7, 11, 12, 8, 9, 10, 13, 14, 20, 15, 16, 17, 18, 19, 39] [21, 22, 23, 24, 25, 26, 27, 28, 29, 30, 31, 32, 33, 34, 35, 36, 37, 38] hP hD hS hA rfl rfl (by decide +kernel) (by decide +kernel) (by decide +kernel) 128 1867719 rfl rfl (fun hPc hDc hF => z_xrunH (As := [.ref qx, .int (nI t1), .int 2, .int (xs 3), .int (xs 4), .int 2, .int 0, .ref qo]) (rest := []) ⟨hx, hb, hml, hown, hg⟩ (cL_run_14 l hl9 K H.size qx qo (u 8) (u 9) (u 10) (u 11) (u 12) (u 13) (u 14) (u 59) (u 60) (u 16) (u 20) (u 28) (u 61) (u 62) (u 68) (u 63) (u 64) (u 65) (u 66) (u 67) (zc0 u v) (zc9 u v) (zc10 u v) (fun _ => 0) (fun _ => 0) (fun _ => 0) (fun _ => 0) (fun _ => 0) (zc60 u v) (zc61 u v) (fun _ => 0) (zc21 u v) (fun _ => 0) (fun _ => none) (zc63 u v) (fun _ => 0) (fun _ => 0) (fun _ => 0) (fun _ => 0) (fun _ => 0) (fun _ => 0) (fun _ => 0) t1 ht1 (xs 3) (xs 4) (zc0_3 u v) (zc9_0 u v) (zc10_5 u v) (zc10_0 u v) (zc10_1 u v) (zc10_2 u v) (zc10_3 u v) (zc10_4 u v) (zc0_7 u v) (zc60_0 u v) (zc61_6 u v) (zc61_4 u v) (zc61_0 u v) (zc9_2 u v) rfl rfl rfl rfl rfl rfl rfl rfl (zc61_1 u v) (zc21_2 u v) rfl rfl rfl rfl rfl rfl rfl rfl (zc61_3 u v) (zc61_2 u v) (zc60_1 u v) (zc60_2 u v) (zc63_0 u v) (zc63_1 u v) (zc63_2 u v) (zc63_3 u v) (zc63_4 u v)) kS_RL_166 hd_L_run rfl rfl ⟨(Nat.le_of_ble_eq_true rfl), (Nat.le_of_ble_eq_true rfl)⟩ hK hS hZ hPc hDc hF rfl hl.1 rfl (Nat.le_of_ble_eq_true rfl) dL_law_1518 ⟨(Nat.le_of_ble_eq_true rfl), (Nat.le_of_ble_eq_true rfl)⟩) (fun r3 u1 H locs w2 hP hD hS => ?_)
  subst w2
  have hP : va_P K.1 classes [(qm, zO 10 83 (zc71 u v)), ((v 7), zI K 1290 (fun _ => 0)), ((v 8), zI K 1290 (fun _ => 0)), ((v 12), zI K 1290 (fun _ => 0)), ((v 25), zI K 60000 (fun _ => 0)), ((v 26), zI K 60000 (fun _ => 0)), ((v 27), zI K 60000 (fun _ => 0)), ((v 28), zI K 60000 (fun _ => 0)), ((v 29), zI K 60000 (fun _ => 0)), ((v 30), zI K 60000 (fun _ => 0)), ((v 31), zI K 60000 (fun _ => 0)), ((v 42), zI K 210000 (fun _ => 0)), ((v 43), zI K 210000 (fun _ => 0)), ((v 44), zI K 900 (fun _ => 0)), ((v 45), zI K 900 (fun _ => 0)), ((v 46), zI K 900 (fun _ => 0)), ((v 47), zI K 900 (fun _ => 0)), ((v 49), zI K 10 (fun _ => 0)), (qo, zJ K 1 (va_up (fun _ => 0) 0 7))] H := hP
  have hD : va_D A [(qm, zO 10 83 (zc71 u v)), ((v 7), zI K 1290 (fun _ => 0)), ((v 8), zI K 1290 (fun _ => 0)), ((v 12), zI K 1290 (fun _ => 0)), ((v 25), zI K 60000 (fun _ => 0)), ((v 26), zI K 60000 (fun _ => 0)), ((v 27), zI K 60000 (fun _ => 0)), ((v 28), zI K 60000 (fun _ => 0)), ((v 29), zI K 60000 (fun _ => 0)), ((v 30), zI K 60000 (fun _ => 0)), ((v 31), zI K 60000 (fun _ => 0)), ((v 42), zI K 210000 (fun _ => 0)), ((v 43), zI K 210000 (fun _ => 0)), ((v 44), zI K 900 (fun _ => 0)), ((v 45), zI K 900 (fun _ => 0)), ((v 46), zI K 900 (fun _ => 0)), ((v 47), zI K 900 (fun _ => 0)), ((v 49), zI K 10 (fun _ => 0)), (qo, zJ K 1 (va_up (fun _ => 0) 0 7))] := hD
  refine lv_istore (lv' := [(5, .int 0), (4, .int 0), (3, .ref qo), (2, .ref qm), (1, .ref qx), (0, .ref b)]) hx hb dL_law_1521 hl (by decide) rfl (fun ls hl => ?_)
  refine lv_aload_n hx hb dL_law_1523 rfl (lv_at hl 3 rfl) ?_
  refine lv_aload_n hx hb dL_law_1524 rfl (lv_at hl 5 rfl) ?_
  refine lv_iload hx hb dL_law_1525 (lv_at hl 1 rfl) ?_
  refine lv_iconst (v := 1) hx hb dL_law_1527 (by decide) ?_
  refine lv_iadd hx hb dL_law_1528 ?_
  refine z_cst (v := 1) (by decide +kernel) ?_
  refine z_sld (v := (nI t1)) (j := 1) hx hb hX hbl hbA hS rfl (Nat.le_of_ble_eq_true rfl) v1 dL_law_1529 ?_
  refine lv_aload_n hx hb dL_law_1530 rfl (lv_at hl 5 rfl) ?_
  refine lv_iload hx hb dL_law_1531 (lv_at hl 1 rfl) ?_
  refine lv_iconst (v := 2) hx hb dL_law_1533 (by decide) ?_
  refine lv_iadd hx hb dL_law_1534 ?_
  refine z_cst (v := 2) (by decide +kernel) ?_
  refine z_sld (v := 2) (j := 2) hx hb hX hbl hbA hS rfl (Nat.le_of_ble_eq_true rfl) v2 dL_law_1535 ?_
  refine lv_aload_n hx hb dL_law_1536 rfl (lv_at hl 5 rfl) ?_
  refine lv_iload hx hb dL_law_1537 (lv_at hl 1 rfl) ?_
  refine lv_iconst (v := 3) hx hb dL_law_1539 (by decide) ?_
  refine lv_iadd hx hb dL_law_1540 ?_
  refine z_cst (v := 3) (by decide +kernel) ?_
  refine z_sld (v := (xs 3)) (j := 3) hx hb hX hbl hbA hS rfl (Nat.le_of_ble_eq_true rfl) rfl dL_law_1541 ?_
  refine lv_aload_n hx hb dL_law_1542 rfl (lv_at hl 5 rfl) ?_
  refine lv_iload hx hb dL_law_1543 (lv_at hl 1 rfl) ?_
  refine lv_iconst (v := 4) hx hb dL_law_1545 (by decide) ?_
  refine lv_iadd hx hb dL_law_1546 ?_
  refine z_cst (v := 4) (by decide +kernel) ?_
  refine z_sld (v := (xs 4)) (j := 4) hx hb hX hbl hbA hS rfl (Nat.le_of_ble_eq_true rfl) rfl dL_law_1547 ?_
  refine lv_aload_n hx hb dL_law_1548 rfl (lv_at hl 5 rfl) ?_
  refine lv_iload hx hb dL_law_1549 (lv_at hl 1 rfl) ?_
  refine lv_iconst (v := 5) hx hb dL_law_1551 (by decide) ?_
  refine lv_iadd hx hb dL_law_1552 ?_
  refine z_cst (v := 5) (by decide +kernel) ?_
  refine z_sld (v := 2) (j := 5) hx hb hX hbl hbA hS rfl (Nat.le_of_ble_eq_true rfl) h10 dL_law_1553 ?_
  refine lv_aload_n hx hb dL_law_1554 rfl (lv_at hl 5 rfl) ?_
  refine lv_iload hx hb dL_law_1555 (lv_at hl 1 rfl) ?_
  refine lv_bipush (v := 6) hx hb dL_law_1557 (by decide) ?_
  refine lv_iadd hx hb dL_law_1559 ?_
  refine z_cst (v := 6) (by decide +kernel) ?_
  refine z_sld (v := 0) (j := 6) hx hb hX hbl hbA hS rfl (Nat.le_of_ble_eq_true rfl) h0 dL_law_1560 ?_
  refine lv_if_eq (tgt := 1568) hx hb dL_law_1561 (by decide) (fun _ => ?_) (fun c => absurd (by decide) c)
  refine lv_iconst (v := 0) hx hb dL_law_1568 (by decide) ?_
  refine z_calli [(qm, zO 10 83 (zc71 u v)), ((v 49), zI K 10 (fun _ => 0)), ((v 7), zI K 1290 (fun _ => 0)), ((v 8), zI K 1290 (fun _ => 0)), ((v 12), zI K 1290 (fun _ => 0)), ((v 44), zI K 900 (fun _ => 0)), ((v 45), zI K 900 (fun _ => 0)), ((v 46), zI K 900 (fun _ => 0)), ((v 47), zI K 900 (fun _ => 0)), ((v 42), zI K 210000 (fun _ => 0)), ((v 43), zI K 210000 (fun _ => 0)), ((v 25), zI K 60000 (fun _ => 0)), ((v 26), zI K 60000 (fun _ => 0)), ((v 27), zI K 60000 (fun _ => 0)), ((v 28), zI K 60000 (fun _ => 0)), ((v 29), zI K 60000 (fun _ => 0)), ((v 30), zI K 60000 (fun _ => 0)), ((v 31), zI K 60000 (fun _ => 0))] [(qo, zJ K 1 (va_up (fun _ => 0) 0 7))] [0, 17, 1, 2, 3, 13, 14, 15, 16, 11, 12, 4, 5, 6, 7, 8, 9, 10] [18] hP hD hS hA rfl rfl (by decide +kernel) (by decide +kernel) (by decide +kernel) 128 1867719 rfl rfl (fun hPc hDc hF => z_runV (As := [.int (nI t1), .int 2, .int (xs 3), .int (xs 4), .int 2, .int 0]) (rest := []) ⟨hx, hb, hml, hown, hg⟩ (cX12_run_14 l K H.size qm (v 49) (v 7) (v 8) (v 12) (v 44) (v 45) (v 46) (v 47) (v 42) (v 43) (v 25) (v 26) (v 27) (v 28) (v 29) (v 30) (v 31) (zc71 u v) (fun _ => 0) (fun _ => 0) (fun _ => 0) (fun _ => 0) (fun _ => 0) (fun _ => 0) (fun _ => 0) (fun _ => 0) (fun _ => 0) (fun _ => 0) (fun _ => 0) (fun _ => 0) (fun _ => 0) (fun _ => 0) (fun _ => 0) (fun _ => 0) (fun _ => 0) t1 ht1 (xs 3) (xs 4) (zc71_80 u v) (zc71_8 u v) (zc71_9 u v) (zc71_13 u v) (zc71_57 u v) (zc71_73 u v) (zc71_74 u v) (zc71_75 u v) (zc71_76 u v) (zc71_32 u v) (zc71_52 u v) (zc71_40 u v) (zc71_46 u v) (zc71_53 u v) (zc71_33 u v) rfl rfl rfl rfl rfl rfl rfl rfl rfl rfl rfl rfl rfl rfl rfl rfl (zc71_34 u v) rfl (zc71_35 u v) (zc71_36 u v) (zc71_37 u v) rfl (zc71_38 u v) (zc71_39 u v) rfl rfl rfl rfl rfl rfl rfl rfl rfl rfl rfl rfl rfl rfl rfl rfl rfl rfl rfl rfl rfl rfl rfl rfl rfl rfl rfl rfl rfl rfl rfl rfl rfl rfl rfl rfl rfl rfl rfl rfl rfl rfl rfl rfl rfl rfl) kV_RL_169 hd_X12_run rfl rfl ⟨(Nat.le_of_ble_eq_true rfl), (Nat.le_of_ble_eq_true rfl)⟩ hK hS hZ hPc hDc hF 0 rfl rfl rfl hl.1 rfl (Nat.le_of_ble_eq_true rfl) dL_law_1569 ⟨(Nat.le_of_ble_eq_true rfl), (Nat.le_of_ble_eq_true rfl)⟩) (fun r6 u4 H locs w5 hP hD hS => ?_)
  subst w5
  have hP : va_P K.1 classes [(qo, zJ K 1 (va_up (fun _ => 0) 0 7)), (qm, zO 10 83 (va_up (va_up (va_up (va_up (va_up (va_up (va_up (va_up (va_up (va_up (va_up (va_up (va_up (va_up (va_up (va_up (va_up (va_up (va_up (va_up (va_up (va_up (va_up (va_up (va_up (va_up (va_up (va_up (va_up (va_up (va_up (va_up (va_up (va_up (va_up (va_up (va_up (va_up (va_up (va_up (va_up (va_up (va_up (va_up (va_up (va_up (va_up (va_up (va_up (va_up (va_up (va_up (va_up (va_up (va_up (va_up (va_up (va_up (zc71 u v) 81 (.int 0)) 56 (.int 0)) 60 (.int 2)) 79 (.int 0)) 55 (.int 0)) 58 (.int 0)) 59 (.int 600)) 72 (.int 0)) 77 (.int 0)) 62 (.int 1280)) 63 (.int (-1))) 64 (.int 0)) 65 (.int 0)) 61 (.int (-1))) 58 (.int 1)) 72 (.int 1)) 62 (.int 1281)) 63 (.int (-1))) 64 (.int 0)) 65 (.int 0)) 61 (.int 7)) 72 (.int 0)) 54 (.int 0)) 54 (.int 1)) 54 (.int 2)) 54 (.int 3)) 54 (.int 4)) 54 (.int 5)) 54 (.int 6)) 54 (.int 7)) 54 (.int 8)) 54 (.int 9)) 54 (.int 10)) 54 (.int 11)) 54 (.int 12)) 54 (.int 13)) 54 (.int 14)) 54 (.int 15)) 54 (.int 16)) 54 (.int 15)) 54 (.int 14)) 54 (.int 13)) 54 (.int 12)) 54 (.int 11)) 54 (.int 10)) 54 (.int 9)) 54 (.int 8)) 54 (.int 7)) 54 (.int 6)) 54 (.int 5)) 54 (.int 4)) 54 (.int 3)) 54 (.int 2)) 54 (.int 1)) 54 (.int 0)) 32 (.int 16)) 40 (.int 0)) 46 (.int 0)))] H := hP
  have hD : va_D A [(qo, zJ K 1 (va_up (fun _ => 0) 0 7)), (qm, zO 10 83 (va_up (va_up (va_up (va_up (va_up (va_up (va_up (va_up (va_up (va_up (va_up (va_up (va_up (va_up (va_up (va_up (va_up (va_up (va_up (va_up (va_up (va_up (va_up (va_up (va_up (va_up (va_up (va_up (va_up (va_up (va_up (va_up (va_up (va_up (va_up (va_up (va_up (va_up (va_up (va_up (va_up (va_up (va_up (va_up (va_up (va_up (va_up (va_up (va_up (va_up (va_up (va_up (va_up (va_up (va_up (va_up (va_up (va_up (zc71 u v) 81 (.int 0)) 56 (.int 0)) 60 (.int 2)) 79 (.int 0)) 55 (.int 0)) 58 (.int 0)) 59 (.int 600)) 72 (.int 0)) 77 (.int 0)) 62 (.int 1280)) 63 (.int (-1))) 64 (.int 0)) 65 (.int 0)) 61 (.int (-1))) 58 (.int 1)) 72 (.int 1)) 62 (.int 1281)) 63 (.int (-1))) 64 (.int 0)) 65 (.int 0)) 61 (.int 7)) 72 (.int 0)) 54 (.int 0)) 54 (.int 1)) 54 (.int 2)) 54 (.int 3)) 54 (.int 4)) 54 (.int 5)) 54 (.int 6)) 54 (.int 7)) 54 (.int 8)) 54 (.int 9)) 54 (.int 10)) 54 (.int 11)) 54 (.int 12)) 54 (.int 13)) 54 (.int 14)) 54 (.int 15)) 54 (.int 16)) 54 (.int 15)) 54 (.int 14)) 54 (.int 13)) 54 (.int 12)) 54 (.int 11)) 54 (.int 10)) 54 (.int 9)) 54 (.int 8)) 54 (.int 7)) 54 (.int 6)) 54 (.int 5)) 54 (.int 4)) 54 (.int 3)) 54 (.int 2)) 54 (.int 1)) 54 (.int 0)) 32 (.int 16)) 40 (.int 0)) 46 (.int 0)))] := hD
  refine lv_istore (lv' := [(6, .int 7), (5, .int 0), (4, .int 0), (3, .ref qo), (2, .ref qm), (1, .ref qx), (0, .ref b)]) hx hb dL_law_1572 hl (by decide) rfl (fun ls hl => ?_)
  refine lv_aload_n hx hb dL_law_1574 rfl (lv_at hl 4 rfl) ?_
  refine z_calli [(qm, zO 10 83 (va_up (va_up (va_up (va_up (va_up (va_up (va_up (va_up (va_up (va_up (va_up (va_up (va_up (va_up (va_up (va_up (va_up (va_up (va_up (va_up (va_up (va_up (va_up (va_up (va_up (va_up (va_up (va_up (va_up (va_up (va_up (va_up (va_up (va_up (va_up (va_up (va_up (va_up (va_up (va_up (va_up (va_up (va_up (va_up (va_up (va_up (va_up (va_up (va_up (va_up (va_up (va_up (va_up (va_up (va_up (va_up (va_up (va_up (zc71 u v) 81 (.int 0)) 56 (.int 0)) 60 (.int 2)) 79 (.int 0)) 55 (.int 0)) 58 (.int 0)) 59 (.int 600)) 72 (.int 0)) 77 (.int 0)) 62 (.int 1280)) 63 (.int (-1))) 64 (.int 0)) 65 (.int 0)) 61 (.int (-1))) 58 (.int 1)) 72 (.int 1)) 62 (.int 1281)) 63 (.int (-1))) 64 (.int 0)) 65 (.int 0)) 61 (.int 7)) 72 (.int 0)) 54 (.int 0)) 54 (.int 1)) 54 (.int 2)) 54 (.int 3)) 54 (.int 4)) 54 (.int 5)) 54 (.int 6)) 54 (.int 7)) 54 (.int 8)) 54 (.int 9)) 54 (.int 10)) 54 (.int 11)) 54 (.int 12)) 54 (.int 13)) 54 (.int 14)) 54 (.int 15)) 54 (.int 16)) 54 (.int 15)) 54 (.int 14)) 54 (.int 13)) 54 (.int 12)) 54 (.int 11)) 54 (.int 10)) 54 (.int 9)) 54 (.int 8)) 54 (.int 7)) 54 (.int 6)) 54 (.int 5)) 54 (.int 4)) 54 (.int 3)) 54 (.int 2)) 54 (.int 1)) 54 (.int 0)) 32 (.int 16)) 40 (.int 0)) 46 (.int 0)))] [(qo, zJ K 1 (va_up (fun _ => 0) 0 7))] [1] [0] hP hD hS hA rfl rfl (by decide +kernel) (by decide +kernel) (by decide +kernel) 128 1867719 rfl rfl (fun hPc hDc hF => z_runV (As := []) (rest := []) ⟨hx, hb, hml, hown, hg⟩ (cX12_thrown_1 l K H.size qm (va_up (va_up (va_up (va_up (va_up (va_up (va_up (va_up (va_up (va_up (va_up (va_up (va_up (va_up (va_up (va_up (va_up (va_up (va_up (va_up (va_up (va_up (va_up (va_up (va_up (va_up (va_up (va_up (va_up (va_up (va_up (va_up (va_up (va_up (va_up (va_up (va_up (va_up (va_up (va_up (va_up (va_up (va_up (va_up (va_up (va_up (va_up (va_up (va_up (va_up (va_up (va_up (va_up (va_up (va_up (va_up (va_up (va_up (zc71 u v) 81 (.int 0)) 56 (.int 0)) 60 (.int 2)) 79 (.int 0)) 55 (.int 0)) 58 (.int 0)) 59 (.int 600)) 72 (.int 0)) 77 (.int 0)) 62 (.int 1280)) 63 (.int (-1))) 64 (.int 0)) 65 (.int 0)) 61 (.int (-1))) 58 (.int 1)) 72 (.int 1)) 62 (.int 1281)) 63 (.int (-1))) 64 (.int 0)) 65 (.int 0)) 61 (.int 7)) 72 (.int 0)) 54 (.int 0)) 54 (.int 1)) 54 (.int 2)) 54 (.int 3)) 54 (.int 4)) 54 (.int 5)) 54 (.int 6)) 54 (.int 7)) 54 (.int 8)) 54 (.int 9)) 54 (.int 10)) 54 (.int 11)) 54 (.int 12)) 54 (.int 13)) 54 (.int 14)) 54 (.int 15)) 54 (.int 16)) 54 (.int 15)) 54 (.int 14)) 54 (.int 13)) 54 (.int 12)) 54 (.int 11)) 54 (.int 10)) 54 (.int 9)) 54 (.int 8)) 54 (.int 7)) 54 (.int 6)) 54 (.int 5)) 54 (.int 4)) 54 (.int 3)) 54 (.int 2)) 54 (.int 1)) 54 (.int 0)) 32 (.int 16)) 40 (.int 0)) 46 (.int 0)) (zu_ne (by decide) (zu_ne (by decide) (zu_ne (by decide) (zu_ne (by decide) (zu_ne (by decide) (zu_ne (by decide) (zu_ne (by decide) (zu_ne (by decide) (zu_ne (by decide) (zu_ne (by decide) (zu_ne (by decide) (zu_ne (by decide) (zu_ne (by decide) (zu_ne (by decide) (zu_ne (by decide) (zu_ne (by decide) (zu_ne (by decide) (zu_ne (by decide) (zu_ne (by decide) (zu_ne (by decide) (zu_ne (by decide) (zu_ne (by decide) (zu_ne (by decide) (zu_ne (by decide) (zu_ne (by decide) (zu_ne (by decide) (zu_ne (by decide) (zu_ne (by decide) (zu_ne (by decide) (zu_ne (by decide) (zu_ne (by decide) (zu_ne (by decide) (zu_ne (by decide) (zu_ne (by decide) (zu_ne (by decide) (zu_ne (by decide) (zu_ne (by decide) (zu_ne (by decide) (zu_ne (by decide) (zu_ne (by decide) (zu_ne (by decide) (zu_ne (by decide) (zu_ne (by decide) (zu_ne (by decide) (zu_ne (by decide) (zu_ne (by decide) (zu_ne (by decide) (zu_ne (by decide) (zu_ne (by decide) (zu_ne (by decide) (zu_ne (by decide) (zu_ne (by decide) (zu_ne (by decide) (zu_ne (by decide) (zu_ne (by decide) (zu_ne (by decide) (zu_ne (by decide) zu_eq)))))))))))))))))))))))))))))))))))))))))))))))))))))))))) kV_RL_104 hd_X12_thrown rfl rfl ⟨(Nat.le_of_ble_eq_true rfl), (Nat.le_of_ble_eq_true rfl)⟩ hK hS hZ hPc hDc hF 0 rfl rfl rfl hl.1 rfl (Nat.le_of_ble_eq_true rfl) dL_law_1575 ⟨(Nat.le_of_ble_eq_true rfl), (Nat.le_of_ble_eq_true rfl)⟩) (fun r9 u7 H locs w8 hP hD hS => ?_)
  subst w8
  have hP : va_P K.1 classes [(qo, zJ K 1 (va_up (fun _ => 0) 0 7)), (qm, zO 10 83 (va_up (va_up (va_up (va_up (va_up (va_up (va_up (va_up (va_up (va_up (va_up (va_up (va_up (va_up (va_up (va_up (va_up (va_up (va_up (va_up (va_up (va_up (va_up (va_up (va_up (va_up (va_up (va_up (va_up (va_up (va_up (va_up (va_up (va_up (va_up (va_up (va_up (va_up (va_up (va_up (va_up (va_up (va_up (va_up (va_up (va_up (va_up (va_up (va_up (va_up (va_up (va_up (va_up (va_up (va_up (va_up (va_up (va_up (zc71 u v) 81 (.int 0)) 56 (.int 0)) 60 (.int 2)) 79 (.int 0)) 55 (.int 0)) 58 (.int 0)) 59 (.int 600)) 72 (.int 0)) 77 (.int 0)) 62 (.int 1280)) 63 (.int (-1))) 64 (.int 0)) 65 (.int 0)) 61 (.int (-1))) 58 (.int 1)) 72 (.int 1)) 62 (.int 1281)) 63 (.int (-1))) 64 (.int 0)) 65 (.int 0)) 61 (.int 7)) 72 (.int 0)) 54 (.int 0)) 54 (.int 1)) 54 (.int 2)) 54 (.int 3)) 54 (.int 4)) 54 (.int 5)) 54 (.int 6)) 54 (.int 7)) 54 (.int 8)) 54 (.int 9)) 54 (.int 10)) 54 (.int 11)) 54 (.int 12)) 54 (.int 13)) 54 (.int 14)) 54 (.int 15)) 54 (.int 16)) 54 (.int 15)) 54 (.int 14)) 54 (.int 13)) 54 (.int 12)) 54 (.int 11)) 54 (.int 10)) 54 (.int 9)) 54 (.int 8)) 54 (.int 7)) 54 (.int 6)) 54 (.int 5)) 54 (.int 4)) 54 (.int 3)) 54 (.int 2)) 54 (.int 1)) 54 (.int 0)) 32 (.int 16)) 40 (.int 0)) 46 (.int 0)))] H := hP
  have hD : va_D A [(qo, zJ K 1 (va_up (fun _ => 0) 0 7)), (qm, zO 10 83 (va_up (va_up (va_up (va_up (va_up (va_up (va_up (va_up (va_up (va_up (va_up (va_up (va_up (va_up (va_up (va_up (va_up (va_up (va_up (va_up (va_up (va_up (va_up (va_up (va_up (va_up (va_up (va_up (va_up (va_up (va_up (va_up (va_up (va_up (va_up (va_up (va_up (va_up (va_up (va_up (va_up (va_up (va_up (va_up (va_up (va_up (va_up (va_up (va_up (va_up (va_up (va_up (va_up (va_up (va_up (va_up (va_up (va_up (zc71 u v) 81 (.int 0)) 56 (.int 0)) 60 (.int 2)) 79 (.int 0)) 55 (.int 0)) 58 (.int 0)) 59 (.int 600)) 72 (.int 0)) 77 (.int 0)) 62 (.int 1280)) 63 (.int (-1))) 64 (.int 0)) 65 (.int 0)) 61 (.int (-1))) 58 (.int 1)) 72 (.int 1)) 62 (.int 1281)) 63 (.int (-1))) 64 (.int 0)) 65 (.int 0)) 61 (.int 7)) 72 (.int 0)) 54 (.int 0)) 54 (.int 1)) 54 (.int 2)) 54 (.int 3)) 54 (.int 4)) 54 (.int 5)) 54 (.int 6)) 54 (.int 7)) 54 (.int 8)) 54 (.int 9)) 54 (.int 10)) 54 (.int 11)) 54 (.int 12)) 54 (.int 13)) 54 (.int 14)) 54 (.int 15)) 54 (.int 16)) 54 (.int 15)) 54 (.int 14)) 54 (.int 13)) 54 (.int 12)) 54 (.int 11)) 54 (.int 10)) 54 (.int 9)) 54 (.int 8)) 54 (.int 7)) 54 (.int 6)) 54 (.int 5)) 54 (.int 4)) 54 (.int 3)) 54 (.int 2)) 54 (.int 1)) 54 (.int 0)) 32 (.int 16)) 40 (.int 0)) 46 (.int 0)))] := hD
  refine lv_iload hx hb dL_law_1578 (lv_at hl 1 rfl) ?_
  refine lv_icmp_eq (tgt := 1585) hx hb dL_law_1580 (by decide) (fun _ => ?_) (fun c => absurd (by decide) c)
  refine lv_iload hx hb dL_law_1585 (lv_at hl 1 rfl) ?_
  refine lv_if_ne (tgt := 1602) hx hb dL_law_1587 (by decide) (fun c => absurd (by decide) c) (fun _ => ?_)
  refine lv_aload_n hx hb dL_law_1590 rfl (lv_at hl 3 rfl) ?_
  refine lv_iconst (v := 0) hx hb dL_law_1591 (by decide) ?_
  refine z_lald (v := 7) (j := 0) hx hb hK hP 0 rfl rfl (Nat.le_of_ble_eq_true rfl) (Nat.le_of_ble_eq_true rfl) zu_eq dL_law_1592 ?_
  refine lv_iload hx hb dL_law_1593 (lv_at hl 0 rfl) ?_
  refine lv_i2l hx hb dL_law_1595 rfl ?_
  refine z_cstl (v := 7) (by decide +kernel) ?_
  refine W.lcmp hx hb dL_law_1596 ?_
  refine z_cst (v := 0) (by decide +kernel) ?_
  refine lv_if_eq (tgt := 1602) hx hb dL_law_1597 (by decide) (fun _ => ?_) (fun c => absurd (by decide) c)
  refine lv_goto (tgt := 2026) hx hb dL_law_1602 (by decide) ?_
  exact law_back ⟨hx, hb, hr, hml, hown, hg, hX, hbl, hlocks, hK, hZ, hl9, hAA, hA, hbA⟩ (Nat.le_of_ble_eq_true rfl) (Nat.le_of_ble_eq_true rfl) hS (lv_sub hl [2, 6] rfl)
set_option maxHeartbeats 4000000 in
set_option maxRecDepth 100000 in
theorem lawS_19_14 {p : Program} {l : Launch} {e : Env} {s : State} {m : MethodId} {below : List Frame} {meth : Method} {c : Code} {b : Nat} {xs : Nat → Int32} {K : zK} {A : Nat → Prop} {H : Heap} {locs : List Loc} {ls : Array Slot} (C : zC p l s m meth c b xs K A) (qx qm qo : Nat) (u v : Nat → Nat) (h0 : xs 6 = 0) (h1 : 0 ≤ (xs 5).toInt) (h2 : (xs 5).toInt < 601) (h3 : 0 ≤ (xs 1).toInt) (h4 : (xs 1).toInt < 8) (h5 : 0 ≤ (xs 2).toInt) (h6 : (xs 2).toInt < 3) (h7 : ¬ xs 5 = 1) (h8 : 1 ≤ (xs 2).toInt) (h9 : 2 ≤ (xs 2).toInt) (h10 : ¬ xs 5 = 2) (h11 : xs 5 = 3) (hP : va_P K.1 classes (lwW K qx qm qo u v) H) (hD : va_D A (lwW K qx qm qo u v)) (hS : va_S A s.heap H locs) (hl : lv_has ls 7 [(4, .int 0), (3, .ref qo), (2, .ref qm), (1, .ref qx), (0, .ref b)]) : W p l e room_1 s m #[Value.ref b] below meth c H locs 124 1863516 (lw_Z below #[Value.ref b] s) (F0 m 1471 ls []) := by
  obtain ⟨hx, hb, hr, hml, hown, hg, hX, hbl, hlocks, hK, hZ, hl9, hAA, hA, hbA⟩ := C
  have hP : va_P K.1 classes [(qx, zO 9 9 (zc0 u v)), ((u 8), zO 4 6 (zc9 u v)), ((u 9), zO 7 6 (zc10 u v)), ((u 10), zI K 645 (fun _ => 0)), ((u 11), zI K 645 (fun _ => 0)), ((u 12), zI K 645 (fun _ => 0)), ((u 13), zI K 645 (fun _ => 0)), ((u 14), zI K 1935 (fun _ => 0)), ((u 16), zI K 8 (fun _ => 0)), ((u 20), zO 4 6 (zc21 u v)), ((u 28), zI K 8 (fun _ => 0)), ((u 59), zO 1 18 (zc60 u v)), ((u 60), zO 3 7 (zc61 u v)), ((u 61), zR K 512 (fun _ => none)), ((u 62), zO 2 6 (zc63 u v)), ((u 63), zI K 608 (fun _ => 0)), ((u 64), zI K 608 (fun _ => 0)), ((u 65), zI K 608 (fun _ => 0)), ((u 66), zI K 608 (fun _ => 0)), ((u 67), zI K 608 (fun _ => 0)), ((u 68), zI K 10 (fun _ => 0)), (qm, zO 10 83 (zc71 u v)), ((v 7), zI K 1290 (fun _ => 0)), ((v 8), zI K 1290 (fun _ => 0)), ((v 12), zI K 1290 (fun _ => 0)), ((v 25), zI K 60000 (fun _ => 0)), ((v 26), zI K 60000 (fun _ => 0)), ((v 27), zI K 60000 (fun _ => 0)), ((v 28), zI K 60000 (fun _ => 0)), ((v 29), zI K 60000 (fun _ => 0)), ((v 30), zI K 60000 (fun _ => 0)), ((v 31), zI K 60000 (fun _ => 0)), ((v 42), zI K 210000 (fun _ => 0)), ((v 43), zI K 210000 (fun _ => 0)), ((v 44), zI K 900 (fun _ => 0)), ((v 45), zI K 900 (fun _ => 0)), ((v 46), zI K 900 (fun _ => 0)), ((v 47), zI K 900 (fun _ => 0)), ((v 49), zI K 10 (fun _ => 0)), (qo, zJ K 1 (fun _ => 0))] H := hP.sub [0, 9, 10, 11, 12, 13, 14, 15, 17, 21, 29, 60, 61, 62, 63, 64, 65, 66, 67, 68, 69, 71, 79, 80, 84, 97, 98, 99, 100, 101, 102, 103, 114, 115, 116, 117, 118, 119, 121, 123] rfl
  have hD : va_D A [(qx, zO 9 9 (zc0 u v)), ((u 8), zO 4 6 (zc9 u v)), ((u 9), zO 7 6 (zc10 u v)), ((u 10), zI K 645 (fun _ => 0)), ((u 11), zI K 645 (fun _ => 0)), ((u 12), zI K 645 (fun _ => 0)), ((u 13), zI K 645 (fun _ => 0)), ((u 14), zI K 1935 (fun _ => 0)), ((u 16), zI K 8 (fun _ => 0)), ((u 20), zO 4 6 (zc21 u v)), ((u 28), zI K 8 (fun _ => 0)), ((u 59), zO 1 18 (zc60 u v)), ((u 60), zO 3 7 (zc61 u v)), ((u 61), zR K 512 (fun _ => none)), ((u 62), zO 2 6 (zc63 u v)), ((u 63), zI K 608 (fun _ => 0)), ((u 64), zI K 608 (fun _ => 0)), ((u 65), zI K 608 (fun _ => 0)), ((u 66), zI K 608 (fun _ => 0)), ((u 67), zI K 608 (fun _ => 0)), ((u 68), zI K 10 (fun _ => 0)), (qm, zO 10 83 (zc71 u v)), ((v 7), zI K 1290 (fun _ => 0)), ((v 8), zI K 1290 (fun _ => 0)), ((v 12), zI K 1290 (fun _ => 0)), ((v 25), zI K 60000 (fun _ => 0)), ((v 26), zI K 60000 (fun _ => 0)), ((v 27), zI K 60000 (fun _ => 0)), ((v 28), zI K 60000 (fun _ => 0)), ((v 29), zI K 60000 (fun _ => 0)), ((v 30), zI K 60000 (fun _ => 0)), ((v 31), zI K 60000 (fun _ => 0)), ((v 42), zI K 210000 (fun _ => 0)), ((v 43), zI K 210000 (fun _ => 0)), ((v 44), zI K 900 (fun _ => 0)), ((v 45), zI K 900 (fun _ => 0)), ((v 46), zI K 900 (fun _ => 0)), ((v 47), zI K 900 (fun _ => 0)), ((v 49), zI K 10 (fun _ => 0)), (qo, zJ K 1 (fun _ => 0))] := hD.sub [0, 9, 10, 11, 12, 13, 14, 15, 17, 21, 29, 60, 61, 62, 63, 64, 65, 66, 67, 68, 69, 71, 79, 80, 84, 97, 98, 99, 100, 101, 102, 103, 114, 115, 116, 117, 118, 119, 121, 123] (by decide +kernel) rfl
  obtain ⟨t1, ht1, v1⟩ : ∃ j : Nat, j < 8 ∧ xs 1 = nI j := z_nat (n := 8) (by omega) (by omega) (by decide)
  have v2 : xs 2 = 2 := z_lit (by rw [show (2 : Int32).toInt = 2 from by decide]; omega)
  refine lv_aload_n hx hb dL_law_1471 rfl (lv_at hl 3 rfl) ?_
  refine lv_aload_n hx hb dL_law_1472 rfl (lv_at hl 4 rfl) ?_
  refine lv_iload hx hb dL_law_1473 (lv_at hl 0 rfl) ?_
  refine lv_iconst (v := 1) hx hb dL_law_1475 (by decide) ?_
  refine lv_iadd hx hb dL_law_1476 ?_
  refine z_cst (v := 1) (by decide +kernel) ?_
  refine z_sld (v := (nI t1)) (j := 1) hx hb hX hbl hbA hS rfl (Nat.le_of_ble_eq_true rfl) v1 dL_law_1477 ?_
  refine lv_aload_n hx hb dL_law_1478 rfl (lv_at hl 4 rfl) ?_
  refine lv_iload hx hb dL_law_1479 (lv_at hl 0 rfl) ?_
  refine lv_iconst (v := 2) hx hb dL_law_1481 (by decide) ?_
  refine lv_iadd hx hb dL_law_1482 ?_
  refine z_cst (v := 2) (by decide +kernel) ?_
  refine z_sld (v := 2) (j := 2) hx hb hX hbl hbA hS rfl (Nat.le_of_ble_eq_true rfl) v2 dL_law_1483 ?_
  refine lv_aload_n hx hb dL_law_1484 rfl (lv_at hl 4 rfl) ?_
  refine lv_iload hx hb dL_law_1485 (lv_at hl 0 rfl) ?_
  refine lv_iconst (v := 3) hx hb dL_law_1487 (by decide) ?_
  refine lv_iadd hx hb dL_law_1488 ?_
  refine z_cst (v := 3) (by decide +kernel) ?_
  refine z_sld (v := (xs 3)) (j := 3) hx hb hX hbl hbA hS rfl (Nat.le_of_ble_eq_true rfl) rfl dL_law_1489 ?_
  refine lv_aload_n hx hb dL_law_1490 rfl (lv_at hl 4 rfl) ?_
  refine lv_iload hx hb dL_law_1491 (lv_at hl 0 rfl) ?_
  refine lv_iconst (v := 4) hx hb dL_law_1493 (by decide) ?_
  refine lv_iadd hx hb dL_law_1494 ?_
  refine z_cst (v := 4) (by decide +kernel) ?_
  refine z_sld (v := (xs 4)) (j := 4) hx hb hX hbl hbA hS rfl (Nat.le_of_ble_eq_true rfl) rfl dL_law_1495 ?_
  refine lv_aload_n hx hb dL_law_1496 rfl (lv_at hl 4 rfl) ?_
  refine lv_iload hx hb dL_law_1497 (lv_at hl 0 rfl) ?_
  refine lv_iconst (v := 5) hx hb dL_law_1499 (by decide) ?_
  refine lv_iadd hx hb dL_law_1500 ?_
  refine z_cst (v := 5) (by decide +kernel) ?_
  refine z_sld (v := 3) (j := 5) hx hb hX hbl hbA hS rfl (Nat.le_of_ble_eq_true rfl) h11 dL_law_1501 ?_
  refine lv_aload_n hx hb dL_law_1502 rfl (lv_at hl 4 rfl) ?_
  refine lv_iload hx hb dL_law_1503 (lv_at hl 0 rfl) ?_
  refine lv_bipush (v := 6) hx hb dL_law_1505 (by decide) ?_
  refine lv_iadd hx hb dL_law_1507 ?_
  refine z_cst (v := 6) (by decide +kernel) ?_
  refine z_sld (v := 0) (j := 6) hx hb hX hbl hbA hS rfl (Nat.le_of_ble_eq_true rfl) h0 dL_law_1508 ?_
  refine lv_if_eq (tgt := 1516) hx hb dL_law_1509 (by decide) (fun _ => ?_) (fun c => absurd (by decide) c)
  refine lv_iconst (v := 0) hx hb dL_law_1516 (by decide) ?_
  refine lv_aload_n hx hb dL_law_1517 rfl (lv_at hl 1 rfl) ?_
  refine z_hcalli [(qx, zO 9 9 (zc0 u v)), ((u 8), zO 4 6 (zc9 u v)), ((u 9), zO 7 6 (zc10 u v)), ((u 10), zI K 645 (fun _ => 0)), ((u 11), zI K 645 (fun _ => 0)), ((u 12), zI K 645 (fun _ => 0)), ((u 13), zI K 645 (fun _ => 0)), ((u 14), zI K 1935 (fun _ => 0)), ((u 59), zO 1 18 (zc60 u v)), ((u 60), zO 3 7 (zc61 u v)), ((u 16), zI K 8 (fun _ => 0)), ((u 20), zO 4 6 (zc21 u v)), ((u 28), zI K 8 (fun _ => 0)), ((u 61), zR K 512 (fun _ => none)), ((u 62), zO 2 6 (zc63 u v)), ((u 68), zI K 10 (fun _ => 0)), ((u 63), zI K 608 (fun _ => 0)), ((u 64), zI K 608 (fun _ => 0)), ((u 65), zI K 608 (fun _ => 0)), ((u 66), zI K 608 (fun _ => 0)), ((u 67), zI K 608 (fun _ => 0)), (qo, zJ K 1 (fun _ => 0))] [(qm, zO 10 83 (zc71 u v)), ((v 7), zI K 1290 (fun _ => 0)), ((v 8), zI K 1290 (fun _ => 0)), ((v 12), zI K 1290 (fun _ => 0)), ((v 25), zI K 60000 (fun _ => 0)), ((v 26), zI K 60000 (fun _ => 0)), ((v 27), zI K 60000 (fun _ => 0)), ((v 28), zI K 60000 (fun _ => 0)), ((v 29), zI K 60000 (fun _ => 0)), ((v 30), zI K 60000 (fun _ => 0)), ((v 31), zI K 60000 (fun _ => 0)), ((v 42), zI K 210000 (fun _ => 0)), ((v 43), zI K 210000 (fun _ => 0)), ((v 44), zI K 900 (fun _ => 0)), ((v 45), zI K 900 (fun _ => 0)), ((v 46), zI K 900 (fun _ => 0)), ((v 47), zI K 900 (fun _ => 0)), ((v 49), zI K 10 (fun _ => 0))] [0, 1, 2, 3, 4, 5, 6, 7, 11, 12, 8, 9, 10, 13, 14, 20, 15, 16, 17, 18, 19, 39] [21, 22, 23, 24, 25, 26, 27, 28, 29, 30, 31, 32, 33, 34, 35, 36, 37, 38] hP hD hS hA rfl rfl (by decide +kernel) (by decide +kernel) (by decide +kernel) 128 1867719 rfl rfl (fun hPc hDc hF => z_xrunH (As := [.ref qx, .int (nI t1), .int 2, .int (xs 3), .int (xs 4), .int 3, .int 0, .ref qo]) (rest := []) ⟨hx, hb, hml, hown, hg⟩ (cL_run_15 l hl9 K H.size qx qo (u 8) (u 9) (u 10) (u 11) (u 12) (u 13) (u 14) (u 59) (u 60) (u 16) (u 20) (u 28) (u 61) (u 62) (u 68) (u 63) (u 64) (u 65) (u 66) (u 67) (zc0 u v) (zc9 u v) (zc10 u v) (fun _ => 0) (fun _ => 0) (fun _ => 0) (fun _ => 0) (fun _ => 0) (zc60 u v) (zc61 u v) (fun _ => 0) (zc21 u v) (fun _ => 0) (fun _ => none) (zc63 u v) (fun _ => 0) (fun _ => 0) (fun _ => 0) (fun _ => 0) (fun _ => 0) (fun _ => 0) (fun _ => 0) t1 ht1 (xs 3) (xs 4) (zc0_3 u v) (zc9_0 u v) (zc10_5 u v) (zc10_0 u v) (zc10_1 u v) (zc10_2 u v) (zc10_3 u v) (zc10_4 u v) (zc0_7 u v) (zc60_0 u v) (zc61_6 u v) (zc61_4 u v) (zc61_0 u v) (zc9_2 u v) rfl rfl rfl rfl rfl rfl rfl rfl (zc61_1 u v) (zc21_2 u v) rfl rfl rfl rfl rfl rfl rfl rfl (zc61_3 u v) (zc61_2 u v) (zc60_1 u v) (zc60_2 u v) (zc63_0 u v) (zc63_1 u v) (zc63_2 u v) (zc63_3 u v) (zc63_4 u v)) kS_RL_166 hd_L_run rfl rfl ⟨(Nat.le_of_ble_eq_true rfl), (Nat.le_of_ble_eq_true rfl)⟩ hK hS hZ hPc hDc hF rfl hl.1 rfl (Nat.le_of_ble_eq_true rfl) dL_law_1518 ⟨(Nat.le_of_ble_eq_true rfl), (Nat.le_of_ble_eq_true rfl)⟩) (fun r3 u1 H locs w2 hP hD hS => ?_)
  subst w2
  have hP : va_P K.1 classes [(qm, zO 10 83 (zc71 u v)), ((v 7), zI K 1290 (fun _ => 0)), ((v 8), zI K 1290 (fun _ => 0)), ((v 12), zI K 1290 (fun _ => 0)), ((v 25), zI K 60000 (fun _ => 0)), ((v 26), zI K 60000 (fun _ => 0)), ((v 27), zI K 60000 (fun _ => 0)), ((v 28), zI K 60000 (fun _ => 0)), ((v 29), zI K 60000 (fun _ => 0)), ((v 30), zI K 60000 (fun _ => 0)), ((v 31), zI K 60000 (fun _ => 0)), ((v 42), zI K 210000 (fun _ => 0)), ((v 43), zI K 210000 (fun _ => 0)), ((v 44), zI K 900 (fun _ => 0)), ((v 45), zI K 900 (fun _ => 0)), ((v 46), zI K 900 (fun _ => 0)), ((v 47), zI K 900 (fun _ => 0)), ((v 49), zI K 10 (fun _ => 0)), (qo, zJ K 1 (va_up (fun _ => 0) 0 7))] H := hP
  have hD : va_D A [(qm, zO 10 83 (zc71 u v)), ((v 7), zI K 1290 (fun _ => 0)), ((v 8), zI K 1290 (fun _ => 0)), ((v 12), zI K 1290 (fun _ => 0)), ((v 25), zI K 60000 (fun _ => 0)), ((v 26), zI K 60000 (fun _ => 0)), ((v 27), zI K 60000 (fun _ => 0)), ((v 28), zI K 60000 (fun _ => 0)), ((v 29), zI K 60000 (fun _ => 0)), ((v 30), zI K 60000 (fun _ => 0)), ((v 31), zI K 60000 (fun _ => 0)), ((v 42), zI K 210000 (fun _ => 0)), ((v 43), zI K 210000 (fun _ => 0)), ((v 44), zI K 900 (fun _ => 0)), ((v 45), zI K 900 (fun _ => 0)), ((v 46), zI K 900 (fun _ => 0)), ((v 47), zI K 900 (fun _ => 0)), ((v 49), zI K 10 (fun _ => 0)), (qo, zJ K 1 (va_up (fun _ => 0) 0 7))] := hD
  refine lv_istore (lv' := [(5, .int 0), (4, .int 0), (3, .ref qo), (2, .ref qm), (1, .ref qx), (0, .ref b)]) hx hb dL_law_1521 hl (by decide) rfl (fun ls hl => ?_)
  refine lv_aload_n hx hb dL_law_1523 rfl (lv_at hl 3 rfl) ?_
  refine lv_aload_n hx hb dL_law_1524 rfl (lv_at hl 5 rfl) ?_
  refine lv_iload hx hb dL_law_1525 (lv_at hl 1 rfl) ?_
  refine lv_iconst (v := 1) hx hb dL_law_1527 (by decide) ?_
  refine lv_iadd hx hb dL_law_1528 ?_
  refine z_cst (v := 1) (by decide +kernel) ?_
  refine z_sld (v := (nI t1)) (j := 1) hx hb hX hbl hbA hS rfl (Nat.le_of_ble_eq_true rfl) v1 dL_law_1529 ?_
  refine lv_aload_n hx hb dL_law_1530 rfl (lv_at hl 5 rfl) ?_
  refine lv_iload hx hb dL_law_1531 (lv_at hl 1 rfl) ?_
  refine lv_iconst (v := 2) hx hb dL_law_1533 (by decide) ?_
  refine lv_iadd hx hb dL_law_1534 ?_
  refine z_cst (v := 2) (by decide +kernel) ?_
  refine z_sld (v := 2) (j := 2) hx hb hX hbl hbA hS rfl (Nat.le_of_ble_eq_true rfl) v2 dL_law_1535 ?_
  refine lv_aload_n hx hb dL_law_1536 rfl (lv_at hl 5 rfl) ?_
  refine lv_iload hx hb dL_law_1537 (lv_at hl 1 rfl) ?_
  refine lv_iconst (v := 3) hx hb dL_law_1539 (by decide) ?_
  refine lv_iadd hx hb dL_law_1540 ?_
  refine z_cst (v := 3) (by decide +kernel) ?_
  refine z_sld (v := (xs 3)) (j := 3) hx hb hX hbl hbA hS rfl (Nat.le_of_ble_eq_true rfl) rfl dL_law_1541 ?_
  refine lv_aload_n hx hb dL_law_1542 rfl (lv_at hl 5 rfl) ?_
  refine lv_iload hx hb dL_law_1543 (lv_at hl 1 rfl) ?_
  refine lv_iconst (v := 4) hx hb dL_law_1545 (by decide) ?_
  refine lv_iadd hx hb dL_law_1546 ?_
  refine z_cst (v := 4) (by decide +kernel) ?_
  refine z_sld (v := (xs 4)) (j := 4) hx hb hX hbl hbA hS rfl (Nat.le_of_ble_eq_true rfl) rfl dL_law_1547 ?_
  refine lv_aload_n hx hb dL_law_1548 rfl (lv_at hl 5 rfl) ?_
  refine lv_iload hx hb dL_law_1549 (lv_at hl 1 rfl) ?_
  refine lv_iconst (v := 5) hx hb dL_law_1551 (by decide) ?_
  refine lv_iadd hx hb dL_law_1552 ?_
  refine z_cst (v := 5) (by decide +kernel) ?_
  refine z_sld (v := 3) (j := 5) hx hb hX hbl hbA hS rfl (Nat.le_of_ble_eq_true rfl) h11 dL_law_1553 ?_
  refine lv_aload_n hx hb dL_law_1554 rfl (lv_at hl 5 rfl) ?_
  refine lv_iload hx hb dL_law_1555 (lv_at hl 1 rfl) ?_
  refine lv_bipush (v := 6) hx hb dL_law_1557 (by decide) ?_
  refine lv_iadd hx hb dL_law_1559 ?_
  refine z_cst (v := 6) (by decide +kernel) ?_
  refine z_sld (v := 0) (j := 6) hx hb hX hbl hbA hS rfl (Nat.le_of_ble_eq_true rfl) h0 dL_law_1560 ?_
  refine lv_if_eq (tgt := 1568) hx hb dL_law_1561 (by decide) (fun _ => ?_) (fun c => absurd (by decide) c)
  refine lv_iconst (v := 0) hx hb dL_law_1568 (by decide) ?_
  refine z_calli [(qm, zO 10 83 (zc71 u v)), ((v 49), zI K 10 (fun _ => 0)), ((v 7), zI K 1290 (fun _ => 0)), ((v 8), zI K 1290 (fun _ => 0)), ((v 12), zI K 1290 (fun _ => 0)), ((v 44), zI K 900 (fun _ => 0)), ((v 45), zI K 900 (fun _ => 0)), ((v 46), zI K 900 (fun _ => 0)), ((v 47), zI K 900 (fun _ => 0)), ((v 42), zI K 210000 (fun _ => 0)), ((v 43), zI K 210000 (fun _ => 0)), ((v 25), zI K 60000 (fun _ => 0)), ((v 26), zI K 60000 (fun _ => 0)), ((v 27), zI K 60000 (fun _ => 0)), ((v 28), zI K 60000 (fun _ => 0)), ((v 29), zI K 60000 (fun _ => 0)), ((v 30), zI K 60000 (fun _ => 0)), ((v 31), zI K 60000 (fun _ => 0))] [(qo, zJ K 1 (va_up (fun _ => 0) 0 7))] [0, 17, 1, 2, 3, 13, 14, 15, 16, 11, 12, 4, 5, 6, 7, 8, 9, 10] [18] hP hD hS hA rfl rfl (by decide +kernel) (by decide +kernel) (by decide +kernel) 128 1867719 rfl rfl (fun hPc hDc hF => z_runV (As := [.int (nI t1), .int 2, .int (xs 3), .int (xs 4), .int 3, .int 0]) (rest := []) ⟨hx, hb, hml, hown, hg⟩ (cX12_run_15 l K H.size qm (v 49) (v 7) (v 8) (v 12) (v 44) (v 45) (v 46) (v 47) (v 42) (v 43) (v 25) (v 26) (v 27) (v 28) (v 29) (v 30) (v 31) (zc71 u v) (fun _ => 0) (fun _ => 0) (fun _ => 0) (fun _ => 0) (fun _ => 0) (fun _ => 0) (fun _ => 0) (fun _ => 0) (fun _ => 0) (fun _ => 0) (fun _ => 0) (fun _ => 0) (fun _ => 0) (fun _ => 0) (fun _ => 0) (fun _ => 0) (fun _ => 0) t1 ht1 (xs 3) (xs 4) (zc71_80 u v) (zc71_8 u v) (zc71_9 u v) (zc71_13 u v) (zc71_57 u v) (zc71_73 u v) (zc71_74 u v) (zc71_75 u v) (zc71_76 u v) (zc71_32 u v) (zc71_52 u v) (zc71_40 u v) (zc71_46 u v) (zc71_53 u v) (zc71_33 u v) rfl rfl rfl rfl rfl rfl rfl rfl rfl rfl rfl rfl rfl rfl rfl rfl (zc71_34 u v) rfl (zc71_35 u v) (zc71_36 u v) (zc71_37 u v) rfl (zc71_38 u v) (zc71_39 u v) rfl rfl rfl rfl rfl rfl rfl rfl rfl rfl rfl rfl rfl rfl rfl rfl rfl rfl rfl rfl rfl rfl rfl rfl rfl rfl rfl rfl rfl rfl rfl rfl rfl rfl rfl rfl rfl rfl rfl rfl rfl rfl rfl rfl rfl rfl) kV_RL_169 hd_X12_run rfl rfl ⟨(Nat.le_of_ble_eq_true rfl), (Nat.le_of_ble_eq_true rfl)⟩ hK hS hZ hPc hDc hF 0 rfl rfl rfl hl.1 rfl (Nat.le_of_ble_eq_true rfl) dL_law_1569 ⟨(Nat.le_of_ble_eq_true rfl), (Nat.le_of_ble_eq_true rfl)⟩) (fun r6 u4 H locs w5 hP hD hS => ?_)
  subst w5
  have hP : va_P K.1 classes [(qo, zJ K 1 (va_up (fun _ => 0) 0 7)), (qm, zO 10 83 (va_up (va_up (va_up (va_up (va_up (va_up (va_up (va_up (va_up (va_up (va_up (va_up (va_up (va_up (va_up (va_up (va_up (va_up (va_up (va_up (va_up (va_up (va_up (va_up (va_up (va_up (va_up (va_up (va_up (va_up (va_up (va_up (va_up (va_up (va_up (va_up (va_up (va_up (va_up (va_up (va_up (va_up (va_up (va_up (va_up (va_up (va_up (va_up (va_up (va_up (va_up (va_up (va_up (va_up (va_up (va_up (va_up (va_up (va_up (va_up (va_up (va_up (va_up (va_up (va_up (zc71 u v) 81 (.int 0)) 56 (.int 0)) 60 (.int 3)) 79 (.int 0)) 55 (.int 0)) 58 (.int 0)) 59 (.int 600)) 72 (.int 0)) 77 (.int 0)) 62 (.int 1280)) 63 (.int (-1))) 64 (.int 0)) 65 (.int 0)) 61 (.int (-1))) 58 (.int 1)) 72 (.int 1)) 62 (.int 1281)) 63 (.int (-1))) 64 (.int 0)) 65 (.int 0)) 58 (.int 2)) 72 (.int 2)) 62 (.int 1282)) 63 (.int (-1))) 64 (.int 0)) 65 (.int 0)) 61 (.int 7)) 72 (.int 1)) 72 (.int 0)) 54 (.int 0)) 54 (.int 1)) 54 (.int 2)) 54 (.int 3)) 54 (.int 4)) 54 (.int 5)) 54 (.int 6)) 54 (.int 7)) 54 (.int 8)) 54 (.int 9)) 54 (.int 10)) 54 (.int 11)) 54 (.int 12)) 54 (.int 13)) 54 (.int 14)) 54 (.int 15)) 54 (.int 16)) 54 (.int 15)) 54 (.int 14)) 54 (.int 13)) 54 (.int 12)) 54 (.int 11)) 54 (.int 10)) 54 (.int 9)) 54 (.int 8)) 54 (.int 7)) 54 (.int 6)) 54 (.int 5)) 54 (.int 4)) 54 (.int 3)) 54 (.int 2)) 54 (.int 1)) 54 (.int 0)) 32 (.int 16)) 40 (.int 0)) 46 (.int 0)))] H := hP
  have hD : va_D A [(qo, zJ K 1 (va_up (fun _ => 0) 0 7)), (qm, zO 10 83 (va_up (va_up (va_up (va_up (va_up (va_up (va_up (va_up (va_up (va_up (va_up (va_up (va_up (va_up (va_up (va_up (va_up (va_up (va_up (va_up (va_up (va_up (va_up (va_up (va_up (va_up (va_up (va_up (va_up (va_up (va_up (va_up (va_up (va_up (va_up (va_up (va_up (va_up (va_up (va_up (va_up (va_up (va_up (va_up (va_up (va_up (va_up (va_up (va_up (va_up (va_up (va_up (va_up (va_up (va_up (va_up (va_up (va_up (va_up (va_up (va_up (va_up (va_up (va_up (va_up (zc71 u v) 81 (.int 0)) 56 (.int 0)) 60 (.int 3)) 79 (.int 0)) 55 (.int 0)) 58 (.int 0)) 59 (.int 600)) 72 (.int 0)) 77 (.int 0)) 62 (.int 1280)) 63 (.int (-1))) 64 (.int 0)) 65 (.int 0)) 61 (.int (-1))) 58 (.int 1)) 72 (.int 1)) 62 (.int 1281)) 63 (.int (-1))) 64 (.int 0)) 65 (.int 0)) 58 (.int 2)) 72 (.int 2)) 62 (.int 1282)) 63 (.int (-1))) 64 (.int 0)) 65 (.int 0)) 61 (.int 7)) 72 (.int 1)) 72 (.int 0)) 54 (.int 0)) 54 (.int 1)) 54 (.int 2)) 54 (.int 3)) 54 (.int 4)) 54 (.int 5)) 54 (.int 6)) 54 (.int 7)) 54 (.int 8)) 54 (.int 9)) 54 (.int 10)) 54 (.int 11)) 54 (.int 12)) 54 (.int 13)) 54 (.int 14)) 54 (.int 15)) 54 (.int 16)) 54 (.int 15)) 54 (.int 14)) 54 (.int 13)) 54 (.int 12)) 54 (.int 11)) 54 (.int 10)) 54 (.int 9)) 54 (.int 8)) 54 (.int 7)) 54 (.int 6)) 54 (.int 5)) 54 (.int 4)) 54 (.int 3)) 54 (.int 2)) 54 (.int 1)) 54 (.int 0)) 32 (.int 16)) 40 (.int 0)) 46 (.int 0)))] := hD
  refine lv_istore (lv' := [(6, .int 7), (5, .int 0), (4, .int 0), (3, .ref qo), (2, .ref qm), (1, .ref qx), (0, .ref b)]) hx hb dL_law_1572 hl (by decide) rfl (fun ls hl => ?_)
  refine lv_aload_n hx hb dL_law_1574 rfl (lv_at hl 4 rfl) ?_
  refine z_calli [(qm, zO 10 83 (va_up (va_up (va_up (va_up (va_up (va_up (va_up (va_up (va_up (va_up (va_up (va_up (va_up (va_up (va_up (va_up (va_up (va_up (va_up (va_up (va_up (va_up (va_up (va_up (va_up (va_up (va_up (va_up (va_up (va_up (va_up (va_up (va_up (va_up (va_up (va_up (va_up (va_up (va_up (va_up (va_up (va_up (va_up (va_up (va_up (va_up (va_up (va_up (va_up (va_up (va_up (va_up (va_up (va_up (va_up (va_up (va_up (va_up (va_up (va_up (va_up (va_up (va_up (va_up (va_up (zc71 u v) 81 (.int 0)) 56 (.int 0)) 60 (.int 3)) 79 (.int 0)) 55 (.int 0)) 58 (.int 0)) 59 (.int 600)) 72 (.int 0)) 77 (.int 0)) 62 (.int 1280)) 63 (.int (-1))) 64 (.int 0)) 65 (.int 0)) 61 (.int (-1))) 58 (.int 1)) 72 (.int 1)) 62 (.int 1281)) 63 (.int (-1))) 64 (.int 0)) 65 (.int 0)) 58 (.int 2)) 72 (.int 2)) 62 (.int 1282)) 63 (.int (-1))) 64 (.int 0)) 65 (.int 0)) 61 (.int 7)) 72 (.int 1)) 72 (.int 0)) 54 (.int 0)) 54 (.int 1)) 54 (.int 2)) 54 (.int 3)) 54 (.int 4)) 54 (.int 5)) 54 (.int 6)) 54 (.int 7)) 54 (.int 8)) 54 (.int 9)) 54 (.int 10)) 54 (.int 11)) 54 (.int 12)) 54 (.int 13)) 54 (.int 14)) 54 (.int 15)) 54 (.int 16)) 54 (.int 15)) 54 (.int 14)) 54 (.int 13)) 54 (.int 12)) 54 (.int 11)) 54 (.int 10)) 54 (.int 9)) 54 (.int 8)) 54 (.int 7)) 54 (.int 6)) 54 (.int 5)) 54 (.int 4)) 54 (.int 3)) 54 (.int 2)) 54 (.int 1)) 54 (.int 0)) 32 (.int 16)) 40 (.int 0)) 46 (.int 0)))] [(qo, zJ K 1 (va_up (fun _ => 0) 0 7))] [1] [0] hP hD hS hA rfl rfl (by decide +kernel) (by decide +kernel) (by decide +kernel) 128 1867719 rfl rfl (fun hPc hDc hF => z_runV (As := []) (rest := []) ⟨hx, hb, hml, hown, hg⟩ (cX12_thrown_1 l K H.size qm (va_up (va_up (va_up (va_up (va_up (va_up (va_up (va_up (va_up (va_up (va_up (va_up (va_up (va_up (va_up (va_up (va_up (va_up (va_up (va_up (va_up (va_up (va_up (va_up (va_up (va_up (va_up (va_up (va_up (va_up (va_up (va_up (va_up (va_up (va_up (va_up (va_up (va_up (va_up (va_up (va_up (va_up (va_up (va_up (va_up (va_up (va_up (va_up (va_up (va_up (va_up (va_up (va_up (va_up (va_up (va_up (va_up (va_up (va_up (va_up (va_up (va_up (va_up (va_up (va_up (zc71 u v) 81 (.int 0)) 56 (.int 0)) 60 (.int 3)) 79 (.int 0)) 55 (.int 0)) 58 (.int 0)) 59 (.int 600)) 72 (.int 0)) 77 (.int 0)) 62 (.int 1280)) 63 (.int (-1))) 64 (.int 0)) 65 (.int 0)) 61 (.int (-1))) 58 (.int 1)) 72 (.int 1)) 62 (.int 1281)) 63 (.int (-1))) 64 (.int 0)) 65 (.int 0)) 58 (.int 2)) 72 (.int 2)) 62 (.int 1282)) 63 (.int (-1))) 64 (.int 0)) 65 (.int 0)) 61 (.int 7)) 72 (.int 1)) 72 (.int 0)) 54 (.int 0)) 54 (.int 1)) 54 (.int 2)) 54 (.int 3)) 54 (.int 4)) 54 (.int 5)) 54 (.int 6)) 54 (.int 7)) 54 (.int 8)) 54 (.int 9)) 54 (.int 10)) 54 (.int 11)) 54 (.int 12)) 54 (.int 13)) 54 (.int 14)) 54 (.int 15)) 54 (.int 16)) 54 (.int 15)) 54 (.int 14)) 54 (.int 13)) 54 (.int 12)) 54 (.int 11)) 54 (.int 10)) 54 (.int 9)) 54 (.int 8)) 54 (.int 7)) 54 (.int 6)) 54 (.int 5)) 54 (.int 4)) 54 (.int 3)) 54 (.int 2)) 54 (.int 1)) 54 (.int 0)) 32 (.int 16)) 40 (.int 0)) 46 (.int 0)) (zu_ne (by decide) (zu_ne (by decide) (zu_ne (by decide) (zu_ne (by decide) (zu_ne (by decide) (zu_ne (by decide) (zu_ne (by decide) (zu_ne (by decide) (zu_ne (by decide) (zu_ne (by decide) (zu_ne (by decide) (zu_ne (by decide) (zu_ne (by decide) (zu_ne (by decide) (zu_ne (by decide) (zu_ne (by decide) (zu_ne (by decide) (zu_ne (by decide) (zu_ne (by decide) (zu_ne (by decide) (zu_ne (by decide) (zu_ne (by decide) (zu_ne (by decide) (zu_ne (by decide) (zu_ne (by decide) (zu_ne (by decide) (zu_ne (by decide) (zu_ne (by decide) (zu_ne (by decide) (zu_ne (by decide) (zu_ne (by decide) (zu_ne (by decide) (zu_ne (by decide) (zu_ne (by decide) (zu_ne (by decide) (zu_ne (by decide) (zu_ne (by decide) (zu_ne (by decide) (zu_ne (by decide) (zu_ne (by decide) (zu_ne (by decide) (zu_ne (by decide) (zu_ne (by decide) (zu_ne (by decide) (zu_ne (by decide) (zu_ne (by decide) (zu_ne (by decide) (zu_ne (by decide) (zu_ne (by decide) (zu_ne (by decide) (zu_ne (by decide) (zu_ne (by decide) (zu_ne (by decide) (zu_ne (by decide) (zu_ne (by decide) (zu_ne (by decide) (zu_ne (by decide) (zu_ne (by decide) (zu_ne (by decide) (zu_ne (by decide) (zu_ne (by decide) (zu_ne (by decide) (zu_ne (by decide) (zu_ne (by decide) zu_eq))))))))))))))))))))))))))))))))))))))))))))))))))))))))))))))))) kV_RL_104 hd_X12_thrown rfl rfl ⟨(Nat.le_of_ble_eq_true rfl), (Nat.le_of_ble_eq_true rfl)⟩ hK hS hZ hPc hDc hF 0 rfl rfl rfl hl.1 rfl (Nat.le_of_ble_eq_true rfl) dL_law_1575 ⟨(Nat.le_of_ble_eq_true rfl), (Nat.le_of_ble_eq_true rfl)⟩) (fun r9 u7 H locs w8 hP hD hS => ?_)
  subst w8
  have hP : va_P K.1 classes [(qo, zJ K 1 (va_up (fun _ => 0) 0 7)), (qm, zO 10 83 (va_up (va_up (va_up (va_up (va_up (va_up (va_up (va_up (va_up (va_up (va_up (va_up (va_up (va_up (va_up (va_up (va_up (va_up (va_up (va_up (va_up (va_up (va_up (va_up (va_up (va_up (va_up (va_up (va_up (va_up (va_up (va_up (va_up (va_up (va_up (va_up (va_up (va_up (va_up (va_up (va_up (va_up (va_up (va_up (va_up (va_up (va_up (va_up (va_up (va_up (va_up (va_up (va_up (va_up (va_up (va_up (va_up (va_up (va_up (va_up (va_up (va_up (va_up (va_up (va_up (zc71 u v) 81 (.int 0)) 56 (.int 0)) 60 (.int 3)) 79 (.int 0)) 55 (.int 0)) 58 (.int 0)) 59 (.int 600)) 72 (.int 0)) 77 (.int 0)) 62 (.int 1280)) 63 (.int (-1))) 64 (.int 0)) 65 (.int 0)) 61 (.int (-1))) 58 (.int 1)) 72 (.int 1)) 62 (.int 1281)) 63 (.int (-1))) 64 (.int 0)) 65 (.int 0)) 58 (.int 2)) 72 (.int 2)) 62 (.int 1282)) 63 (.int (-1))) 64 (.int 0)) 65 (.int 0)) 61 (.int 7)) 72 (.int 1)) 72 (.int 0)) 54 (.int 0)) 54 (.int 1)) 54 (.int 2)) 54 (.int 3)) 54 (.int 4)) 54 (.int 5)) 54 (.int 6)) 54 (.int 7)) 54 (.int 8)) 54 (.int 9)) 54 (.int 10)) 54 (.int 11)) 54 (.int 12)) 54 (.int 13)) 54 (.int 14)) 54 (.int 15)) 54 (.int 16)) 54 (.int 15)) 54 (.int 14)) 54 (.int 13)) 54 (.int 12)) 54 (.int 11)) 54 (.int 10)) 54 (.int 9)) 54 (.int 8)) 54 (.int 7)) 54 (.int 6)) 54 (.int 5)) 54 (.int 4)) 54 (.int 3)) 54 (.int 2)) 54 (.int 1)) 54 (.int 0)) 32 (.int 16)) 40 (.int 0)) 46 (.int 0)))] H := hP
  have hD : va_D A [(qo, zJ K 1 (va_up (fun _ => 0) 0 7)), (qm, zO 10 83 (va_up (va_up (va_up (va_up (va_up (va_up (va_up (va_up (va_up (va_up (va_up (va_up (va_up (va_up (va_up (va_up (va_up (va_up (va_up (va_up (va_up (va_up (va_up (va_up (va_up (va_up (va_up (va_up (va_up (va_up (va_up (va_up (va_up (va_up (va_up (va_up (va_up (va_up (va_up (va_up (va_up (va_up (va_up (va_up (va_up (va_up (va_up (va_up (va_up (va_up (va_up (va_up (va_up (va_up (va_up (va_up (va_up (va_up (va_up (va_up (va_up (va_up (va_up (va_up (va_up (zc71 u v) 81 (.int 0)) 56 (.int 0)) 60 (.int 3)) 79 (.int 0)) 55 (.int 0)) 58 (.int 0)) 59 (.int 600)) 72 (.int 0)) 77 (.int 0)) 62 (.int 1280)) 63 (.int (-1))) 64 (.int 0)) 65 (.int 0)) 61 (.int (-1))) 58 (.int 1)) 72 (.int 1)) 62 (.int 1281)) 63 (.int (-1))) 64 (.int 0)) 65 (.int 0)) 58 (.int 2)) 72 (.int 2)) 62 (.int 1282)) 63 (.int (-1))) 64 (.int 0)) 65 (.int 0)) 61 (.int 7)) 72 (.int 1)) 72 (.int 0)) 54 (.int 0)) 54 (.int 1)) 54 (.int 2)) 54 (.int 3)) 54 (.int 4)) 54 (.int 5)) 54 (.int 6)) 54 (.int 7)) 54 (.int 8)) 54 (.int 9)) 54 (.int 10)) 54 (.int 11)) 54 (.int 12)) 54 (.int 13)) 54 (.int 14)) 54 (.int 15)) 54 (.int 16)) 54 (.int 15)) 54 (.int 14)) 54 (.int 13)) 54 (.int 12)) 54 (.int 11)) 54 (.int 10)) 54 (.int 9)) 54 (.int 8)) 54 (.int 7)) 54 (.int 6)) 54 (.int 5)) 54 (.int 4)) 54 (.int 3)) 54 (.int 2)) 54 (.int 1)) 54 (.int 0)) 32 (.int 16)) 40 (.int 0)) 46 (.int 0)))] := hD
  refine lv_iload hx hb dL_law_1578 (lv_at hl 1 rfl) ?_
  refine lv_icmp_eq (tgt := 1585) hx hb dL_law_1580 (by decide) (fun _ => ?_) (fun c => absurd (by decide) c)
  refine lv_iload hx hb dL_law_1585 (lv_at hl 1 rfl) ?_
  refine lv_if_ne (tgt := 1602) hx hb dL_law_1587 (by decide) (fun c => absurd (by decide) c) (fun _ => ?_)
  refine lv_aload_n hx hb dL_law_1590 rfl (lv_at hl 3 rfl) ?_
  refine lv_iconst (v := 0) hx hb dL_law_1591 (by decide) ?_
  refine z_lald (v := 7) (j := 0) hx hb hK hP 0 rfl rfl (Nat.le_of_ble_eq_true rfl) (Nat.le_of_ble_eq_true rfl) zu_eq dL_law_1592 ?_
  refine lv_iload hx hb dL_law_1593 (lv_at hl 0 rfl) ?_
  refine lv_i2l hx hb dL_law_1595 rfl ?_
  refine z_cstl (v := 7) (by decide +kernel) ?_
  refine W.lcmp hx hb dL_law_1596 ?_
  refine z_cst (v := 0) (by decide +kernel) ?_
  refine lv_if_eq (tgt := 1602) hx hb dL_law_1597 (by decide) (fun _ => ?_) (fun c => absurd (by decide) c)
  refine lv_goto (tgt := 2026) hx hb dL_law_1602 (by decide) ?_
  exact law_back ⟨hx, hb, hr, hml, hown, hg, hX, hbl, hlocks, hK, hZ, hl9, hAA, hA, hbA⟩ (Nat.le_of_ble_eq_true rfl) (Nat.le_of_ble_eq_true rfl) hS (lv_sub hl [2, 6] rfl)
set_option maxHeartbeats 4000000 in
set_option maxRecDepth 100000 in
theorem lawS_19_15 {p : Program} {l : Launch} {e : Env} {s : State} {m : MethodId} {below : List Frame} {meth : Method} {c : Code} {b : Nat} {xs : Nat → Int32} {K : zK} {A : Nat → Prop} {H : Heap} {locs : List Loc} {ls : Array Slot} (C : zC p l s m meth c b xs K A) (qx qm qo : Nat) (u v : Nat → Nat) (h0 : xs 6 = 0) (h1 : 0 ≤ (xs 5).toInt) (h2 : (xs 5).toInt < 601) (h3 : 0 ≤ (xs 1).toInt) (h4 : (xs 1).toInt < 8) (h5 : 0 ≤ (xs 2).toInt) (h6 : (xs 2).toInt < 3) (h7 : ¬ xs 5 = 1) (h8 : 1 ≤ (xs 2).toInt) (h9 : 2 ≤ (xs 2).toInt) (h10 : ¬ xs 5 = 2) (h11 : ¬ xs 5 = 3) (hP : va_P K.1 classes (lwW K qx qm qo u v) H) (hD : va_D A (lwW K qx qm qo u v)) (hS : va_S A s.heap H locs) (hl : lv_has ls 7 [(4, .int 0), (3, .ref qo), (2, .ref qm), (1, .ref qx), (0, .ref b)]) : W p l e room_1 s m #[Value.ref b] below meth c H locs 124 1863516 (lw_Z below #[Value.ref b] s) (F0 m 1471 ls []) := by
  obtain ⟨hx, hb, hr, hml, hown, hg, hX, hbl, hlocks, hK, hZ, hl9, hAA, hA, hbA⟩ := C
  have hP : va_P K.1 classes [(qx, zO 9 9 (zc0 u v)), ((u 8), zO 4 6 (zc9 u v)), ((u 9), zO 7 6 (zc10 u v)), ((u 10), zI K 645 (fun _ => 0)), ((u 11), zI K 645 (fun _ => 0)), ((u 12), zI K 645 (fun _ => 0)), ((u 13), zI K 645 (fun _ => 0)), ((u 14), zI K 1935 (fun _ => 0)), ((u 15), zI K 8 (fun _ => 0)), ((u 16), zI K 8 (fun _ => 0)), ((u 20), zO 4 6 (zc21 u v)), ((u 28), zI K 8 (fun _ => 0)), ((u 59), zO 1 18 (zc60 u v)), ((u 60), zO 3 7 (zc61 u v)), ((u 61), zR K 512 (fun _ => none)), ((u 62), zO 2 6 (zc63 u v)), ((u 63), zI K 608 (fun _ => 0)), ((u 64), zI K 608 (fun _ => 0)), ((u 65), zI K 608 (fun _ => 0)), ((u 66), zI K 608 (fun _ => 0)), ((u 67), zI K 608 (fun _ => 0)), ((u 68), zI K 10 (fun _ => 0)), (qm, zO 10 83 (zc71 u v)), ((v 7), zI K 1290 (fun _ => 0)), ((v 8), zI K 1290 (fun _ => 0)), ((v 12), zI K 1290 (fun _ => 0)), ((v 13), zI K 16 (fun _ => 0)), ((v 25), zI K 60000 (fun _ => 0)), ((v 26), zI K 60000 (fun _ => 0)), ((v 27), zI K 60000 (fun _ => 0)), ((v 28), zI K 60000 (fun _ => 0)), ((v 29), zI K 60000 (fun _ => 0)), ((v 30), zI K 60000 (fun _ => 0)), ((v 31), zI K 60000 (fun _ => 0)), ((v 42), zI K 210000 (fun _ => 0)), ((v 43), zI K 210000 (fun _ => 0)), ((v 44), zI K 900 (fun _ => 0)), ((v 45), zI K 900 (fun _ => 0)), ((v 46), zI K 900 (fun _ => 0)), ((v 47), zI K 900 (fun _ => 0)), ((v 49), zI K 10 (fun _ => 0)), (qo, zJ K 1 (fun _ => 0))] H := hP.sub [0, 9, 10, 11, 12, 13, 14, 15, 16, 17, 21, 29, 60, 61, 62, 63, 64, 65, 66, 67, 68, 69, 71, 79, 80, 84, 85, 97, 98, 99, 100, 101, 102, 103, 114, 115, 116, 117, 118, 119, 121, 123] rfl
  have hD : va_D A [(qx, zO 9 9 (zc0 u v)), ((u 8), zO 4 6 (zc9 u v)), ((u 9), zO 7 6 (zc10 u v)), ((u 10), zI K 645 (fun _ => 0)), ((u 11), zI K 645 (fun _ => 0)), ((u 12), zI K 645 (fun _ => 0)), ((u 13), zI K 645 (fun _ => 0)), ((u 14), zI K 1935 (fun _ => 0)), ((u 15), zI K 8 (fun _ => 0)), ((u 16), zI K 8 (fun _ => 0)), ((u 20), zO 4 6 (zc21 u v)), ((u 28), zI K 8 (fun _ => 0)), ((u 59), zO 1 18 (zc60 u v)), ((u 60), zO 3 7 (zc61 u v)), ((u 61), zR K 512 (fun _ => none)), ((u 62), zO 2 6 (zc63 u v)), ((u 63), zI K 608 (fun _ => 0)), ((u 64), zI K 608 (fun _ => 0)), ((u 65), zI K 608 (fun _ => 0)), ((u 66), zI K 608 (fun _ => 0)), ((u 67), zI K 608 (fun _ => 0)), ((u 68), zI K 10 (fun _ => 0)), (qm, zO 10 83 (zc71 u v)), ((v 7), zI K 1290 (fun _ => 0)), ((v 8), zI K 1290 (fun _ => 0)), ((v 12), zI K 1290 (fun _ => 0)), ((v 13), zI K 16 (fun _ => 0)), ((v 25), zI K 60000 (fun _ => 0)), ((v 26), zI K 60000 (fun _ => 0)), ((v 27), zI K 60000 (fun _ => 0)), ((v 28), zI K 60000 (fun _ => 0)), ((v 29), zI K 60000 (fun _ => 0)), ((v 30), zI K 60000 (fun _ => 0)), ((v 31), zI K 60000 (fun _ => 0)), ((v 42), zI K 210000 (fun _ => 0)), ((v 43), zI K 210000 (fun _ => 0)), ((v 44), zI K 900 (fun _ => 0)), ((v 45), zI K 900 (fun _ => 0)), ((v 46), zI K 900 (fun _ => 0)), ((v 47), zI K 900 (fun _ => 0)), ((v 49), zI K 10 (fun _ => 0)), (qo, zJ K 1 (fun _ => 0))] := hD.sub [0, 9, 10, 11, 12, 13, 14, 15, 16, 17, 21, 29, 60, 61, 62, 63, 64, 65, 66, 67, 68, 69, 71, 79, 80, 84, 85, 97, 98, 99, 100, 101, 102, 103, 114, 115, 116, 117, 118, 119, 121, 123] (by decide +kernel) rfl
  obtain ⟨t1, ht1, v1⟩ : ∃ j : Nat, j < 8 ∧ xs 1 = nI j := z_nat (n := 8) (by omega) (by omega) (by decide)
  have v2 : xs 2 = 2 := z_lit (by rw [show (2 : Int32).toInt = 2 from by decide]; omega)
  refine lv_aload_n hx hb dL_law_1471 rfl (lv_at hl 3 rfl) ?_
  refine lv_aload_n hx hb dL_law_1472 rfl (lv_at hl 4 rfl) ?_
  refine lv_iload hx hb dL_law_1473 (lv_at hl 0 rfl) ?_
  refine lv_iconst (v := 1) hx hb dL_law_1475 (by decide) ?_
  refine lv_iadd hx hb dL_law_1476 ?_
  refine z_cst (v := 1) (by decide +kernel) ?_
  refine z_sld (v := (nI t1)) (j := 1) hx hb hX hbl hbA hS rfl (Nat.le_of_ble_eq_true rfl) v1 dL_law_1477 ?_
  refine lv_aload_n hx hb dL_law_1478 rfl (lv_at hl 4 rfl) ?_
  refine lv_iload hx hb dL_law_1479 (lv_at hl 0 rfl) ?_
  refine lv_iconst (v := 2) hx hb dL_law_1481 (by decide) ?_
  refine lv_iadd hx hb dL_law_1482 ?_
  refine z_cst (v := 2) (by decide +kernel) ?_
  refine z_sld (v := 2) (j := 2) hx hb hX hbl hbA hS rfl (Nat.le_of_ble_eq_true rfl) v2 dL_law_1483 ?_
  refine lv_aload_n hx hb dL_law_1484 rfl (lv_at hl 4 rfl) ?_
  refine lv_iload hx hb dL_law_1485 (lv_at hl 0 rfl) ?_
  refine lv_iconst (v := 3) hx hb dL_law_1487 (by decide) ?_
  refine lv_iadd hx hb dL_law_1488 ?_
  refine z_cst (v := 3) (by decide +kernel) ?_
  refine z_sld (v := (xs 3)) (j := 3) hx hb hX hbl hbA hS rfl (Nat.le_of_ble_eq_true rfl) rfl dL_law_1489 ?_
  refine lv_aload_n hx hb dL_law_1490 rfl (lv_at hl 4 rfl) ?_
  refine lv_iload hx hb dL_law_1491 (lv_at hl 0 rfl) ?_
  refine lv_iconst (v := 4) hx hb dL_law_1493 (by decide) ?_
  refine lv_iadd hx hb dL_law_1494 ?_
  refine z_cst (v := 4) (by decide +kernel) ?_
  refine z_sld (v := (xs 4)) (j := 4) hx hb hX hbl hbA hS rfl (Nat.le_of_ble_eq_true rfl) rfl dL_law_1495 ?_
  refine lv_aload_n hx hb dL_law_1496 rfl (lv_at hl 4 rfl) ?_
  refine lv_iload hx hb dL_law_1497 (lv_at hl 0 rfl) ?_
  refine lv_iconst (v := 5) hx hb dL_law_1499 (by decide) ?_
  refine lv_iadd hx hb dL_law_1500 ?_
  refine z_cst (v := 5) (by decide +kernel) ?_
  refine z_sld (v := (xs 5)) (j := 5) hx hb hX hbl hbA hS rfl (Nat.le_of_ble_eq_true rfl) rfl dL_law_1501 ?_
  refine lv_aload_n hx hb dL_law_1502 rfl (lv_at hl 4 rfl) ?_
  refine lv_iload hx hb dL_law_1503 (lv_at hl 0 rfl) ?_
  refine lv_bipush (v := 6) hx hb dL_law_1505 (by decide) ?_
  refine lv_iadd hx hb dL_law_1507 ?_
  refine z_cst (v := 6) (by decide +kernel) ?_
  refine z_sld (v := 0) (j := 6) hx hb hX hbl hbA hS rfl (Nat.le_of_ble_eq_true rfl) h0 dL_law_1508 ?_
  refine lv_if_eq (tgt := 1516) hx hb dL_law_1509 (by decide) (fun _ => ?_) (fun c => absurd (by decide) c)
  refine lv_iconst (v := 0) hx hb dL_law_1516 (by decide) ?_
  refine lv_aload_n hx hb dL_law_1517 rfl (lv_at hl 1 rfl) ?_
  refine z_hcalli [(qx, zO 9 9 (zc0 u v)), ((u 8), zO 4 6 (zc9 u v)), ((u 9), zO 7 6 (zc10 u v)), ((u 10), zI K 645 (fun _ => 0)), ((u 11), zI K 645 (fun _ => 0)), ((u 12), zI K 645 (fun _ => 0)), ((u 13), zI K 645 (fun _ => 0)), ((u 14), zI K 1935 (fun _ => 0)), ((u 59), zO 1 18 (zc60 u v)), ((u 60), zO 3 7 (zc61 u v)), ((u 16), zI K 8 (fun _ => 0)), ((u 20), zO 4 6 (zc21 u v)), ((u 28), zI K 8 (fun _ => 0)), ((u 61), zR K 512 (fun _ => none)), ((u 62), zO 2 6 (zc63 u v)), ((u 68), zI K 10 (fun _ => 0)), ((u 63), zI K 608 (fun _ => 0)), ((u 64), zI K 608 (fun _ => 0)), ((u 65), zI K 608 (fun _ => 0)), ((u 66), zI K 608 (fun _ => 0)), ((u 67), zI K 608 (fun _ => 0)), ((u 15), zI K 8 (fun _ => 0)), (qo, zJ K 1 (fun _ => 0))] [(qm, zO 10 83 (zc71 u v)), ((v 7), zI K 1290 (fun _ => 0)), ((v 8), zI K 1290 (fun _ => 0)), ((v 12), zI K 1290 (fun _ => 0)), ((v 13), zI K 16 (fun _ => 0)), ((v 25), zI K 60000 (fun _ => 0)), ((v 26), zI K 60000 (fun _ => 0)), ((v 27), zI K 60000 (fun _ => 0)), ((v 28), zI K 60000 (fun _ => 0)), ((v 29), zI K 60000 (fun _ => 0)), ((v 30), zI K 60000 (fun _ => 0)), ((v 31), zI K 60000 (fun _ => 0)), ((v 42), zI K 210000 (fun _ => 0)), ((v 43), zI K 210000 (fun _ => 0)), ((v 44), zI K 900 (fun _ => 0)), ((v 45), zI K 900 (fun _ => 0)), ((v 46), zI K 900 (fun _ => 0)), ((v 47), zI K 900 (fun _ => 0)), ((v 49), zI K 10 (fun _ => 0))] [0, 1, 2, 3, 4, 5, 6, 7, 12, 13, 9, 10, 11, 14, 15, 21, 16, 17, 18, 19, 20, 8, 41] [22, 23, 24, 25, 26, 27, 28, 29, 30, 31, 32, 33, 34, 35, 36, 37, 38, 39, 40] hP hD hS hA rfl rfl (by decide +kernel) (by decide +kernel) (by decide +kernel) 128 1867719 rfl rfl (fun hPc hDc hF => z_xrunH (As := [.ref qx, .int (nI t1), .int 2, .int (xs 3), .int (xs 4), .int (xs 5), .int 0, .ref qo]) (rest := []) ⟨hx, hb, hml, hown, hg⟩ (cL_run_16 l hl9 K H.size qx qo (u 8) (u 9) (u 10) (u 11) (u 12) (u 13) (u 14) (u 59) (u 60) (u 16) (u 20) (u 28) (u 61) (u 62) (u 68) (u 63) (u 64) (u 65) (u 66) (u 67) (u 15) (zc0 u v) (zc9 u v) (zc10 u v) (fun _ => 0) (fun _ => 0) (fun _ => 0) (fun _ => 0) (fun _ => 0) (zc60 u v) (zc61 u v) (fun _ => 0) (zc21 u v) (fun _ => 0) (fun _ => none) (zc63 u v) (fun _ => 0) (fun _ => 0) (fun _ => 0) (fun _ => 0) (fun _ => 0) (fun _ => 0) (fun _ => 0) (fun _ => 0) t1 ht1 (xs 3) (xs 4) (xs 5) (by rw [Int32.lt_iff_toInt_lt, show (0 : Int32).toInt = 0 from by decide]; omega) (by rw [Int32.lt_iff_toInt_lt, show (601 : Int32).toInt = 601 from by decide]; omega) (zc0_3 u v) (zc9_0 u v) (zc10_5 u v) (zc10_0 u v) (zc10_1 u v) (zc10_2 u v) (zc10_3 u v) (zc10_4 u v) (zc0_7 u v) (zc60_0 u v) (zc61_6 u v) (zc61_4 u v) (zc61_0 u v) (zc9_2 u v) rfl rfl rfl rfl rfl rfl rfl rfl (zc61_1 u v) (zc21_2 u v) rfl rfl rfl rfl rfl rfl rfl rfl (zc61_3 u v) (zc61_2 u v) (zc60_1 u v) (zc60_2 u v) (fun c9 => h7 c9.symm) (zc63_0 u v) (zc63_1 u v) (zc63_2 u v) (zc63_3 u v) (zc63_4 u v) (fun c9 => h10 c9.symm) (fun c9 => h11 c9.symm) (fun _ => rfl) (zc9_1 u v) (fun _ => rfl)) kS_RL_166 hd_L_run rfl rfl ⟨(Nat.le_of_ble_eq_true rfl), (Nat.le_of_ble_eq_true rfl)⟩ hK hS hZ hPc hDc hF rfl hl.1 rfl (Nat.le_of_ble_eq_true rfl) dL_law_1518 ⟨(Nat.le_of_ble_eq_true rfl), (Nat.le_of_ble_eq_true rfl)⟩) (fun r3 u1 H locs w2 hP hD hS => ?_)
  subst w2
  have hP : va_P K.1 classes [(qm, zO 10 83 (zc71 u v)), ((v 7), zI K 1290 (fun _ => 0)), ((v 8), zI K 1290 (fun _ => 0)), ((v 12), zI K 1290 (fun _ => 0)), ((v 13), zI K 16 (fun _ => 0)), ((v 25), zI K 60000 (fun _ => 0)), ((v 26), zI K 60000 (fun _ => 0)), ((v 27), zI K 60000 (fun _ => 0)), ((v 28), zI K 60000 (fun _ => 0)), ((v 29), zI K 60000 (fun _ => 0)), ((v 30), zI K 60000 (fun _ => 0)), ((v 31), zI K 60000 (fun _ => 0)), ((v 42), zI K 210000 (fun _ => 0)), ((v 43), zI K 210000 (fun _ => 0)), ((v 44), zI K 900 (fun _ => 0)), ((v 45), zI K 900 (fun _ => 0)), ((v 46), zI K 900 (fun _ => 0)), ((v 47), zI K 900 (fun _ => 0)), ((v 49), zI K 10 (fun _ => 0)), (qo, zJ K 1 (va_up (fun _ => 0) 0 5))] H := hP
  have hD : va_D A [(qm, zO 10 83 (zc71 u v)), ((v 7), zI K 1290 (fun _ => 0)), ((v 8), zI K 1290 (fun _ => 0)), ((v 12), zI K 1290 (fun _ => 0)), ((v 13), zI K 16 (fun _ => 0)), ((v 25), zI K 60000 (fun _ => 0)), ((v 26), zI K 60000 (fun _ => 0)), ((v 27), zI K 60000 (fun _ => 0)), ((v 28), zI K 60000 (fun _ => 0)), ((v 29), zI K 60000 (fun _ => 0)), ((v 30), zI K 60000 (fun _ => 0)), ((v 31), zI K 60000 (fun _ => 0)), ((v 42), zI K 210000 (fun _ => 0)), ((v 43), zI K 210000 (fun _ => 0)), ((v 44), zI K 900 (fun _ => 0)), ((v 45), zI K 900 (fun _ => 0)), ((v 46), zI K 900 (fun _ => 0)), ((v 47), zI K 900 (fun _ => 0)), ((v 49), zI K 10 (fun _ => 0)), (qo, zJ K 1 (va_up (fun _ => 0) 0 5))] := hD
  refine lv_istore (lv' := [(5, .int 0), (4, .int 0), (3, .ref qo), (2, .ref qm), (1, .ref qx), (0, .ref b)]) hx hb dL_law_1521 hl (by decide) rfl (fun ls hl => ?_)
  refine lv_aload_n hx hb dL_law_1523 rfl (lv_at hl 3 rfl) ?_
  refine lv_aload_n hx hb dL_law_1524 rfl (lv_at hl 5 rfl) ?_
  refine lv_iload hx hb dL_law_1525 (lv_at hl 1 rfl) ?_
  refine lv_iconst (v := 1) hx hb dL_law_1527 (by decide) ?_
  refine lv_iadd hx hb dL_law_1528 ?_
  refine z_cst (v := 1) (by decide +kernel) ?_
  refine z_sld (v := (nI t1)) (j := 1) hx hb hX hbl hbA hS rfl (Nat.le_of_ble_eq_true rfl) v1 dL_law_1529 ?_
  refine lv_aload_n hx hb dL_law_1530 rfl (lv_at hl 5 rfl) ?_
  refine lv_iload hx hb dL_law_1531 (lv_at hl 1 rfl) ?_
  refine lv_iconst (v := 2) hx hb dL_law_1533 (by decide) ?_
  refine lv_iadd hx hb dL_law_1534 ?_
  refine z_cst (v := 2) (by decide +kernel) ?_
  refine z_sld (v := 2) (j := 2) hx hb hX hbl hbA hS rfl (Nat.le_of_ble_eq_true rfl) v2 dL_law_1535 ?_
  refine lv_aload_n hx hb dL_law_1536 rfl (lv_at hl 5 rfl) ?_
  refine lv_iload hx hb dL_law_1537 (lv_at hl 1 rfl) ?_
  refine lv_iconst (v := 3) hx hb dL_law_1539 (by decide) ?_
  refine lv_iadd hx hb dL_law_1540 ?_
  refine z_cst (v := 3) (by decide +kernel) ?_
  refine z_sld (v := (xs 3)) (j := 3) hx hb hX hbl hbA hS rfl (Nat.le_of_ble_eq_true rfl) rfl dL_law_1541 ?_
  refine lv_aload_n hx hb dL_law_1542 rfl (lv_at hl 5 rfl) ?_
  refine lv_iload hx hb dL_law_1543 (lv_at hl 1 rfl) ?_
  refine lv_iconst (v := 4) hx hb dL_law_1545 (by decide) ?_
  refine lv_iadd hx hb dL_law_1546 ?_
  refine z_cst (v := 4) (by decide +kernel) ?_
  refine z_sld (v := (xs 4)) (j := 4) hx hb hX hbl hbA hS rfl (Nat.le_of_ble_eq_true rfl) rfl dL_law_1547 ?_
  refine lv_aload_n hx hb dL_law_1548 rfl (lv_at hl 5 rfl) ?_
  refine lv_iload hx hb dL_law_1549 (lv_at hl 1 rfl) ?_
  refine lv_iconst (v := 5) hx hb dL_law_1551 (by decide) ?_
  refine lv_iadd hx hb dL_law_1552 ?_
  refine z_cst (v := 5) (by decide +kernel) ?_
  refine z_sld (v := (xs 5)) (j := 5) hx hb hX hbl hbA hS rfl (Nat.le_of_ble_eq_true rfl) rfl dL_law_1553 ?_
  refine lv_aload_n hx hb dL_law_1554 rfl (lv_at hl 5 rfl) ?_
  refine lv_iload hx hb dL_law_1555 (lv_at hl 1 rfl) ?_
  refine lv_bipush (v := 6) hx hb dL_law_1557 (by decide) ?_
  refine lv_iadd hx hb dL_law_1559 ?_
  refine z_cst (v := 6) (by decide +kernel) ?_
  refine z_sld (v := 0) (j := 6) hx hb hX hbl hbA hS rfl (Nat.le_of_ble_eq_true rfl) h0 dL_law_1560 ?_
  refine lv_if_eq (tgt := 1568) hx hb dL_law_1561 (by decide) (fun _ => ?_) (fun c => absurd (by decide) c)
  refine lv_iconst (v := 0) hx hb dL_law_1568 (by decide) ?_
  refine z_calli [(qm, zO 10 83 (zc71 u v)), ((v 49), zI K 10 (fun _ => 0)), ((v 7), zI K 1290 (fun _ => 0)), ((v 8), zI K 1290 (fun _ => 0)), ((v 12), zI K 1290 (fun _ => 0)), ((v 44), zI K 900 (fun _ => 0)), ((v 45), zI K 900 (fun _ => 0)), ((v 46), zI K 900 (fun _ => 0)), ((v 47), zI K 900 (fun _ => 0)), ((v 25), zI K 60000 (fun _ => 0)), ((v 13), zI K 16 (fun _ => 0)), ((v 42), zI K 210000 (fun _ => 0)), ((v 43), zI K 210000 (fun _ => 0)), ((v 26), zI K 60000 (fun _ => 0)), ((v 27), zI K 60000 (fun _ => 0)), ((v 28), zI K 60000 (fun _ => 0)), ((v 29), zI K 60000 (fun _ => 0)), ((v 30), zI K 60000 (fun _ => 0)), ((v 31), zI K 60000 (fun _ => 0))] [(qo, zJ K 1 (va_up (fun _ => 0) 0 5))] [0, 18, 1, 2, 3, 14, 15, 16, 17, 5, 4, 12, 13, 6, 7, 8, 9, 10, 11] [19] hP hD hS hA rfl rfl (by decide +kernel) (by decide +kernel) (by decide +kernel) 128 1867719 rfl rfl (fun hPc hDc hF => z_runV (As := [.int (nI t1), .int 2, .int (xs 3), .int (xs 4), .int (xs 5), .int 0]) (rest := []) ⟨hx, hb, hml, hown, hg⟩ (cX12_run_16 l K H.size qm (v 49) (v 7) (v 8) (v 12) (v 44) (v 45) (v 46) (v 47) (v 25) (v 13) (v 42) (v 43) (v 26) (v 27) (v 28) (v 29) (v 30) (v 31) (zc71 u v) (fun _ => 0) (fun _ => 0) (fun _ => 0) (fun _ => 0) (fun _ => 0) (fun _ => 0) (fun _ => 0) (fun _ => 0) (fun _ => 0) (fun _ => 0) (fun _ => 0) (fun _ => 0) (fun _ => 0) (fun _ => 0) (fun _ => 0) (fun _ => 0) (fun _ => 0) (fun _ => 0) t1 ht1 (xs 3) (xs 4) (xs 5) (by rw [Int32.lt_iff_toInt_lt, show (0 : Int32).toInt = 0 from by decide]; omega) (by rw [Int32.lt_iff_toInt_lt, show (600 : Int32).toInt = 600 from by decide]; omega) (zc71_80 u v) (zc71_8 u v) (zc71_9 u v) (zc71_13 u v) (zc71_57 u v) (fun c9 => h7 c9.symm) (zc71_73 u v) (zc71_74 u v) (zc71_75 u v) (zc71_76 u v) (fun c9 => h10 c9.symm) (fun c9 => h11 c9.symm) (zc71_33 u v) (fun _ => rfl) (zc71_14 u v) (fun _ => rfl) (zc71_32 u v) (zc71_52 u v) (zc71_40 u v) (zc71_46 u v) (zc71_53 u v) (zc71_34 u v) rfl (zc71_35 u v) (zc71_36 u v) (zc71_37 u v) rfl (zc71_38 u v) (zc71_39 u v) rfl rfl rfl rfl rfl rfl rfl rfl rfl rfl rfl rfl rfl rfl rfl rfl rfl rfl rfl rfl rfl rfl rfl rfl rfl rfl rfl rfl rfl rfl rfl rfl rfl rfl rfl rfl rfl rfl rfl rfl rfl rfl rfl rfl rfl rfl) kV_RL_169 hd_X12_run rfl rfl ⟨(Nat.le_of_ble_eq_true rfl), (Nat.le_of_ble_eq_true rfl)⟩ hK hS hZ hPc hDc hF 0 rfl rfl rfl hl.1 rfl (Nat.le_of_ble_eq_true rfl) dL_law_1569 ⟨(Nat.le_of_ble_eq_true rfl), (Nat.le_of_ble_eq_true rfl)⟩) (fun r6 u4 H locs w5 hP hD hS => ?_)
  subst w5
  have hP : va_P K.1 classes [(qo, zJ K 1 (va_up (fun _ => 0) 0 5)), (qm, zO 10 83 (va_up (va_up (va_up (va_up (va_up (va_up (va_up (va_up (va_up (va_up (va_up (va_up (va_up (va_up (va_up (va_up (va_up (va_up (va_up (va_up (va_up (va_up (va_up (va_up (va_up (va_up (va_up (va_up (va_up (va_up (va_up (va_up (va_up (va_up (va_up (va_up (va_up (va_up (va_up (va_up (va_up (va_up (va_up (va_up (va_up (va_up (va_up (va_up (va_up (va_up (va_up (va_up (va_up (va_up (va_up (va_up (va_up (va_up (va_up (va_up (va_up (va_up (va_up (va_up (va_up (va_up (zc71 u v) 81 (.int 0)) 56 (.int 0)) 60 (.int (xs 5))) 79 (.int 0)) 55 (.int 0)) 58 (.int 0)) 59 (.int 600)) 72 (.int 0)) 77 (.int 0)) 62 (.int 1280)) 63 (.int (-1))) 64 (.int 0)) 65 (.int 0)) 61 (.int (-1))) 58 (.int 1)) 72 (.int 1)) 62 (.int 1281)) 63 (.int (-1))) 64 (.int 0)) 65 (.int 0)) 58 (.int 2)) 72 (.int 2)) 62 (.int 1282)) 63 (.int (-1))) 64 (.int 0)) 65 (.int 0)) 58 (.int 3)) 61 (.int 5)) 72 (.int 1)) 72 (.int 0)) 54 (.int 0)) 54 (.int 1)) 54 (.int 2)) 54 (.int 3)) 54 (.int 4)) 54 (.int 5)) 54 (.int 6)) 54 (.int 7)) 54 (.int 8)) 54 (.int 9)) 54 (.int 10)) 54 (.int 11)) 54 (.int 12)) 54 (.int 13)) 54 (.int 14)) 54 (.int 15)) 54 (.int 16)) 54 (.int 15)) 54 (.int 14)) 54 (.int 13)) 54 (.int 12)) 54 (.int 11)) 54 (.int 10)) 54 (.int 9)) 54 (.int 8)) 54 (.int 7)) 54 (.int 6)) 54 (.int 5)) 54 (.int 4)) 54 (.int 3)) 54 (.int 2)) 54 (.int 1)) 54 (.int 0)) 32 (.int 16)) 40 (.int 0)) 46 (.int 0)))] H := hP
  have hD : va_D A [(qo, zJ K 1 (va_up (fun _ => 0) 0 5)), (qm, zO 10 83 (va_up (va_up (va_up (va_up (va_up (va_up (va_up (va_up (va_up (va_up (va_up (va_up (va_up (va_up (va_up (va_up (va_up (va_up (va_up (va_up (va_up (va_up (va_up (va_up (va_up (va_up (va_up (va_up (va_up (va_up (va_up (va_up (va_up (va_up (va_up (va_up (va_up (va_up (va_up (va_up (va_up (va_up (va_up (va_up (va_up (va_up (va_up (va_up (va_up (va_up (va_up (va_up (va_up (va_up (va_up (va_up (va_up (va_up (va_up (va_up (va_up (va_up (va_up (va_up (va_up (va_up (zc71 u v) 81 (.int 0)) 56 (.int 0)) 60 (.int (xs 5))) 79 (.int 0)) 55 (.int 0)) 58 (.int 0)) 59 (.int 600)) 72 (.int 0)) 77 (.int 0)) 62 (.int 1280)) 63 (.int (-1))) 64 (.int 0)) 65 (.int 0)) 61 (.int (-1))) 58 (.int 1)) 72 (.int 1)) 62 (.int 1281)) 63 (.int (-1))) 64 (.int 0)) 65 (.int 0)) 58 (.int 2)) 72 (.int 2)) 62 (.int 1282)) 63 (.int (-1))) 64 (.int 0)) 65 (.int 0)) 58 (.int 3)) 61 (.int 5)) 72 (.int 1)) 72 (.int 0)) 54 (.int 0)) 54 (.int 1)) 54 (.int 2)) 54 (.int 3)) 54 (.int 4)) 54 (.int 5)) 54 (.int 6)) 54 (.int 7)) 54 (.int 8)) 54 (.int 9)) 54 (.int 10)) 54 (.int 11)) 54 (.int 12)) 54 (.int 13)) 54 (.int 14)) 54 (.int 15)) 54 (.int 16)) 54 (.int 15)) 54 (.int 14)) 54 (.int 13)) 54 (.int 12)) 54 (.int 11)) 54 (.int 10)) 54 (.int 9)) 54 (.int 8)) 54 (.int 7)) 54 (.int 6)) 54 (.int 5)) 54 (.int 4)) 54 (.int 3)) 54 (.int 2)) 54 (.int 1)) 54 (.int 0)) 32 (.int 16)) 40 (.int 0)) 46 (.int 0)))] := hD
  refine lv_istore (lv' := [(6, .int 5), (5, .int 0), (4, .int 0), (3, .ref qo), (2, .ref qm), (1, .ref qx), (0, .ref b)]) hx hb dL_law_1572 hl (by decide) rfl (fun ls hl => ?_)
  refine lv_aload_n hx hb dL_law_1574 rfl (lv_at hl 4 rfl) ?_
  refine z_calli [(qm, zO 10 83 (va_up (va_up (va_up (va_up (va_up (va_up (va_up (va_up (va_up (va_up (va_up (va_up (va_up (va_up (va_up (va_up (va_up (va_up (va_up (va_up (va_up (va_up (va_up (va_up (va_up (va_up (va_up (va_up (va_up (va_up (va_up (va_up (va_up (va_up (va_up (va_up (va_up (va_up (va_up (va_up (va_up (va_up (va_up (va_up (va_up (va_up (va_up (va_up (va_up (va_up (va_up (va_up (va_up (va_up (va_up (va_up (va_up (va_up (va_up (va_up (va_up (va_up (va_up (va_up (va_up (va_up (zc71 u v) 81 (.int 0)) 56 (.int 0)) 60 (.int (xs 5))) 79 (.int 0)) 55 (.int 0)) 58 (.int 0)) 59 (.int 600)) 72 (.int 0)) 77 (.int 0)) 62 (.int 1280)) 63 (.int (-1))) 64 (.int 0)) 65 (.int 0)) 61 (.int (-1))) 58 (.int 1)) 72 (.int 1)) 62 (.int 1281)) 63 (.int (-1))) 64 (.int 0)) 65 (.int 0)) 58 (.int 2)) 72 (.int 2)) 62 (.int 1282)) 63 (.int (-1))) 64 (.int 0)) 65 (.int 0)) 58 (.int 3)) 61 (.int 5)) 72 (.int 1)) 72 (.int 0)) 54 (.int 0)) 54 (.int 1)) 54 (.int 2)) 54 (.int 3)) 54 (.int 4)) 54 (.int 5)) 54 (.int 6)) 54 (.int 7)) 54 (.int 8)) 54 (.int 9)) 54 (.int 10)) 54 (.int 11)) 54 (.int 12)) 54 (.int 13)) 54 (.int 14)) 54 (.int 15)) 54 (.int 16)) 54 (.int 15)) 54 (.int 14)) 54 (.int 13)) 54 (.int 12)) 54 (.int 11)) 54 (.int 10)) 54 (.int 9)) 54 (.int 8)) 54 (.int 7)) 54 (.int 6)) 54 (.int 5)) 54 (.int 4)) 54 (.int 3)) 54 (.int 2)) 54 (.int 1)) 54 (.int 0)) 32 (.int 16)) 40 (.int 0)) 46 (.int 0)))] [(qo, zJ K 1 (va_up (fun _ => 0) 0 5))] [1] [0] hP hD hS hA rfl rfl (by decide +kernel) (by decide +kernel) (by decide +kernel) 128 1867719 rfl rfl (fun hPc hDc hF => z_runV (As := []) (rest := []) ⟨hx, hb, hml, hown, hg⟩ (cX12_thrown_1 l K H.size qm (va_up (va_up (va_up (va_up (va_up (va_up (va_up (va_up (va_up (va_up (va_up (va_up (va_up (va_up (va_up (va_up (va_up (va_up (va_up (va_up (va_up (va_up (va_up (va_up (va_up (va_up (va_up (va_up (va_up (va_up (va_up (va_up (va_up (va_up (va_up (va_up (va_up (va_up (va_up (va_up (va_up (va_up (va_up (va_up (va_up (va_up (va_up (va_up (va_up (va_up (va_up (va_up (va_up (va_up (va_up (va_up (va_up (va_up (va_up (va_up (va_up (va_up (va_up (va_up (va_up (va_up (zc71 u v) 81 (.int 0)) 56 (.int 0)) 60 (.int (xs 5))) 79 (.int 0)) 55 (.int 0)) 58 (.int 0)) 59 (.int 600)) 72 (.int 0)) 77 (.int 0)) 62 (.int 1280)) 63 (.int (-1))) 64 (.int 0)) 65 (.int 0)) 61 (.int (-1))) 58 (.int 1)) 72 (.int 1)) 62 (.int 1281)) 63 (.int (-1))) 64 (.int 0)) 65 (.int 0)) 58 (.int 2)) 72 (.int 2)) 62 (.int 1282)) 63 (.int (-1))) 64 (.int 0)) 65 (.int 0)) 58 (.int 3)) 61 (.int 5)) 72 (.int 1)) 72 (.int 0)) 54 (.int 0)) 54 (.int 1)) 54 (.int 2)) 54 (.int 3)) 54 (.int 4)) 54 (.int 5)) 54 (.int 6)) 54 (.int 7)) 54 (.int 8)) 54 (.int 9)) 54 (.int 10)) 54 (.int 11)) 54 (.int 12)) 54 (.int 13)) 54 (.int 14)) 54 (.int 15)) 54 (.int 16)) 54 (.int 15)) 54 (.int 14)) 54 (.int 13)) 54 (.int 12)) 54 (.int 11)) 54 (.int 10)) 54 (.int 9)) 54 (.int 8)) 54 (.int 7)) 54 (.int 6)) 54 (.int 5)) 54 (.int 4)) 54 (.int 3)) 54 (.int 2)) 54 (.int 1)) 54 (.int 0)) 32 (.int 16)) 40 (.int 0)) 46 (.int 0)) (zu_ne (by decide) (zu_ne (by decide) (zu_ne (by decide) (zu_ne (by decide) (zu_ne (by decide) (zu_ne (by decide) (zu_ne (by decide) (zu_ne (by decide) (zu_ne (by decide) (zu_ne (by decide) (zu_ne (by decide) (zu_ne (by decide) (zu_ne (by decide) (zu_ne (by decide) (zu_ne (by decide) (zu_ne (by decide) (zu_ne (by decide) (zu_ne (by decide) (zu_ne (by decide) (zu_ne (by decide) (zu_ne (by decide) (zu_ne (by decide) (zu_ne (by decide) (zu_ne (by decide) (zu_ne (by decide) (zu_ne (by decide) (zu_ne (by decide) (zu_ne (by decide) (zu_ne (by decide) (zu_ne (by decide) (zu_ne (by decide) (zu_ne (by decide) (zu_ne (by decide) (zu_ne (by decide) (zu_ne (by decide) (zu_ne (by decide) (zu_ne (by decide) (zu_ne (by decide) (zu_ne (by decide) (zu_ne (by decide) (zu_ne (by decide) (zu_ne (by decide) (zu_ne (by decide) (zu_ne (by decide) (zu_ne (by decide) (zu_ne (by decide) (zu_ne (by decide) (zu_ne (by decide) (zu_ne (by decide) (zu_ne (by decide) (zu_ne (by decide) (zu_ne (by decide) (zu_ne (by decide) (zu_ne (by decide) (zu_ne (by decide) (zu_ne (by decide) (zu_ne (by decide) (zu_ne (by decide) (zu_ne (by decide) (zu_ne (by decide) (zu_ne (by decide) (zu_ne (by decide) (zu_ne (by decide) (zu_ne (by decide) (zu_ne (by decide) zu_eq)))))))))))))))))))))))))))))))))))))))))))))))))))))))))))))))))) kV_RL_104 hd_X12_thrown rfl rfl ⟨(Nat.le_of_ble_eq_true rfl), (Nat.le_of_ble_eq_true rfl)⟩ hK hS hZ hPc hDc hF 0 rfl rfl rfl hl.1 rfl (Nat.le_of_ble_eq_true rfl) dL_law_1575 ⟨(Nat.le_of_ble_eq_true rfl), (Nat.le_of_ble_eq_true rfl)⟩) (fun r9 u7 H locs w8 hP hD hS => ?_)
  subst w8
  have hP : va_P K.1 classes [(qo, zJ K 1 (va_up (fun _ => 0) 0 5)), (qm, zO 10 83 (va_up (va_up (va_up (va_up (va_up (va_up (va_up (va_up (va_up (va_up (va_up (va_up (va_up (va_up (va_up (va_up (va_up (va_up (va_up (va_up (va_up (va_up (va_up (va_up (va_up (va_up (va_up (va_up (va_up (va_up (va_up (va_up (va_up (va_up (va_up (va_up (va_up (va_up (va_up (va_up (va_up (va_up (va_up (va_up (va_up (va_up (va_up (va_up (va_up (va_up (va_up (va_up (va_up (va_up (va_up (va_up (va_up (va_up (va_up (va_up (va_up (va_up (va_up (va_up (va_up (va_up (zc71 u v) 81 (.int 0)) 56 (.int 0)) 60 (.int (xs 5))) 79 (.int 0)) 55 (.int 0)) 58 (.int 0)) 59 (.int 600)) 72 (.int 0)) 77 (.int 0)) 62 (.int 1280)) 63 (.int (-1))) 64 (.int 0)) 65 (.int 0)) 61 (.int (-1))) 58 (.int 1)) 72 (.int 1)) 62 (.int 1281)) 63 (.int (-1))) 64 (.int 0)) 65 (.int 0)) 58 (.int 2)) 72 (.int 2)) 62 (.int 1282)) 63 (.int (-1))) 64 (.int 0)) 65 (.int 0)) 58 (.int 3)) 61 (.int 5)) 72 (.int 1)) 72 (.int 0)) 54 (.int 0)) 54 (.int 1)) 54 (.int 2)) 54 (.int 3)) 54 (.int 4)) 54 (.int 5)) 54 (.int 6)) 54 (.int 7)) 54 (.int 8)) 54 (.int 9)) 54 (.int 10)) 54 (.int 11)) 54 (.int 12)) 54 (.int 13)) 54 (.int 14)) 54 (.int 15)) 54 (.int 16)) 54 (.int 15)) 54 (.int 14)) 54 (.int 13)) 54 (.int 12)) 54 (.int 11)) 54 (.int 10)) 54 (.int 9)) 54 (.int 8)) 54 (.int 7)) 54 (.int 6)) 54 (.int 5)) 54 (.int 4)) 54 (.int 3)) 54 (.int 2)) 54 (.int 1)) 54 (.int 0)) 32 (.int 16)) 40 (.int 0)) 46 (.int 0)))] H := hP
  have hD : va_D A [(qo, zJ K 1 (va_up (fun _ => 0) 0 5)), (qm, zO 10 83 (va_up (va_up (va_up (va_up (va_up (va_up (va_up (va_up (va_up (va_up (va_up (va_up (va_up (va_up (va_up (va_up (va_up (va_up (va_up (va_up (va_up (va_up (va_up (va_up (va_up (va_up (va_up (va_up (va_up (va_up (va_up (va_up (va_up (va_up (va_up (va_up (va_up (va_up (va_up (va_up (va_up (va_up (va_up (va_up (va_up (va_up (va_up (va_up (va_up (va_up (va_up (va_up (va_up (va_up (va_up (va_up (va_up (va_up (va_up (va_up (va_up (va_up (va_up (va_up (va_up (va_up (zc71 u v) 81 (.int 0)) 56 (.int 0)) 60 (.int (xs 5))) 79 (.int 0)) 55 (.int 0)) 58 (.int 0)) 59 (.int 600)) 72 (.int 0)) 77 (.int 0)) 62 (.int 1280)) 63 (.int (-1))) 64 (.int 0)) 65 (.int 0)) 61 (.int (-1))) 58 (.int 1)) 72 (.int 1)) 62 (.int 1281)) 63 (.int (-1))) 64 (.int 0)) 65 (.int 0)) 58 (.int 2)) 72 (.int 2)) 62 (.int 1282)) 63 (.int (-1))) 64 (.int 0)) 65 (.int 0)) 58 (.int 3)) 61 (.int 5)) 72 (.int 1)) 72 (.int 0)) 54 (.int 0)) 54 (.int 1)) 54 (.int 2)) 54 (.int 3)) 54 (.int 4)) 54 (.int 5)) 54 (.int 6)) 54 (.int 7)) 54 (.int 8)) 54 (.int 9)) 54 (.int 10)) 54 (.int 11)) 54 (.int 12)) 54 (.int 13)) 54 (.int 14)) 54 (.int 15)) 54 (.int 16)) 54 (.int 15)) 54 (.int 14)) 54 (.int 13)) 54 (.int 12)) 54 (.int 11)) 54 (.int 10)) 54 (.int 9)) 54 (.int 8)) 54 (.int 7)) 54 (.int 6)) 54 (.int 5)) 54 (.int 4)) 54 (.int 3)) 54 (.int 2)) 54 (.int 1)) 54 (.int 0)) 32 (.int 16)) 40 (.int 0)) 46 (.int 0)))] := hD
  refine lv_iload hx hb dL_law_1578 (lv_at hl 1 rfl) ?_
  refine lv_icmp_eq (tgt := 1585) hx hb dL_law_1580 (by decide) (fun _ => ?_) (fun c => absurd (by decide) c)
  refine lv_iload hx hb dL_law_1585 (lv_at hl 1 rfl) ?_
  refine lv_if_ne (tgt := 1602) hx hb dL_law_1587 (by decide) (fun c => absurd (by decide) c) (fun _ => ?_)
  refine lv_aload_n hx hb dL_law_1590 rfl (lv_at hl 3 rfl) ?_
  refine lv_iconst (v := 0) hx hb dL_law_1591 (by decide) ?_
  refine z_lald (v := 5) (j := 0) hx hb hK hP 0 rfl rfl (Nat.le_of_ble_eq_true rfl) (Nat.le_of_ble_eq_true rfl) zu_eq dL_law_1592 ?_
  refine lv_iload hx hb dL_law_1593 (lv_at hl 0 rfl) ?_
  refine lv_i2l hx hb dL_law_1595 rfl ?_
  refine z_cstl (v := 5) (by decide +kernel) ?_
  refine W.lcmp hx hb dL_law_1596 ?_
  refine z_cst (v := 0) (by decide +kernel) ?_
  refine lv_if_eq (tgt := 1602) hx hb dL_law_1597 (by decide) (fun _ => ?_) (fun c => absurd (by decide) c)
  refine lv_goto (tgt := 2026) hx hb dL_law_1602 (by decide) ?_
  exact law_back ⟨hx, hb, hr, hml, hown, hg, hX, hbl, hlocks, hK, hZ, hl9, hAA, hA, hbA⟩ (Nat.le_of_ble_eq_true rfl) (Nat.le_of_ble_eq_true rfl) hS (lv_sub hl [2, 6] rfl)
set_option maxHeartbeats 4000000 in
set_option maxRecDepth 100000 in
theorem lawS_19_16 {p : Program} {l : Launch} {e : Env} {s : State} {m : MethodId} {below : List Frame} {meth : Method} {c : Code} {b : Nat} {xs : Nat → Int32} {K : zK} {A : Nat → Prop} {H : Heap} {locs : List Loc} {ls : Array Slot} (C : zC p l s m meth c b xs K A) (qx qm qo : Nat) (u v : Nat → Nat) (h0 : xs 6 = 0) (h1 : 0 ≤ (xs 5).toInt) (h2 : (xs 5).toInt < 601) (h3 : 0 ≤ (xs 1).toInt) (h4 : (xs 1).toInt < 8) (h5 : 0 ≤ (xs 2).toInt) (h6 : 3 ≤ (xs 2).toInt) (hP : va_P K.1 classes (lwW K qx qm qo u v) H) (hD : va_D A (lwW K qx qm qo u v)) (hS : va_S A s.heap H locs) (hl : lv_has ls 7 [(4, .int 0), (3, .ref qo), (2, .ref qm), (1, .ref qx), (0, .ref b)]) : W p l e room_1 s m #[Value.ref b] below meth c H locs 124 1863516 (lw_Z below #[Value.ref b] s) (F0 m 1471 ls []) := by
  obtain ⟨hx, hb, hr, hml, hown, hg, hX, hbl, hlocks, hK, hZ, hl9, hAA, hA, hbA⟩ := C
  have hP : va_P K.1 classes [(qx, zO 9 9 (zc0 u v)), (qm, zO 10 83 (zc71 u v)), (qo, zJ K 1 (fun _ => 0))] H := hP.sub [0, 71, 123] rfl
  have hD : va_D A [(qx, zO 9 9 (zc0 u v)), (qm, zO 10 83 (zc71 u v)), (qo, zJ K 1 (fun _ => 0))] := hD.sub [0, 71, 123] (by decide +kernel) rfl
  obtain ⟨t1, ht1, v1⟩ : ∃ j : Nat, j < 8 ∧ xs 1 = nI j := z_nat (n := 8) (by omega) (by omega) (by decide)
  refine lv_aload_n hx hb dL_law_1471 rfl (lv_at hl 3 rfl) ?_
  refine lv_aload_n hx hb dL_law_1472 rfl (lv_at hl 4 rfl) ?_
  refine lv_iload hx hb dL_law_1473 (lv_at hl 0 rfl) ?_
  refine lv_iconst (v := 1) hx hb dL_law_1475 (by decide) ?_
  refine lv_iadd hx hb dL_law_1476 ?_
  refine z_cst (v := 1) (by decide +kernel) ?_
  refine z_sld (v := (nI t1)) (j := 1) hx hb hX hbl hbA hS rfl (Nat.le_of_ble_eq_true rfl) v1 dL_law_1477 ?_
  refine lv_aload_n hx hb dL_law_1478 rfl (lv_at hl 4 rfl) ?_
  refine lv_iload hx hb dL_law_1479 (lv_at hl 0 rfl) ?_
  refine lv_iconst (v := 2) hx hb dL_law_1481 (by decide) ?_
  refine lv_iadd hx hb dL_law_1482 ?_
  refine z_cst (v := 2) (by decide +kernel) ?_
  refine z_sld (v := (xs 2)) (j := 2) hx hb hX hbl hbA hS rfl (Nat.le_of_ble_eq_true rfl) rfl dL_law_1483 ?_
  refine lv_aload_n hx hb dL_law_1484 rfl (lv_at hl 4 rfl) ?_
  refine lv_iload hx hb dL_law_1485 (lv_at hl 0 rfl) ?_
  refine lv_iconst (v := 3) hx hb dL_law_1487 (by decide) ?_
  refine lv_iadd hx hb dL_law_1488 ?_
  refine z_cst (v := 3) (by decide +kernel) ?_
  refine z_sld (v := (xs 3)) (j := 3) hx hb hX hbl hbA hS rfl (Nat.le_of_ble_eq_true rfl) rfl dL_law_1489 ?_
  refine lv_aload_n hx hb dL_law_1490 rfl (lv_at hl 4 rfl) ?_
  refine lv_iload hx hb dL_law_1491 (lv_at hl 0 rfl) ?_
  refine lv_iconst (v := 4) hx hb dL_law_1493 (by decide) ?_
  refine lv_iadd hx hb dL_law_1494 ?_
  refine z_cst (v := 4) (by decide +kernel) ?_
  refine z_sld (v := (xs 4)) (j := 4) hx hb hX hbl hbA hS rfl (Nat.le_of_ble_eq_true rfl) rfl dL_law_1495 ?_
  refine lv_aload_n hx hb dL_law_1496 rfl (lv_at hl 4 rfl) ?_
  refine lv_iload hx hb dL_law_1497 (lv_at hl 0 rfl) ?_
  refine lv_iconst (v := 5) hx hb dL_law_1499 (by decide) ?_
  refine lv_iadd hx hb dL_law_1500 ?_
  refine z_cst (v := 5) (by decide +kernel) ?_
  refine z_sld (v := (xs 5)) (j := 5) hx hb hX hbl hbA hS rfl (Nat.le_of_ble_eq_true rfl) rfl dL_law_1501 ?_
  refine lv_aload_n hx hb dL_law_1502 rfl (lv_at hl 4 rfl) ?_
  refine lv_iload hx hb dL_law_1503 (lv_at hl 0 rfl) ?_
  refine lv_bipush (v := 6) hx hb dL_law_1505 (by decide) ?_
  refine lv_iadd hx hb dL_law_1507 ?_
  refine z_cst (v := 6) (by decide +kernel) ?_
  refine z_sld (v := 0) (j := 6) hx hb hX hbl hbA hS rfl (Nat.le_of_ble_eq_true rfl) h0 dL_law_1508 ?_
  refine lv_if_eq (tgt := 1516) hx hb dL_law_1509 (by decide) (fun _ => ?_) (fun c => absurd (by decide) c)
  refine lv_iconst (v := 0) hx hb dL_law_1516 (by decide) ?_
  refine lv_aload_n hx hb dL_law_1517 rfl (lv_at hl 1 rfl) ?_
  refine z_hcalli [(qx, zO 9 9 (zc0 u v))] [(qm, zO 10 83 (zc71 u v)), (qo, zJ K 1 (fun _ => 0))] [0] [1, 2] hP hD hS hA rfl rfl (by decide +kernel) (by decide +kernel) (by decide +kernel) 125 1863522 rfl rfl (fun hPc hDc hF => z_xrunH (As := [.ref qx, .int (nI t1), .int (xs 2), .int (xs 3), .int (xs 4), .int (xs 5), .int 0, .ref qo]) (rest := []) ⟨hx, hb, hml, hown, hg⟩ (cL_run_17 l hl9 K H.size qx qo (zc0 u v) t1 ht1 (xs 2) (xs 3) (xs 4) (xs 5) (by rw [Int32.lt_iff_toInt_lt, show (0 : Int32).toInt = 0 from by decide]; omega) (by rw [Int32.lt_iff_toInt_lt, show (601 : Int32).toInt = 601 from by decide]; omega) (by rw [Int32.lt_iff_toInt_lt, show (0 : Int32).toInt = 0 from by decide]; omega) (by rw [Int32.lt_iff_toInt_lt, show (3 : Int32).toInt = 3 from by decide]; omega)) kS_RL_166 hd_L_run rfl rfl ⟨(Nat.le_of_ble_eq_true rfl), (Nat.le_of_ble_eq_true rfl)⟩ hK hS hZ hPc hDc hF rfl hl.1 rfl (Nat.le_of_ble_eq_true rfl) dL_law_1518 ⟨(Nat.le_of_ble_eq_true rfl), (Nat.le_of_ble_eq_true rfl)⟩) (fun r3 u1 H locs w2 hP hD hS => ?_)
  subst w2
  have hP : va_P K.1 classes [(qm, zO 10 83 (zc71 u v)), (qo, zJ K 1 (fun _ => 0))] H := hP
  have hD : va_D A [(qm, zO 10 83 (zc71 u v)), (qo, zJ K 1 (fun _ => 0))] := hD
  refine lv_istore (lv' := [(5, .int 1), (4, .int 0), (3, .ref qo), (2, .ref qm), (1, .ref qx), (0, .ref b)]) hx hb dL_law_1521 hl (by decide) rfl (fun ls hl => ?_)
  refine lv_aload_n hx hb dL_law_1523 rfl (lv_at hl 3 rfl) ?_
  refine lv_aload_n hx hb dL_law_1524 rfl (lv_at hl 5 rfl) ?_
  refine lv_iload hx hb dL_law_1525 (lv_at hl 1 rfl) ?_
  refine lv_iconst (v := 1) hx hb dL_law_1527 (by decide) ?_
  refine lv_iadd hx hb dL_law_1528 ?_
  refine z_cst (v := 1) (by decide +kernel) ?_
  refine z_sld (v := (nI t1)) (j := 1) hx hb hX hbl hbA hS rfl (Nat.le_of_ble_eq_true rfl) v1 dL_law_1529 ?_
  refine lv_aload_n hx hb dL_law_1530 rfl (lv_at hl 5 rfl) ?_
  refine lv_iload hx hb dL_law_1531 (lv_at hl 1 rfl) ?_
  refine lv_iconst (v := 2) hx hb dL_law_1533 (by decide) ?_
  refine lv_iadd hx hb dL_law_1534 ?_
  refine z_cst (v := 2) (by decide +kernel) ?_
  refine z_sld (v := (xs 2)) (j := 2) hx hb hX hbl hbA hS rfl (Nat.le_of_ble_eq_true rfl) rfl dL_law_1535 ?_
  refine lv_aload_n hx hb dL_law_1536 rfl (lv_at hl 5 rfl) ?_
  refine lv_iload hx hb dL_law_1537 (lv_at hl 1 rfl) ?_
  refine lv_iconst (v := 3) hx hb dL_law_1539 (by decide) ?_
  refine lv_iadd hx hb dL_law_1540 ?_
  refine z_cst (v := 3) (by decide +kernel) ?_
  refine z_sld (v := (xs 3)) (j := 3) hx hb hX hbl hbA hS rfl (Nat.le_of_ble_eq_true rfl) rfl dL_law_1541 ?_
  refine lv_aload_n hx hb dL_law_1542 rfl (lv_at hl 5 rfl) ?_
  refine lv_iload hx hb dL_law_1543 (lv_at hl 1 rfl) ?_
  refine lv_iconst (v := 4) hx hb dL_law_1545 (by decide) ?_
  refine lv_iadd hx hb dL_law_1546 ?_
  refine z_cst (v := 4) (by decide +kernel) ?_
  refine z_sld (v := (xs 4)) (j := 4) hx hb hX hbl hbA hS rfl (Nat.le_of_ble_eq_true rfl) rfl dL_law_1547 ?_
  refine lv_aload_n hx hb dL_law_1548 rfl (lv_at hl 5 rfl) ?_
  refine lv_iload hx hb dL_law_1549 (lv_at hl 1 rfl) ?_
  refine lv_iconst (v := 5) hx hb dL_law_1551 (by decide) ?_
  refine lv_iadd hx hb dL_law_1552 ?_
  refine z_cst (v := 5) (by decide +kernel) ?_
  refine z_sld (v := (xs 5)) (j := 5) hx hb hX hbl hbA hS rfl (Nat.le_of_ble_eq_true rfl) rfl dL_law_1553 ?_
  refine lv_aload_n hx hb dL_law_1554 rfl (lv_at hl 5 rfl) ?_
  refine lv_iload hx hb dL_law_1555 (lv_at hl 1 rfl) ?_
  refine lv_bipush (v := 6) hx hb dL_law_1557 (by decide) ?_
  refine lv_iadd hx hb dL_law_1559 ?_
  refine z_cst (v := 6) (by decide +kernel) ?_
  refine z_sld (v := 0) (j := 6) hx hb hX hbl hbA hS rfl (Nat.le_of_ble_eq_true rfl) h0 dL_law_1560 ?_
  refine lv_if_eq (tgt := 1568) hx hb dL_law_1561 (by decide) (fun _ => ?_) (fun c => absurd (by decide) c)
  refine lv_iconst (v := 0) hx hb dL_law_1568 (by decide) ?_
  refine z_calli [(qm, zO 10 83 (zc71 u v))] [(qo, zJ K 1 (fun _ => 0))] [0] [1] hP hD hS hA rfl rfl (by decide +kernel) (by decide +kernel) (by decide +kernel) 125 1863522 rfl rfl (fun hPc hDc hF => z_runV (As := [.int (nI t1), .int (xs 2), .int (xs 3), .int (xs 4), .int (xs 5), .int 0]) (rest := []) ⟨hx, hb, hml, hown, hg⟩ (cX12_run_17 l K H.size qm (zc71 u v) t1 ht1 (xs 2) (xs 3) (xs 4) (xs 5) (by rw [Int32.lt_iff_toInt_lt, show (0 : Int32).toInt = 0 from by decide]; omega) (by rw [Int32.lt_iff_toInt_lt, show (600 : Int32).toInt = 600 from by decide]; omega) (by rw [Int32.lt_iff_toInt_lt, show (0 : Int32).toInt = 0 from by decide]; omega) (by rw [Int32.lt_iff_toInt_lt, show (2 : Int32).toInt = 2 from by decide]; omega)) kV_RL_169 hd_X12_run rfl rfl ⟨(Nat.le_of_ble_eq_true rfl), (Nat.le_of_ble_eq_true rfl)⟩ hK hS hZ hPc hDc hF 0 rfl rfl rfl hl.1 rfl (Nat.le_of_ble_eq_true rfl) dL_law_1569 ⟨(Nat.le_of_ble_eq_true rfl), (Nat.le_of_ble_eq_true rfl)⟩) (fun r6 u4 H locs w5 hP hD hS => ?_)
  subst w5
  have hP : va_P K.1 classes [(qo, zJ K 1 (fun _ => 0)), (qm, zO 10 83 (va_up (zc71 u v) 81 (.int 1)))] H := hP
  have hD : va_D A [(qo, zJ K 1 (fun _ => 0)), (qm, zO 10 83 (va_up (zc71 u v) 81 (.int 1)))] := hD
  refine lv_istore (lv' := [(6, .int 0), (5, .int 1), (4, .int 0), (3, .ref qo), (2, .ref qm), (1, .ref qx), (0, .ref b)]) hx hb dL_law_1572 hl (by decide) rfl (fun ls hl => ?_)
  refine lv_aload_n hx hb dL_law_1574 rfl (lv_at hl 4 rfl) ?_
  refine z_calli [(qm, zO 10 83 (va_up (zc71 u v) 81 (.int 1)))] [(qo, zJ K 1 (fun _ => 0))] [1] [0] hP hD hS hA rfl rfl (by decide +kernel) (by decide +kernel) (by decide +kernel) 125 1863522 rfl rfl (fun hPc hDc hF => z_runV (As := []) (rest := []) ⟨hx, hb, hml, hown, hg⟩ (cX12_thrown_2 l K H.size qm (va_up (zc71 u v) 81 (.int 1)) zu_eq) kV_RL_104 hd_X12_thrown rfl rfl ⟨(Nat.le_of_ble_eq_true rfl), (Nat.le_of_ble_eq_true rfl)⟩ hK hS hZ hPc hDc hF 0 rfl rfl rfl hl.1 rfl (Nat.le_of_ble_eq_true rfl) dL_law_1575 ⟨(Nat.le_of_ble_eq_true rfl), (Nat.le_of_ble_eq_true rfl)⟩) (fun r9 u7 H locs w8 hP hD hS => ?_)
  subst w8
  have hP : va_P K.1 classes [(qo, zJ K 1 (fun _ => 0)), (qm, zO 10 83 (va_up (zc71 u v) 81 (.int 1)))] H := hP
  have hD : va_D A [(qo, zJ K 1 (fun _ => 0)), (qm, zO 10 83 (va_up (zc71 u v) 81 (.int 1)))] := hD
  refine lv_iload hx hb dL_law_1578 (lv_at hl 1 rfl) ?_
  refine lv_icmp_eq (tgt := 1585) hx hb dL_law_1580 (by decide) (fun _ => ?_) (fun c => absurd (by decide) c)
  refine lv_iload hx hb dL_law_1585 (lv_at hl 1 rfl) ?_
  refine lv_if_ne (tgt := 1602) hx hb dL_law_1587 (by decide) (fun _ => ?_) (fun c => absurd c (by decide))
  refine lv_goto (tgt := 2026) hx hb dL_law_1602 (by decide) ?_
  exact law_back ⟨hx, hb, hr, hml, hown, hg, hX, hbl, hlocks, hK, hZ, hl9, hAA, hA, hbA⟩ (Nat.le_of_ble_eq_true rfl) (Nat.le_of_ble_eq_true rfl) hS (lv_sub hl [2, 6] rfl)
set_option maxHeartbeats 4000000 in
set_option maxRecDepth 100000 in
theorem lawS_19_17 {p : Program} {l : Launch} {e : Env} {s : State} {m : MethodId} {below : List Frame} {meth : Method} {c : Code} {b : Nat} {xs : Nat → Int32} {K : zK} {A : Nat → Prop} {H : Heap} {locs : List Loc} {ls : Array Slot} (C : zC p l s m meth c b xs K A) (qx qm qo : Nat) (u v : Nat → Nat) (h0 : xs 6 = 0) (h1 : 0 ≤ (xs 5).toInt) (h2 : (xs 5).toInt < 601) (h3 : 0 ≤ (xs 1).toInt) (h4 : 8 ≤ (xs 1).toInt) (hP : va_P K.1 classes (lwW K qx qm qo u v) H) (hD : va_D A (lwW K qx qm qo u v)) (hS : va_S A s.heap H locs) (hl : lv_has ls 7 [(4, .int 0), (3, .ref qo), (2, .ref qm), (1, .ref qx), (0, .ref b)]) : W p l e room_1 s m #[Value.ref b] below meth c H locs 124 1863516 (lw_Z below #[Value.ref b] s) (F0 m 1471 ls []) := by
  obtain ⟨hx, hb, hr, hml, hown, hg, hX, hbl, hlocks, hK, hZ, hl9, hAA, hA, hbA⟩ := C
  have hP : va_P K.1 classes [(qx, zO 9 9 (zc0 u v)), (qm, zO 10 83 (zc71 u v)), (qo, zJ K 1 (fun _ => 0))] H := hP.sub [0, 71, 123] rfl
  have hD : va_D A [(qx, zO 9 9 (zc0 u v)), (qm, zO 10 83 (zc71 u v)), (qo, zJ K 1 (fun _ => 0))] := hD.sub [0, 71, 123] (by decide +kernel) rfl
  refine lv_aload_n hx hb dL_law_1471 rfl (lv_at hl 3 rfl) ?_
  refine lv_aload_n hx hb dL_law_1472 rfl (lv_at hl 4 rfl) ?_
  refine lv_iload hx hb dL_law_1473 (lv_at hl 0 rfl) ?_
  refine lv_iconst (v := 1) hx hb dL_law_1475 (by decide) ?_
  refine lv_iadd hx hb dL_law_1476 ?_
  refine z_cst (v := 1) (by decide +kernel) ?_
  refine z_sld (v := (xs 1)) (j := 1) hx hb hX hbl hbA hS rfl (Nat.le_of_ble_eq_true rfl) rfl dL_law_1477 ?_
  refine lv_aload_n hx hb dL_law_1478 rfl (lv_at hl 4 rfl) ?_
  refine lv_iload hx hb dL_law_1479 (lv_at hl 0 rfl) ?_
  refine lv_iconst (v := 2) hx hb dL_law_1481 (by decide) ?_
  refine lv_iadd hx hb dL_law_1482 ?_
  refine z_cst (v := 2) (by decide +kernel) ?_
  refine z_sld (v := (xs 2)) (j := 2) hx hb hX hbl hbA hS rfl (Nat.le_of_ble_eq_true rfl) rfl dL_law_1483 ?_
  refine lv_aload_n hx hb dL_law_1484 rfl (lv_at hl 4 rfl) ?_
  refine lv_iload hx hb dL_law_1485 (lv_at hl 0 rfl) ?_
  refine lv_iconst (v := 3) hx hb dL_law_1487 (by decide) ?_
  refine lv_iadd hx hb dL_law_1488 ?_
  refine z_cst (v := 3) (by decide +kernel) ?_
  refine z_sld (v := (xs 3)) (j := 3) hx hb hX hbl hbA hS rfl (Nat.le_of_ble_eq_true rfl) rfl dL_law_1489 ?_
  refine lv_aload_n hx hb dL_law_1490 rfl (lv_at hl 4 rfl) ?_
  refine lv_iload hx hb dL_law_1491 (lv_at hl 0 rfl) ?_
  refine lv_iconst (v := 4) hx hb dL_law_1493 (by decide) ?_
  refine lv_iadd hx hb dL_law_1494 ?_
  refine z_cst (v := 4) (by decide +kernel) ?_
  refine z_sld (v := (xs 4)) (j := 4) hx hb hX hbl hbA hS rfl (Nat.le_of_ble_eq_true rfl) rfl dL_law_1495 ?_
  refine lv_aload_n hx hb dL_law_1496 rfl (lv_at hl 4 rfl) ?_
  refine lv_iload hx hb dL_law_1497 (lv_at hl 0 rfl) ?_
  refine lv_iconst (v := 5) hx hb dL_law_1499 (by decide) ?_
  refine lv_iadd hx hb dL_law_1500 ?_
  refine z_cst (v := 5) (by decide +kernel) ?_
  refine z_sld (v := (xs 5)) (j := 5) hx hb hX hbl hbA hS rfl (Nat.le_of_ble_eq_true rfl) rfl dL_law_1501 ?_
  refine lv_aload_n hx hb dL_law_1502 rfl (lv_at hl 4 rfl) ?_
  refine lv_iload hx hb dL_law_1503 (lv_at hl 0 rfl) ?_
  refine lv_bipush (v := 6) hx hb dL_law_1505 (by decide) ?_
  refine lv_iadd hx hb dL_law_1507 ?_
  refine z_cst (v := 6) (by decide +kernel) ?_
  refine z_sld (v := 0) (j := 6) hx hb hX hbl hbA hS rfl (Nat.le_of_ble_eq_true rfl) h0 dL_law_1508 ?_
  refine lv_if_eq (tgt := 1516) hx hb dL_law_1509 (by decide) (fun _ => ?_) (fun c => absurd (by decide) c)
  refine lv_iconst (v := 0) hx hb dL_law_1516 (by decide) ?_
  refine lv_aload_n hx hb dL_law_1517 rfl (lv_at hl 1 rfl) ?_
  refine z_hcalli [(qx, zO 9 9 (zc0 u v))] [(qm, zO 10 83 (zc71 u v)), (qo, zJ K 1 (fun _ => 0))] [0] [1, 2] hP hD hS hA rfl rfl (by decide +kernel) (by decide +kernel) (by decide +kernel) 125 1863522 rfl rfl (fun hPc hDc hF => z_xrunH (As := [.ref qx, .int (xs 1), .int (xs 2), .int (xs 3), .int (xs 4), .int (xs 5), .int 0, .ref qo]) (rest := []) ⟨hx, hb, hml, hown, hg⟩ (cL_run_18 l hl9 K H.size qx qo (zc0 u v) (xs 1) (xs 2) (xs 3) (xs 4) (xs 5) (by rw [Int32.lt_iff_toInt_lt, show (0 : Int32).toInt = 0 from by decide]; omega) (by rw [Int32.lt_iff_toInt_lt, show (601 : Int32).toInt = 601 from by decide]; omega) (by rw [Int32.lt_iff_toInt_lt, show (0 : Int32).toInt = 0 from by decide]; omega) (by rw [Int32.lt_iff_toInt_lt, show (8 : Int32).toInt = 8 from by decide]; omega)) kS_RL_166 hd_L_run rfl rfl ⟨(Nat.le_of_ble_eq_true rfl), (Nat.le_of_ble_eq_true rfl)⟩ hK hS hZ hPc hDc hF rfl hl.1 rfl (Nat.le_of_ble_eq_true rfl) dL_law_1518 ⟨(Nat.le_of_ble_eq_true rfl), (Nat.le_of_ble_eq_true rfl)⟩) (fun r3 u1 H locs w2 hP hD hS => ?_)
  subst w2
  have hP : va_P K.1 classes [(qm, zO 10 83 (zc71 u v)), (qo, zJ K 1 (fun _ => 0))] H := hP
  have hD : va_D A [(qm, zO 10 83 (zc71 u v)), (qo, zJ K 1 (fun _ => 0))] := hD
  refine lv_istore (lv' := [(5, .int 1), (4, .int 0), (3, .ref qo), (2, .ref qm), (1, .ref qx), (0, .ref b)]) hx hb dL_law_1521 hl (by decide) rfl (fun ls hl => ?_)
  refine lv_aload_n hx hb dL_law_1523 rfl (lv_at hl 3 rfl) ?_
  refine lv_aload_n hx hb dL_law_1524 rfl (lv_at hl 5 rfl) ?_
  refine lv_iload hx hb dL_law_1525 (lv_at hl 1 rfl) ?_
  refine lv_iconst (v := 1) hx hb dL_law_1527 (by decide) ?_
  refine lv_iadd hx hb dL_law_1528 ?_
  refine z_cst (v := 1) (by decide +kernel) ?_
  refine z_sld (v := (xs 1)) (j := 1) hx hb hX hbl hbA hS rfl (Nat.le_of_ble_eq_true rfl) rfl dL_law_1529 ?_
  refine lv_aload_n hx hb dL_law_1530 rfl (lv_at hl 5 rfl) ?_
  refine lv_iload hx hb dL_law_1531 (lv_at hl 1 rfl) ?_
  refine lv_iconst (v := 2) hx hb dL_law_1533 (by decide) ?_
  refine lv_iadd hx hb dL_law_1534 ?_
  refine z_cst (v := 2) (by decide +kernel) ?_
  refine z_sld (v := (xs 2)) (j := 2) hx hb hX hbl hbA hS rfl (Nat.le_of_ble_eq_true rfl) rfl dL_law_1535 ?_
  refine lv_aload_n hx hb dL_law_1536 rfl (lv_at hl 5 rfl) ?_
  refine lv_iload hx hb dL_law_1537 (lv_at hl 1 rfl) ?_
  refine lv_iconst (v := 3) hx hb dL_law_1539 (by decide) ?_
  refine lv_iadd hx hb dL_law_1540 ?_
  refine z_cst (v := 3) (by decide +kernel) ?_
  refine z_sld (v := (xs 3)) (j := 3) hx hb hX hbl hbA hS rfl (Nat.le_of_ble_eq_true rfl) rfl dL_law_1541 ?_
  refine lv_aload_n hx hb dL_law_1542 rfl (lv_at hl 5 rfl) ?_
  refine lv_iload hx hb dL_law_1543 (lv_at hl 1 rfl) ?_
  refine lv_iconst (v := 4) hx hb dL_law_1545 (by decide) ?_
  refine lv_iadd hx hb dL_law_1546 ?_
  refine z_cst (v := 4) (by decide +kernel) ?_
  refine z_sld (v := (xs 4)) (j := 4) hx hb hX hbl hbA hS rfl (Nat.le_of_ble_eq_true rfl) rfl dL_law_1547 ?_
  refine lv_aload_n hx hb dL_law_1548 rfl (lv_at hl 5 rfl) ?_
  refine lv_iload hx hb dL_law_1549 (lv_at hl 1 rfl) ?_
  refine lv_iconst (v := 5) hx hb dL_law_1551 (by decide) ?_
  refine lv_iadd hx hb dL_law_1552 ?_
  refine z_cst (v := 5) (by decide +kernel) ?_
  refine z_sld (v := (xs 5)) (j := 5) hx hb hX hbl hbA hS rfl (Nat.le_of_ble_eq_true rfl) rfl dL_law_1553 ?_
  refine lv_aload_n hx hb dL_law_1554 rfl (lv_at hl 5 rfl) ?_
  refine lv_iload hx hb dL_law_1555 (lv_at hl 1 rfl) ?_
  refine lv_bipush (v := 6) hx hb dL_law_1557 (by decide) ?_
  refine lv_iadd hx hb dL_law_1559 ?_
  refine z_cst (v := 6) (by decide +kernel) ?_
  refine z_sld (v := 0) (j := 6) hx hb hX hbl hbA hS rfl (Nat.le_of_ble_eq_true rfl) h0 dL_law_1560 ?_
  refine lv_if_eq (tgt := 1568) hx hb dL_law_1561 (by decide) (fun _ => ?_) (fun c => absurd (by decide) c)
  refine lv_iconst (v := 0) hx hb dL_law_1568 (by decide) ?_
  refine z_calli [(qm, zO 10 83 (zc71 u v))] [(qo, zJ K 1 (fun _ => 0))] [0] [1] hP hD hS hA rfl rfl (by decide +kernel) (by decide +kernel) (by decide +kernel) 125 1863522 rfl rfl (fun hPc hDc hF => z_runV (As := [.int (xs 1), .int (xs 2), .int (xs 3), .int (xs 4), .int (xs 5), .int 0]) (rest := []) ⟨hx, hb, hml, hown, hg⟩ (cX12_run_18 l K H.size qm (zc71 u v) (xs 1) (xs 2) (xs 3) (xs 4) (xs 5) (by rw [Int32.lt_iff_toInt_lt, show (0 : Int32).toInt = 0 from by decide]; omega) (by rw [Int32.lt_iff_toInt_lt, show (600 : Int32).toInt = 600 from by decide]; omega) (by rw [Int32.lt_iff_toInt_lt, show (0 : Int32).toInt = 0 from by decide]; omega) (by rw [Int32.lt_iff_toInt_lt, show (7 : Int32).toInt = 7 from by decide]; omega)) kV_RL_169 hd_X12_run rfl rfl ⟨(Nat.le_of_ble_eq_true rfl), (Nat.le_of_ble_eq_true rfl)⟩ hK hS hZ hPc hDc hF 0 rfl rfl rfl hl.1 rfl (Nat.le_of_ble_eq_true rfl) dL_law_1569 ⟨(Nat.le_of_ble_eq_true rfl), (Nat.le_of_ble_eq_true rfl)⟩) (fun r6 u4 H locs w5 hP hD hS => ?_)
  subst w5
  have hP : va_P K.1 classes [(qo, zJ K 1 (fun _ => 0)), (qm, zO 10 83 (va_up (zc71 u v) 81 (.int 1)))] H := hP
  have hD : va_D A [(qo, zJ K 1 (fun _ => 0)), (qm, zO 10 83 (va_up (zc71 u v) 81 (.int 1)))] := hD
  refine lv_istore (lv' := [(6, .int 0), (5, .int 1), (4, .int 0), (3, .ref qo), (2, .ref qm), (1, .ref qx), (0, .ref b)]) hx hb dL_law_1572 hl (by decide) rfl (fun ls hl => ?_)
  refine lv_aload_n hx hb dL_law_1574 rfl (lv_at hl 4 rfl) ?_
  refine z_calli [(qm, zO 10 83 (va_up (zc71 u v) 81 (.int 1)))] [(qo, zJ K 1 (fun _ => 0))] [1] [0] hP hD hS hA rfl rfl (by decide +kernel) (by decide +kernel) (by decide +kernel) 125 1863522 rfl rfl (fun hPc hDc hF => z_runV (As := []) (rest := []) ⟨hx, hb, hml, hown, hg⟩ (cX12_thrown_2 l K H.size qm (va_up (zc71 u v) 81 (.int 1)) zu_eq) kV_RL_104 hd_X12_thrown rfl rfl ⟨(Nat.le_of_ble_eq_true rfl), (Nat.le_of_ble_eq_true rfl)⟩ hK hS hZ hPc hDc hF 0 rfl rfl rfl hl.1 rfl (Nat.le_of_ble_eq_true rfl) dL_law_1575 ⟨(Nat.le_of_ble_eq_true rfl), (Nat.le_of_ble_eq_true rfl)⟩) (fun r9 u7 H locs w8 hP hD hS => ?_)
  subst w8
  have hP : va_P K.1 classes [(qo, zJ K 1 (fun _ => 0)), (qm, zO 10 83 (va_up (zc71 u v) 81 (.int 1)))] H := hP
  have hD : va_D A [(qo, zJ K 1 (fun _ => 0)), (qm, zO 10 83 (va_up (zc71 u v) 81 (.int 1)))] := hD
  refine lv_iload hx hb dL_law_1578 (lv_at hl 1 rfl) ?_
  refine lv_icmp_eq (tgt := 1585) hx hb dL_law_1580 (by decide) (fun _ => ?_) (fun c => absurd (by decide) c)
  refine lv_iload hx hb dL_law_1585 (lv_at hl 1 rfl) ?_
  refine lv_if_ne (tgt := 1602) hx hb dL_law_1587 (by decide) (fun _ => ?_) (fun c => absurd c (by decide))
  refine lv_goto (tgt := 2026) hx hb dL_law_1602 (by decide) ?_
  exact law_back ⟨hx, hb, hr, hml, hown, hg, hX, hbl, hlocks, hK, hZ, hl9, hAA, hA, hbA⟩ (Nat.le_of_ble_eq_true rfl) (Nat.le_of_ble_eq_true rfl) hS (lv_sub hl [2, 6] rfl)
set_option maxHeartbeats 4000000 in
set_option maxRecDepth 100000 in
theorem lawS_19_18 {p : Program} {l : Launch} {e : Env} {s : State} {m : MethodId} {below : List Frame} {meth : Method} {c : Code} {b : Nat} {xs : Nat → Int32} {K : zK} {A : Nat → Prop} {H : Heap} {locs : List Loc} {ls : Array Slot} (C : zC p l s m meth c b xs K A) (qx qm qo : Nat) (u v : Nat → Nat) (h0 : xs 6 = 0) (h1 : 0 ≤ (xs 5).toInt) (h2 : 601 ≤ (xs 5).toInt) (h3 : (xs 1).toInt < 0) (hP : va_P K.1 classes (lwW K qx qm qo u v) H) (hD : va_D A (lwW K qx qm qo u v)) (hS : va_S A s.heap H locs) (hl : lv_has ls 7 [(4, .int 0), (3, .ref qo), (2, .ref qm), (1, .ref qx), (0, .ref b)]) : W p l e room_1 s m #[Value.ref b] below meth c H locs 124 1863516 (lw_Z below #[Value.ref b] s) (F0 m 1471 ls []) := by
  obtain ⟨hx, hb, hr, hml, hown, hg, hX, hbl, hlocks, hK, hZ, hl9, hAA, hA, hbA⟩ := C
  have hP : va_P K.1 classes [(qx, zO 9 9 (zc0 u v)), (qm, zO 10 83 (zc71 u v)), (qo, zJ K 1 (fun _ => 0))] H := hP.sub [0, 71, 123] rfl
  have hD : va_D A [(qx, zO 9 9 (zc0 u v)), (qm, zO 10 83 (zc71 u v)), (qo, zJ K 1 (fun _ => 0))] := hD.sub [0, 71, 123] (by decide +kernel) rfl
  refine lv_aload_n hx hb dL_law_1471 rfl (lv_at hl 3 rfl) ?_
  refine lv_aload_n hx hb dL_law_1472 rfl (lv_at hl 4 rfl) ?_
  refine lv_iload hx hb dL_law_1473 (lv_at hl 0 rfl) ?_
  refine lv_iconst (v := 1) hx hb dL_law_1475 (by decide) ?_
  refine lv_iadd hx hb dL_law_1476 ?_
  refine z_cst (v := 1) (by decide +kernel) ?_
  refine z_sld (v := (xs 1)) (j := 1) hx hb hX hbl hbA hS rfl (Nat.le_of_ble_eq_true rfl) rfl dL_law_1477 ?_
  refine lv_aload_n hx hb dL_law_1478 rfl (lv_at hl 4 rfl) ?_
  refine lv_iload hx hb dL_law_1479 (lv_at hl 0 rfl) ?_
  refine lv_iconst (v := 2) hx hb dL_law_1481 (by decide) ?_
  refine lv_iadd hx hb dL_law_1482 ?_
  refine z_cst (v := 2) (by decide +kernel) ?_
  refine z_sld (v := (xs 2)) (j := 2) hx hb hX hbl hbA hS rfl (Nat.le_of_ble_eq_true rfl) rfl dL_law_1483 ?_
  refine lv_aload_n hx hb dL_law_1484 rfl (lv_at hl 4 rfl) ?_
  refine lv_iload hx hb dL_law_1485 (lv_at hl 0 rfl) ?_
  refine lv_iconst (v := 3) hx hb dL_law_1487 (by decide) ?_
  refine lv_iadd hx hb dL_law_1488 ?_
  refine z_cst (v := 3) (by decide +kernel) ?_
  refine z_sld (v := (xs 3)) (j := 3) hx hb hX hbl hbA hS rfl (Nat.le_of_ble_eq_true rfl) rfl dL_law_1489 ?_
  refine lv_aload_n hx hb dL_law_1490 rfl (lv_at hl 4 rfl) ?_
  refine lv_iload hx hb dL_law_1491 (lv_at hl 0 rfl) ?_
  refine lv_iconst (v := 4) hx hb dL_law_1493 (by decide) ?_
  refine lv_iadd hx hb dL_law_1494 ?_
  refine z_cst (v := 4) (by decide +kernel) ?_
  refine z_sld (v := (xs 4)) (j := 4) hx hb hX hbl hbA hS rfl (Nat.le_of_ble_eq_true rfl) rfl dL_law_1495 ?_
  refine lv_aload_n hx hb dL_law_1496 rfl (lv_at hl 4 rfl) ?_
  refine lv_iload hx hb dL_law_1497 (lv_at hl 0 rfl) ?_
  refine lv_iconst (v := 5) hx hb dL_law_1499 (by decide) ?_
  refine lv_iadd hx hb dL_law_1500 ?_
  refine z_cst (v := 5) (by decide +kernel) ?_
  refine z_sld (v := (xs 5)) (j := 5) hx hb hX hbl hbA hS rfl (Nat.le_of_ble_eq_true rfl) rfl dL_law_1501 ?_
  refine lv_aload_n hx hb dL_law_1502 rfl (lv_at hl 4 rfl) ?_
  refine lv_iload hx hb dL_law_1503 (lv_at hl 0 rfl) ?_
  refine lv_bipush (v := 6) hx hb dL_law_1505 (by decide) ?_
  refine lv_iadd hx hb dL_law_1507 ?_
  refine z_cst (v := 6) (by decide +kernel) ?_
  refine z_sld (v := 0) (j := 6) hx hb hX hbl hbA hS rfl (Nat.le_of_ble_eq_true rfl) h0 dL_law_1508 ?_
  refine lv_if_eq (tgt := 1516) hx hb dL_law_1509 (by decide) (fun _ => ?_) (fun c => absurd (by decide) c)
  refine lv_iconst (v := 0) hx hb dL_law_1516 (by decide) ?_
  refine lv_aload_n hx hb dL_law_1517 rfl (lv_at hl 1 rfl) ?_
  refine z_hcalli [(qx, zO 9 9 (zc0 u v))] [(qm, zO 10 83 (zc71 u v)), (qo, zJ K 1 (fun _ => 0))] [0] [1, 2] hP hD hS hA rfl rfl (by decide +kernel) (by decide +kernel) (by decide +kernel) 125 1863522 rfl rfl (fun hPc hDc hF => z_xrunH (As := [.ref qx, .int (xs 1), .int (xs 2), .int (xs 3), .int (xs 4), .int (xs 5), .int 0, .ref qo]) (rest := []) ⟨hx, hb, hml, hown, hg⟩ (cL_run_19 l hl9 K H.size qx qo (zc0 u v) (xs 1) (xs 2) (xs 3) (xs 4) (xs 5) (by rw [Int32.lt_iff_toInt_lt, show (0 : Int32).toInt = 0 from by decide]; omega) (by rw [Int32.lt_iff_toInt_lt, show (601 : Int32).toInt = 601 from by decide]; omega)) kS_RL_166 hd_L_run rfl rfl ⟨(Nat.le_of_ble_eq_true rfl), (Nat.le_of_ble_eq_true rfl)⟩ hK hS hZ hPc hDc hF rfl hl.1 rfl (Nat.le_of_ble_eq_true rfl) dL_law_1518 ⟨(Nat.le_of_ble_eq_true rfl), (Nat.le_of_ble_eq_true rfl)⟩) (fun r3 u1 H locs w2 hP hD hS => ?_)
  subst w2
  have hP : va_P K.1 classes [(qm, zO 10 83 (zc71 u v)), (qo, zJ K 1 (fun _ => 0))] H := hP
  have hD : va_D A [(qm, zO 10 83 (zc71 u v)), (qo, zJ K 1 (fun _ => 0))] := hD
  refine lv_istore (lv' := [(5, .int 1), (4, .int 0), (3, .ref qo), (2, .ref qm), (1, .ref qx), (0, .ref b)]) hx hb dL_law_1521 hl (by decide) rfl (fun ls hl => ?_)
  refine lv_aload_n hx hb dL_law_1523 rfl (lv_at hl 3 rfl) ?_
  refine lv_aload_n hx hb dL_law_1524 rfl (lv_at hl 5 rfl) ?_
  refine lv_iload hx hb dL_law_1525 (lv_at hl 1 rfl) ?_
  refine lv_iconst (v := 1) hx hb dL_law_1527 (by decide) ?_
  refine lv_iadd hx hb dL_law_1528 ?_
  refine z_cst (v := 1) (by decide +kernel) ?_
  refine z_sld (v := (xs 1)) (j := 1) hx hb hX hbl hbA hS rfl (Nat.le_of_ble_eq_true rfl) rfl dL_law_1529 ?_
  refine lv_aload_n hx hb dL_law_1530 rfl (lv_at hl 5 rfl) ?_
  refine lv_iload hx hb dL_law_1531 (lv_at hl 1 rfl) ?_
  refine lv_iconst (v := 2) hx hb dL_law_1533 (by decide) ?_
  refine lv_iadd hx hb dL_law_1534 ?_
  refine z_cst (v := 2) (by decide +kernel) ?_
  refine z_sld (v := (xs 2)) (j := 2) hx hb hX hbl hbA hS rfl (Nat.le_of_ble_eq_true rfl) rfl dL_law_1535 ?_
  refine lv_aload_n hx hb dL_law_1536 rfl (lv_at hl 5 rfl) ?_
  refine lv_iload hx hb dL_law_1537 (lv_at hl 1 rfl) ?_
  refine lv_iconst (v := 3) hx hb dL_law_1539 (by decide) ?_
  refine lv_iadd hx hb dL_law_1540 ?_
  refine z_cst (v := 3) (by decide +kernel) ?_
  refine z_sld (v := (xs 3)) (j := 3) hx hb hX hbl hbA hS rfl (Nat.le_of_ble_eq_true rfl) rfl dL_law_1541 ?_
  refine lv_aload_n hx hb dL_law_1542 rfl (lv_at hl 5 rfl) ?_
  refine lv_iload hx hb dL_law_1543 (lv_at hl 1 rfl) ?_
  refine lv_iconst (v := 4) hx hb dL_law_1545 (by decide) ?_
  refine lv_iadd hx hb dL_law_1546 ?_
  refine z_cst (v := 4) (by decide +kernel) ?_
  refine z_sld (v := (xs 4)) (j := 4) hx hb hX hbl hbA hS rfl (Nat.le_of_ble_eq_true rfl) rfl dL_law_1547 ?_
  refine lv_aload_n hx hb dL_law_1548 rfl (lv_at hl 5 rfl) ?_
  refine lv_iload hx hb dL_law_1549 (lv_at hl 1 rfl) ?_
  refine lv_iconst (v := 5) hx hb dL_law_1551 (by decide) ?_
  refine lv_iadd hx hb dL_law_1552 ?_
  refine z_cst (v := 5) (by decide +kernel) ?_
  refine z_sld (v := (xs 5)) (j := 5) hx hb hX hbl hbA hS rfl (Nat.le_of_ble_eq_true rfl) rfl dL_law_1553 ?_
  refine lv_aload_n hx hb dL_law_1554 rfl (lv_at hl 5 rfl) ?_
  refine lv_iload hx hb dL_law_1555 (lv_at hl 1 rfl) ?_
  refine lv_bipush (v := 6) hx hb dL_law_1557 (by decide) ?_
  refine lv_iadd hx hb dL_law_1559 ?_
  refine z_cst (v := 6) (by decide +kernel) ?_
  refine z_sld (v := 0) (j := 6) hx hb hX hbl hbA hS rfl (Nat.le_of_ble_eq_true rfl) h0 dL_law_1560 ?_
  refine lv_if_eq (tgt := 1568) hx hb dL_law_1561 (by decide) (fun _ => ?_) (fun c => absurd (by decide) c)
  refine lv_iconst (v := 0) hx hb dL_law_1568 (by decide) ?_
  refine z_calli [(qm, zO 10 83 (zc71 u v))] [(qo, zJ K 1 (fun _ => 0))] [0] [1] hP hD hS hA rfl rfl (by decide +kernel) (by decide +kernel) (by decide +kernel) 125 1863522 rfl rfl (fun hPc hDc hF => z_runV (As := [.int (xs 1), .int (xs 2), .int (xs 3), .int (xs 4), .int (xs 5), .int 0]) (rest := []) ⟨hx, hb, hml, hown, hg⟩ (cX12_run_19 l K H.size qm (zc71 u v) (xs 1) (xs 2) (xs 3) (xs 4) (xs 5) (by rw [Int32.lt_iff_toInt_lt, show (0 : Int32).toInt = 0 from by decide]; omega) (by rw [Int32.lt_iff_toInt_lt, show (600 : Int32).toInt = 600 from by decide]; omega) (by rw [Int32.lt_iff_toInt_lt, show (0 : Int32).toInt = 0 from by decide]; omega)) kV_RL_169 hd_X12_run rfl rfl ⟨(Nat.le_of_ble_eq_true rfl), (Nat.le_of_ble_eq_true rfl)⟩ hK hS hZ hPc hDc hF 0 rfl rfl rfl hl.1 rfl (Nat.le_of_ble_eq_true rfl) dL_law_1569 ⟨(Nat.le_of_ble_eq_true rfl), (Nat.le_of_ble_eq_true rfl)⟩) (fun r6 u4 H locs w5 hP hD hS => ?_)
  subst w5
  have hP : va_P K.1 classes [(qo, zJ K 1 (fun _ => 0)), (qm, zO 10 83 (va_up (zc71 u v) 81 (.int 1)))] H := hP
  have hD : va_D A [(qo, zJ K 1 (fun _ => 0)), (qm, zO 10 83 (va_up (zc71 u v) 81 (.int 1)))] := hD
  refine lv_istore (lv' := [(6, .int 0), (5, .int 1), (4, .int 0), (3, .ref qo), (2, .ref qm), (1, .ref qx), (0, .ref b)]) hx hb dL_law_1572 hl (by decide) rfl (fun ls hl => ?_)
  refine lv_aload_n hx hb dL_law_1574 rfl (lv_at hl 4 rfl) ?_
  refine z_calli [(qm, zO 10 83 (va_up (zc71 u v) 81 (.int 1)))] [(qo, zJ K 1 (fun _ => 0))] [1] [0] hP hD hS hA rfl rfl (by decide +kernel) (by decide +kernel) (by decide +kernel) 125 1863522 rfl rfl (fun hPc hDc hF => z_runV (As := []) (rest := []) ⟨hx, hb, hml, hown, hg⟩ (cX12_thrown_2 l K H.size qm (va_up (zc71 u v) 81 (.int 1)) zu_eq) kV_RL_104 hd_X12_thrown rfl rfl ⟨(Nat.le_of_ble_eq_true rfl), (Nat.le_of_ble_eq_true rfl)⟩ hK hS hZ hPc hDc hF 0 rfl rfl rfl hl.1 rfl (Nat.le_of_ble_eq_true rfl) dL_law_1575 ⟨(Nat.le_of_ble_eq_true rfl), (Nat.le_of_ble_eq_true rfl)⟩) (fun r9 u7 H locs w8 hP hD hS => ?_)
  subst w8
  have hP : va_P K.1 classes [(qo, zJ K 1 (fun _ => 0)), (qm, zO 10 83 (va_up (zc71 u v) 81 (.int 1)))] H := hP
  have hD : va_D A [(qo, zJ K 1 (fun _ => 0)), (qm, zO 10 83 (va_up (zc71 u v) 81 (.int 1)))] := hD
  refine lv_iload hx hb dL_law_1578 (lv_at hl 1 rfl) ?_
  refine lv_icmp_eq (tgt := 1585) hx hb dL_law_1580 (by decide) (fun _ => ?_) (fun c => absurd (by decide) c)
  refine lv_iload hx hb dL_law_1585 (lv_at hl 1 rfl) ?_
  refine lv_if_ne (tgt := 1602) hx hb dL_law_1587 (by decide) (fun _ => ?_) (fun c => absurd c (by decide))
  refine lv_goto (tgt := 2026) hx hb dL_law_1602 (by decide) ?_
  exact law_back ⟨hx, hb, hr, hml, hown, hg, hX, hbl, hlocks, hK, hZ, hl9, hAA, hA, hbA⟩ (Nat.le_of_ble_eq_true rfl) (Nat.le_of_ble_eq_true rfl) hS (lv_sub hl [2, 6] rfl)
set_option maxHeartbeats 4000000 in
set_option maxRecDepth 100000 in
theorem lawS_19_19 {p : Program} {l : Launch} {e : Env} {s : State} {m : MethodId} {below : List Frame} {meth : Method} {c : Code} {b : Nat} {xs : Nat → Int32} {K : zK} {A : Nat → Prop} {H : Heap} {locs : List Loc} {ls : Array Slot} (C : zC p l s m meth c b xs K A) (qx qm qo : Nat) (u v : Nat → Nat) (h0 : xs 6 = 0) (h1 : 0 ≤ (xs 5).toInt) (h2 : 601 ≤ (xs 5).toInt) (h3 : 0 ≤ (xs 1).toInt) (h4 : (xs 1).toInt < 8) (h5 : (xs 2).toInt < 0) (hP : va_P K.1 classes (lwW K qx qm qo u v) H) (hD : va_D A (lwW K qx qm qo u v)) (hS : va_S A s.heap H locs) (hl : lv_has ls 7 [(4, .int 0), (3, .ref qo), (2, .ref qm), (1, .ref qx), (0, .ref b)]) : W p l e room_1 s m #[Value.ref b] below meth c H locs 124 1863516 (lw_Z below #[Value.ref b] s) (F0 m 1471 ls []) := by
  obtain ⟨hx, hb, hr, hml, hown, hg, hX, hbl, hlocks, hK, hZ, hl9, hAA, hA, hbA⟩ := C
  have hP : va_P K.1 classes [(qx, zO 9 9 (zc0 u v)), (qm, zO 10 83 (zc71 u v)), (qo, zJ K 1 (fun _ => 0))] H := hP.sub [0, 71, 123] rfl
  have hD : va_D A [(qx, zO 9 9 (zc0 u v)), (qm, zO 10 83 (zc71 u v)), (qo, zJ K 1 (fun _ => 0))] := hD.sub [0, 71, 123] (by decide +kernel) rfl
  obtain ⟨t1, ht1, v1⟩ : ∃ j : Nat, j < 8 ∧ xs 1 = nI j := z_nat (n := 8) (by omega) (by omega) (by decide)
  refine lv_aload_n hx hb dL_law_1471 rfl (lv_at hl 3 rfl) ?_
  refine lv_aload_n hx hb dL_law_1472 rfl (lv_at hl 4 rfl) ?_
  refine lv_iload hx hb dL_law_1473 (lv_at hl 0 rfl) ?_
  refine lv_iconst (v := 1) hx hb dL_law_1475 (by decide) ?_
  refine lv_iadd hx hb dL_law_1476 ?_
  refine z_cst (v := 1) (by decide +kernel) ?_
  refine z_sld (v := (nI t1)) (j := 1) hx hb hX hbl hbA hS rfl (Nat.le_of_ble_eq_true rfl) v1 dL_law_1477 ?_
  refine lv_aload_n hx hb dL_law_1478 rfl (lv_at hl 4 rfl) ?_
  refine lv_iload hx hb dL_law_1479 (lv_at hl 0 rfl) ?_
  refine lv_iconst (v := 2) hx hb dL_law_1481 (by decide) ?_
  refine lv_iadd hx hb dL_law_1482 ?_
  refine z_cst (v := 2) (by decide +kernel) ?_
  refine z_sld (v := (xs 2)) (j := 2) hx hb hX hbl hbA hS rfl (Nat.le_of_ble_eq_true rfl) rfl dL_law_1483 ?_
  refine lv_aload_n hx hb dL_law_1484 rfl (lv_at hl 4 rfl) ?_
  refine lv_iload hx hb dL_law_1485 (lv_at hl 0 rfl) ?_
  refine lv_iconst (v := 3) hx hb dL_law_1487 (by decide) ?_
  refine lv_iadd hx hb dL_law_1488 ?_
  refine z_cst (v := 3) (by decide +kernel) ?_
  refine z_sld (v := (xs 3)) (j := 3) hx hb hX hbl hbA hS rfl (Nat.le_of_ble_eq_true rfl) rfl dL_law_1489 ?_
  refine lv_aload_n hx hb dL_law_1490 rfl (lv_at hl 4 rfl) ?_
  refine lv_iload hx hb dL_law_1491 (lv_at hl 0 rfl) ?_
  refine lv_iconst (v := 4) hx hb dL_law_1493 (by decide) ?_
  refine lv_iadd hx hb dL_law_1494 ?_
  refine z_cst (v := 4) (by decide +kernel) ?_
  refine z_sld (v := (xs 4)) (j := 4) hx hb hX hbl hbA hS rfl (Nat.le_of_ble_eq_true rfl) rfl dL_law_1495 ?_
  refine lv_aload_n hx hb dL_law_1496 rfl (lv_at hl 4 rfl) ?_
  refine lv_iload hx hb dL_law_1497 (lv_at hl 0 rfl) ?_
  refine lv_iconst (v := 5) hx hb dL_law_1499 (by decide) ?_
  refine lv_iadd hx hb dL_law_1500 ?_
  refine z_cst (v := 5) (by decide +kernel) ?_
  refine z_sld (v := (xs 5)) (j := 5) hx hb hX hbl hbA hS rfl (Nat.le_of_ble_eq_true rfl) rfl dL_law_1501 ?_
  refine lv_aload_n hx hb dL_law_1502 rfl (lv_at hl 4 rfl) ?_
  refine lv_iload hx hb dL_law_1503 (lv_at hl 0 rfl) ?_
  refine lv_bipush (v := 6) hx hb dL_law_1505 (by decide) ?_
  refine lv_iadd hx hb dL_law_1507 ?_
  refine z_cst (v := 6) (by decide +kernel) ?_
  refine z_sld (v := 0) (j := 6) hx hb hX hbl hbA hS rfl (Nat.le_of_ble_eq_true rfl) h0 dL_law_1508 ?_
  refine lv_if_eq (tgt := 1516) hx hb dL_law_1509 (by decide) (fun _ => ?_) (fun c => absurd (by decide) c)
  refine lv_iconst (v := 0) hx hb dL_law_1516 (by decide) ?_
  refine lv_aload_n hx hb dL_law_1517 rfl (lv_at hl 1 rfl) ?_
  refine z_hcalli [(qx, zO 9 9 (zc0 u v))] [(qm, zO 10 83 (zc71 u v)), (qo, zJ K 1 (fun _ => 0))] [0] [1, 2] hP hD hS hA rfl rfl (by decide +kernel) (by decide +kernel) (by decide +kernel) 125 1863522 rfl rfl (fun hPc hDc hF => z_xrunH (As := [.ref qx, .int (nI t1), .int (xs 2), .int (xs 3), .int (xs 4), .int (xs 5), .int 0, .ref qo]) (rest := []) ⟨hx, hb, hml, hown, hg⟩ (cL_run_20 l hl9 K H.size qx qo (zc0 u v) t1 ht1 (xs 2) (xs 3) (xs 4) (xs 5) (by rw [Int32.lt_iff_toInt_lt, show (0 : Int32).toInt = 0 from by decide]; omega) (by rw [Int32.lt_iff_toInt_lt, show (601 : Int32).toInt = 601 from by decide]; omega)) kS_RL_166 hd_L_run rfl rfl ⟨(Nat.le_of_ble_eq_true rfl), (Nat.le_of_ble_eq_true rfl)⟩ hK hS hZ hPc hDc hF rfl hl.1 rfl (Nat.le_of_ble_eq_true rfl) dL_law_1518 ⟨(Nat.le_of_ble_eq_true rfl), (Nat.le_of_ble_eq_true rfl)⟩) (fun r3 u1 H locs w2 hP hD hS => ?_)
  subst w2
  have hP : va_P K.1 classes [(qm, zO 10 83 (zc71 u v)), (qo, zJ K 1 (fun _ => 0))] H := hP
  have hD : va_D A [(qm, zO 10 83 (zc71 u v)), (qo, zJ K 1 (fun _ => 0))] := hD
  refine lv_istore (lv' := [(5, .int 1), (4, .int 0), (3, .ref qo), (2, .ref qm), (1, .ref qx), (0, .ref b)]) hx hb dL_law_1521 hl (by decide) rfl (fun ls hl => ?_)
  refine lv_aload_n hx hb dL_law_1523 rfl (lv_at hl 3 rfl) ?_
  refine lv_aload_n hx hb dL_law_1524 rfl (lv_at hl 5 rfl) ?_
  refine lv_iload hx hb dL_law_1525 (lv_at hl 1 rfl) ?_
  refine lv_iconst (v := 1) hx hb dL_law_1527 (by decide) ?_
  refine lv_iadd hx hb dL_law_1528 ?_
  refine z_cst (v := 1) (by decide +kernel) ?_
  refine z_sld (v := (nI t1)) (j := 1) hx hb hX hbl hbA hS rfl (Nat.le_of_ble_eq_true rfl) v1 dL_law_1529 ?_
  refine lv_aload_n hx hb dL_law_1530 rfl (lv_at hl 5 rfl) ?_
  refine lv_iload hx hb dL_law_1531 (lv_at hl 1 rfl) ?_
  refine lv_iconst (v := 2) hx hb dL_law_1533 (by decide) ?_
  refine lv_iadd hx hb dL_law_1534 ?_
  refine z_cst (v := 2) (by decide +kernel) ?_
  refine z_sld (v := (xs 2)) (j := 2) hx hb hX hbl hbA hS rfl (Nat.le_of_ble_eq_true rfl) rfl dL_law_1535 ?_
  refine lv_aload_n hx hb dL_law_1536 rfl (lv_at hl 5 rfl) ?_
  refine lv_iload hx hb dL_law_1537 (lv_at hl 1 rfl) ?_
  refine lv_iconst (v := 3) hx hb dL_law_1539 (by decide) ?_
  refine lv_iadd hx hb dL_law_1540 ?_
  refine z_cst (v := 3) (by decide +kernel) ?_
  refine z_sld (v := (xs 3)) (j := 3) hx hb hX hbl hbA hS rfl (Nat.le_of_ble_eq_true rfl) rfl dL_law_1541 ?_
  refine lv_aload_n hx hb dL_law_1542 rfl (lv_at hl 5 rfl) ?_
  refine lv_iload hx hb dL_law_1543 (lv_at hl 1 rfl) ?_
  refine lv_iconst (v := 4) hx hb dL_law_1545 (by decide) ?_
  refine lv_iadd hx hb dL_law_1546 ?_
  refine z_cst (v := 4) (by decide +kernel) ?_
  refine z_sld (v := (xs 4)) (j := 4) hx hb hX hbl hbA hS rfl (Nat.le_of_ble_eq_true rfl) rfl dL_law_1547 ?_
  refine lv_aload_n hx hb dL_law_1548 rfl (lv_at hl 5 rfl) ?_
  refine lv_iload hx hb dL_law_1549 (lv_at hl 1 rfl) ?_
  refine lv_iconst (v := 5) hx hb dL_law_1551 (by decide) ?_
  refine lv_iadd hx hb dL_law_1552 ?_
  refine z_cst (v := 5) (by decide +kernel) ?_
  refine z_sld (v := (xs 5)) (j := 5) hx hb hX hbl hbA hS rfl (Nat.le_of_ble_eq_true rfl) rfl dL_law_1553 ?_
  refine lv_aload_n hx hb dL_law_1554 rfl (lv_at hl 5 rfl) ?_
  refine lv_iload hx hb dL_law_1555 (lv_at hl 1 rfl) ?_
  refine lv_bipush (v := 6) hx hb dL_law_1557 (by decide) ?_
  refine lv_iadd hx hb dL_law_1559 ?_
  refine z_cst (v := 6) (by decide +kernel) ?_
  refine z_sld (v := 0) (j := 6) hx hb hX hbl hbA hS rfl (Nat.le_of_ble_eq_true rfl) h0 dL_law_1560 ?_
  refine lv_if_eq (tgt := 1568) hx hb dL_law_1561 (by decide) (fun _ => ?_) (fun c => absurd (by decide) c)
  refine lv_iconst (v := 0) hx hb dL_law_1568 (by decide) ?_
  refine z_calli [(qm, zO 10 83 (zc71 u v))] [(qo, zJ K 1 (fun _ => 0))] [0] [1] hP hD hS hA rfl rfl (by decide +kernel) (by decide +kernel) (by decide +kernel) 125 1863522 rfl rfl (fun hPc hDc hF => z_runV (As := [.int (nI t1), .int (xs 2), .int (xs 3), .int (xs 4), .int (xs 5), .int 0]) (rest := []) ⟨hx, hb, hml, hown, hg⟩ (cX12_run_20 l K H.size qm (zc71 u v) t1 ht1 (xs 2) (xs 3) (xs 4) (xs 5) (by rw [Int32.lt_iff_toInt_lt, show (0 : Int32).toInt = 0 from by decide]; omega) (by rw [Int32.lt_iff_toInt_lt, show (600 : Int32).toInt = 600 from by decide]; omega) (by rw [Int32.lt_iff_toInt_lt, show (0 : Int32).toInt = 0 from by decide]; omega)) kV_RL_169 hd_X12_run rfl rfl ⟨(Nat.le_of_ble_eq_true rfl), (Nat.le_of_ble_eq_true rfl)⟩ hK hS hZ hPc hDc hF 0 rfl rfl rfl hl.1 rfl (Nat.le_of_ble_eq_true rfl) dL_law_1569 ⟨(Nat.le_of_ble_eq_true rfl), (Nat.le_of_ble_eq_true rfl)⟩) (fun r6 u4 H locs w5 hP hD hS => ?_)
  subst w5
  have hP : va_P K.1 classes [(qo, zJ K 1 (fun _ => 0)), (qm, zO 10 83 (va_up (zc71 u v) 81 (.int 1)))] H := hP
  have hD : va_D A [(qo, zJ K 1 (fun _ => 0)), (qm, zO 10 83 (va_up (zc71 u v) 81 (.int 1)))] := hD
  refine lv_istore (lv' := [(6, .int 0), (5, .int 1), (4, .int 0), (3, .ref qo), (2, .ref qm), (1, .ref qx), (0, .ref b)]) hx hb dL_law_1572 hl (by decide) rfl (fun ls hl => ?_)
  refine lv_aload_n hx hb dL_law_1574 rfl (lv_at hl 4 rfl) ?_
  refine z_calli [(qm, zO 10 83 (va_up (zc71 u v) 81 (.int 1)))] [(qo, zJ K 1 (fun _ => 0))] [1] [0] hP hD hS hA rfl rfl (by decide +kernel) (by decide +kernel) (by decide +kernel) 125 1863522 rfl rfl (fun hPc hDc hF => z_runV (As := []) (rest := []) ⟨hx, hb, hml, hown, hg⟩ (cX12_thrown_2 l K H.size qm (va_up (zc71 u v) 81 (.int 1)) zu_eq) kV_RL_104 hd_X12_thrown rfl rfl ⟨(Nat.le_of_ble_eq_true rfl), (Nat.le_of_ble_eq_true rfl)⟩ hK hS hZ hPc hDc hF 0 rfl rfl rfl hl.1 rfl (Nat.le_of_ble_eq_true rfl) dL_law_1575 ⟨(Nat.le_of_ble_eq_true rfl), (Nat.le_of_ble_eq_true rfl)⟩) (fun r9 u7 H locs w8 hP hD hS => ?_)
  subst w8
  have hP : va_P K.1 classes [(qo, zJ K 1 (fun _ => 0)), (qm, zO 10 83 (va_up (zc71 u v) 81 (.int 1)))] H := hP
  have hD : va_D A [(qo, zJ K 1 (fun _ => 0)), (qm, zO 10 83 (va_up (zc71 u v) 81 (.int 1)))] := hD
  refine lv_iload hx hb dL_law_1578 (lv_at hl 1 rfl) ?_
  refine lv_icmp_eq (tgt := 1585) hx hb dL_law_1580 (by decide) (fun _ => ?_) (fun c => absurd (by decide) c)
  refine lv_iload hx hb dL_law_1585 (lv_at hl 1 rfl) ?_
  refine lv_if_ne (tgt := 1602) hx hb dL_law_1587 (by decide) (fun _ => ?_) (fun c => absurd c (by decide))
  refine lv_goto (tgt := 2026) hx hb dL_law_1602 (by decide) ?_
  exact law_back ⟨hx, hb, hr, hml, hown, hg, hX, hbl, hlocks, hK, hZ, hl9, hAA, hA, hbA⟩ (Nat.le_of_ble_eq_true rfl) (Nat.le_of_ble_eq_true rfl) hS (lv_sub hl [2, 6] rfl)
set_option maxHeartbeats 4000000 in
set_option maxRecDepth 100000 in
theorem lawS_19_20 {p : Program} {l : Launch} {e : Env} {s : State} {m : MethodId} {below : List Frame} {meth : Method} {c : Code} {b : Nat} {xs : Nat → Int32} {K : zK} {A : Nat → Prop} {H : Heap} {locs : List Loc} {ls : Array Slot} (C : zC p l s m meth c b xs K A) (qx qm qo : Nat) (u v : Nat → Nat) (h0 : xs 6 = 0) (h1 : 0 ≤ (xs 5).toInt) (h2 : 601 ≤ (xs 5).toInt) (h3 : 0 ≤ (xs 1).toInt) (h4 : (xs 1).toInt < 8) (h5 : 0 ≤ (xs 2).toInt) (h6 : (xs 2).toInt < 3) (hP : va_P K.1 classes (lwW K qx qm qo u v) H) (hD : va_D A (lwW K qx qm qo u v)) (hS : va_S A s.heap H locs) (hl : lv_has ls 7 [(4, .int 0), (3, .ref qo), (2, .ref qm), (1, .ref qx), (0, .ref b)]) : W p l e room_1 s m #[Value.ref b] below meth c H locs 124 1863516 (lw_Z below #[Value.ref b] s) (F0 m 1471 ls []) := by
  obtain ⟨hx, hb, hr, hml, hown, hg, hX, hbl, hlocks, hK, hZ, hl9, hAA, hA, hbA⟩ := C
  have hP : va_P K.1 classes [(qx, zO 9 9 (zc0 u v)), (qm, zO 10 83 (zc71 u v)), (qo, zJ K 1 (fun _ => 0))] H := hP.sub [0, 71, 123] rfl
  have hD : va_D A [(qx, zO 9 9 (zc0 u v)), (qm, zO 10 83 (zc71 u v)), (qo, zJ K 1 (fun _ => 0))] := hD.sub [0, 71, 123] (by decide +kernel) rfl
  obtain ⟨t1, ht1, v1⟩ : ∃ j : Nat, j < 8 ∧ xs 1 = nI j := z_nat (n := 8) (by omega) (by omega) (by decide)
  obtain ⟨t2, ht2, v2⟩ : ∃ j : Nat, j < 3 ∧ xs 2 = nI j := z_nat (n := 3) (by omega) (by omega) (by decide)
  refine lv_aload_n hx hb dL_law_1471 rfl (lv_at hl 3 rfl) ?_
  refine lv_aload_n hx hb dL_law_1472 rfl (lv_at hl 4 rfl) ?_
  refine lv_iload hx hb dL_law_1473 (lv_at hl 0 rfl) ?_
  refine lv_iconst (v := 1) hx hb dL_law_1475 (by decide) ?_
  refine lv_iadd hx hb dL_law_1476 ?_
  refine z_cst (v := 1) (by decide +kernel) ?_
  refine z_sld (v := (nI t1)) (j := 1) hx hb hX hbl hbA hS rfl (Nat.le_of_ble_eq_true rfl) v1 dL_law_1477 ?_
  refine lv_aload_n hx hb dL_law_1478 rfl (lv_at hl 4 rfl) ?_
  refine lv_iload hx hb dL_law_1479 (lv_at hl 0 rfl) ?_
  refine lv_iconst (v := 2) hx hb dL_law_1481 (by decide) ?_
  refine lv_iadd hx hb dL_law_1482 ?_
  refine z_cst (v := 2) (by decide +kernel) ?_
  refine z_sld (v := (nI t2)) (j := 2) hx hb hX hbl hbA hS rfl (Nat.le_of_ble_eq_true rfl) v2 dL_law_1483 ?_
  refine lv_aload_n hx hb dL_law_1484 rfl (lv_at hl 4 rfl) ?_
  refine lv_iload hx hb dL_law_1485 (lv_at hl 0 rfl) ?_
  refine lv_iconst (v := 3) hx hb dL_law_1487 (by decide) ?_
  refine lv_iadd hx hb dL_law_1488 ?_
  refine z_cst (v := 3) (by decide +kernel) ?_
  refine z_sld (v := (xs 3)) (j := 3) hx hb hX hbl hbA hS rfl (Nat.le_of_ble_eq_true rfl) rfl dL_law_1489 ?_
  refine lv_aload_n hx hb dL_law_1490 rfl (lv_at hl 4 rfl) ?_
  refine lv_iload hx hb dL_law_1491 (lv_at hl 0 rfl) ?_
  refine lv_iconst (v := 4) hx hb dL_law_1493 (by decide) ?_
  refine lv_iadd hx hb dL_law_1494 ?_
  refine z_cst (v := 4) (by decide +kernel) ?_
  refine z_sld (v := (xs 4)) (j := 4) hx hb hX hbl hbA hS rfl (Nat.le_of_ble_eq_true rfl) rfl dL_law_1495 ?_
  refine lv_aload_n hx hb dL_law_1496 rfl (lv_at hl 4 rfl) ?_
  refine lv_iload hx hb dL_law_1497 (lv_at hl 0 rfl) ?_
  refine lv_iconst (v := 5) hx hb dL_law_1499 (by decide) ?_
  refine lv_iadd hx hb dL_law_1500 ?_
  refine z_cst (v := 5) (by decide +kernel) ?_
  refine z_sld (v := (xs 5)) (j := 5) hx hb hX hbl hbA hS rfl (Nat.le_of_ble_eq_true rfl) rfl dL_law_1501 ?_
  refine lv_aload_n hx hb dL_law_1502 rfl (lv_at hl 4 rfl) ?_
  refine lv_iload hx hb dL_law_1503 (lv_at hl 0 rfl) ?_
  refine lv_bipush (v := 6) hx hb dL_law_1505 (by decide) ?_
  refine lv_iadd hx hb dL_law_1507 ?_
  refine z_cst (v := 6) (by decide +kernel) ?_
  refine z_sld (v := 0) (j := 6) hx hb hX hbl hbA hS rfl (Nat.le_of_ble_eq_true rfl) h0 dL_law_1508 ?_
  refine lv_if_eq (tgt := 1516) hx hb dL_law_1509 (by decide) (fun _ => ?_) (fun c => absurd (by decide) c)
  refine lv_iconst (v := 0) hx hb dL_law_1516 (by decide) ?_
  refine lv_aload_n hx hb dL_law_1517 rfl (lv_at hl 1 rfl) ?_
  refine z_hcalli [(qx, zO 9 9 (zc0 u v))] [(qm, zO 10 83 (zc71 u v)), (qo, zJ K 1 (fun _ => 0))] [0] [1, 2] hP hD hS hA rfl rfl (by decide +kernel) (by decide +kernel) (by decide +kernel) 125 1863522 rfl rfl (fun hPc hDc hF => z_xrunH (As := [.ref qx, .int (nI t1), .int (nI t2), .int (xs 3), .int (xs 4), .int (xs 5), .int 0, .ref qo]) (rest := []) ⟨hx, hb, hml, hown, hg⟩ (cL_run_21 l hl9 K H.size qx qo (zc0 u v) t1 ht1 t2 ht2 (xs 3) (xs 4) (xs 5) (by rw [Int32.lt_iff_toInt_lt, show (0 : Int32).toInt = 0 from by decide]; omega) (by rw [Int32.lt_iff_toInt_lt, show (601 : Int32).toInt = 601 from by decide]; omega)) kS_RL_166 hd_L_run rfl rfl ⟨(Nat.le_of_ble_eq_true rfl), (Nat.le_of_ble_eq_true rfl)⟩ hK hS hZ hPc hDc hF rfl hl.1 rfl (Nat.le_of_ble_eq_true rfl) dL_law_1518 ⟨(Nat.le_of_ble_eq_true rfl), (Nat.le_of_ble_eq_true rfl)⟩) (fun r3 u1 H locs w2 hP hD hS => ?_)
  subst w2
  have hP : va_P K.1 classes [(qm, zO 10 83 (zc71 u v)), (qo, zJ K 1 (fun _ => 0))] H := hP
  have hD : va_D A [(qm, zO 10 83 (zc71 u v)), (qo, zJ K 1 (fun _ => 0))] := hD
  refine lv_istore (lv' := [(5, .int 1), (4, .int 0), (3, .ref qo), (2, .ref qm), (1, .ref qx), (0, .ref b)]) hx hb dL_law_1521 hl (by decide) rfl (fun ls hl => ?_)
  refine lv_aload_n hx hb dL_law_1523 rfl (lv_at hl 3 rfl) ?_
  refine lv_aload_n hx hb dL_law_1524 rfl (lv_at hl 5 rfl) ?_
  refine lv_iload hx hb dL_law_1525 (lv_at hl 1 rfl) ?_
  refine lv_iconst (v := 1) hx hb dL_law_1527 (by decide) ?_
  refine lv_iadd hx hb dL_law_1528 ?_
  refine z_cst (v := 1) (by decide +kernel) ?_
  refine z_sld (v := (nI t1)) (j := 1) hx hb hX hbl hbA hS rfl (Nat.le_of_ble_eq_true rfl) v1 dL_law_1529 ?_
  refine lv_aload_n hx hb dL_law_1530 rfl (lv_at hl 5 rfl) ?_
  refine lv_iload hx hb dL_law_1531 (lv_at hl 1 rfl) ?_
  refine lv_iconst (v := 2) hx hb dL_law_1533 (by decide) ?_
  refine lv_iadd hx hb dL_law_1534 ?_
  refine z_cst (v := 2) (by decide +kernel) ?_
  refine z_sld (v := (nI t2)) (j := 2) hx hb hX hbl hbA hS rfl (Nat.le_of_ble_eq_true rfl) v2 dL_law_1535 ?_
  refine lv_aload_n hx hb dL_law_1536 rfl (lv_at hl 5 rfl) ?_
  refine lv_iload hx hb dL_law_1537 (lv_at hl 1 rfl) ?_
  refine lv_iconst (v := 3) hx hb dL_law_1539 (by decide) ?_
  refine lv_iadd hx hb dL_law_1540 ?_
  refine z_cst (v := 3) (by decide +kernel) ?_
  refine z_sld (v := (xs 3)) (j := 3) hx hb hX hbl hbA hS rfl (Nat.le_of_ble_eq_true rfl) rfl dL_law_1541 ?_
  refine lv_aload_n hx hb dL_law_1542 rfl (lv_at hl 5 rfl) ?_
  refine lv_iload hx hb dL_law_1543 (lv_at hl 1 rfl) ?_
  refine lv_iconst (v := 4) hx hb dL_law_1545 (by decide) ?_
  refine lv_iadd hx hb dL_law_1546 ?_
  refine z_cst (v := 4) (by decide +kernel) ?_
  refine z_sld (v := (xs 4)) (j := 4) hx hb hX hbl hbA hS rfl (Nat.le_of_ble_eq_true rfl) rfl dL_law_1547 ?_
  refine lv_aload_n hx hb dL_law_1548 rfl (lv_at hl 5 rfl) ?_
  refine lv_iload hx hb dL_law_1549 (lv_at hl 1 rfl) ?_
  refine lv_iconst (v := 5) hx hb dL_law_1551 (by decide) ?_
  refine lv_iadd hx hb dL_law_1552 ?_
  refine z_cst (v := 5) (by decide +kernel) ?_
  refine z_sld (v := (xs 5)) (j := 5) hx hb hX hbl hbA hS rfl (Nat.le_of_ble_eq_true rfl) rfl dL_law_1553 ?_
  refine lv_aload_n hx hb dL_law_1554 rfl (lv_at hl 5 rfl) ?_
  refine lv_iload hx hb dL_law_1555 (lv_at hl 1 rfl) ?_
  refine lv_bipush (v := 6) hx hb dL_law_1557 (by decide) ?_
  refine lv_iadd hx hb dL_law_1559 ?_
  refine z_cst (v := 6) (by decide +kernel) ?_
  refine z_sld (v := 0) (j := 6) hx hb hX hbl hbA hS rfl (Nat.le_of_ble_eq_true rfl) h0 dL_law_1560 ?_
  refine lv_if_eq (tgt := 1568) hx hb dL_law_1561 (by decide) (fun _ => ?_) (fun c => absurd (by decide) c)
  refine lv_iconst (v := 0) hx hb dL_law_1568 (by decide) ?_
  refine z_calli [(qm, zO 10 83 (zc71 u v))] [(qo, zJ K 1 (fun _ => 0))] [0] [1] hP hD hS hA rfl rfl (by decide +kernel) (by decide +kernel) (by decide +kernel) 125 1863522 rfl rfl (fun hPc hDc hF => z_runV (As := [.int (nI t1), .int (nI t2), .int (xs 3), .int (xs 4), .int (xs 5), .int 0]) (rest := []) ⟨hx, hb, hml, hown, hg⟩ (cX12_run_21 l K H.size qm (zc71 u v) t1 ht1 t2 ht2 (xs 3) (xs 4) (xs 5) (by rw [Int32.lt_iff_toInt_lt, show (0 : Int32).toInt = 0 from by decide]; omega) (by rw [Int32.lt_iff_toInt_lt, show (600 : Int32).toInt = 600 from by decide]; omega)) kV_RL_169 hd_X12_run rfl rfl ⟨(Nat.le_of_ble_eq_true rfl), (Nat.le_of_ble_eq_true rfl)⟩ hK hS hZ hPc hDc hF 0 rfl rfl rfl hl.1 rfl (Nat.le_of_ble_eq_true rfl) dL_law_1569 ⟨(Nat.le_of_ble_eq_true rfl), (Nat.le_of_ble_eq_true rfl)⟩) (fun r6 u4 H locs w5 hP hD hS => ?_)
  subst w5
  have hP : va_P K.1 classes [(qo, zJ K 1 (fun _ => 0)), (qm, zO 10 83 (va_up (zc71 u v) 81 (.int 1)))] H := hP
  have hD : va_D A [(qo, zJ K 1 (fun _ => 0)), (qm, zO 10 83 (va_up (zc71 u v) 81 (.int 1)))] := hD
  refine lv_istore (lv' := [(6, .int 0), (5, .int 1), (4, .int 0), (3, .ref qo), (2, .ref qm), (1, .ref qx), (0, .ref b)]) hx hb dL_law_1572 hl (by decide) rfl (fun ls hl => ?_)
  refine lv_aload_n hx hb dL_law_1574 rfl (lv_at hl 4 rfl) ?_
  refine z_calli [(qm, zO 10 83 (va_up (zc71 u v) 81 (.int 1)))] [(qo, zJ K 1 (fun _ => 0))] [1] [0] hP hD hS hA rfl rfl (by decide +kernel) (by decide +kernel) (by decide +kernel) 125 1863522 rfl rfl (fun hPc hDc hF => z_runV (As := []) (rest := []) ⟨hx, hb, hml, hown, hg⟩ (cX12_thrown_2 l K H.size qm (va_up (zc71 u v) 81 (.int 1)) zu_eq) kV_RL_104 hd_X12_thrown rfl rfl ⟨(Nat.le_of_ble_eq_true rfl), (Nat.le_of_ble_eq_true rfl)⟩ hK hS hZ hPc hDc hF 0 rfl rfl rfl hl.1 rfl (Nat.le_of_ble_eq_true rfl) dL_law_1575 ⟨(Nat.le_of_ble_eq_true rfl), (Nat.le_of_ble_eq_true rfl)⟩) (fun r9 u7 H locs w8 hP hD hS => ?_)
  subst w8
  have hP : va_P K.1 classes [(qo, zJ K 1 (fun _ => 0)), (qm, zO 10 83 (va_up (zc71 u v) 81 (.int 1)))] H := hP
  have hD : va_D A [(qo, zJ K 1 (fun _ => 0)), (qm, zO 10 83 (va_up (zc71 u v) 81 (.int 1)))] := hD
  refine lv_iload hx hb dL_law_1578 (lv_at hl 1 rfl) ?_
  refine lv_icmp_eq (tgt := 1585) hx hb dL_law_1580 (by decide) (fun _ => ?_) (fun c => absurd (by decide) c)
  refine lv_iload hx hb dL_law_1585 (lv_at hl 1 rfl) ?_
  refine lv_if_ne (tgt := 1602) hx hb dL_law_1587 (by decide) (fun _ => ?_) (fun c => absurd c (by decide))
  refine lv_goto (tgt := 2026) hx hb dL_law_1602 (by decide) ?_
  exact law_back ⟨hx, hb, hr, hml, hown, hg, hX, hbl, hlocks, hK, hZ, hl9, hAA, hA, hbA⟩ (Nat.le_of_ble_eq_true rfl) (Nat.le_of_ble_eq_true rfl) hS (lv_sub hl [2, 6] rfl)
set_option maxHeartbeats 4000000 in
set_option maxRecDepth 100000 in
theorem lawS_19_21 {p : Program} {l : Launch} {e : Env} {s : State} {m : MethodId} {below : List Frame} {meth : Method} {c : Code} {b : Nat} {xs : Nat → Int32} {K : zK} {A : Nat → Prop} {H : Heap} {locs : List Loc} {ls : Array Slot} (C : zC p l s m meth c b xs K A) (qx qm qo : Nat) (u v : Nat → Nat) (h0 : xs 6 = 0) (h1 : 0 ≤ (xs 5).toInt) (h2 : 601 ≤ (xs 5).toInt) (h3 : 0 ≤ (xs 1).toInt) (h4 : (xs 1).toInt < 8) (h5 : 0 ≤ (xs 2).toInt) (h6 : 3 ≤ (xs 2).toInt) (hP : va_P K.1 classes (lwW K qx qm qo u v) H) (hD : va_D A (lwW K qx qm qo u v)) (hS : va_S A s.heap H locs) (hl : lv_has ls 7 [(4, .int 0), (3, .ref qo), (2, .ref qm), (1, .ref qx), (0, .ref b)]) : W p l e room_1 s m #[Value.ref b] below meth c H locs 124 1863516 (lw_Z below #[Value.ref b] s) (F0 m 1471 ls []) := by
  obtain ⟨hx, hb, hr, hml, hown, hg, hX, hbl, hlocks, hK, hZ, hl9, hAA, hA, hbA⟩ := C
  have hP : va_P K.1 classes [(qx, zO 9 9 (zc0 u v)), (qm, zO 10 83 (zc71 u v)), (qo, zJ K 1 (fun _ => 0))] H := hP.sub [0, 71, 123] rfl
  have hD : va_D A [(qx, zO 9 9 (zc0 u v)), (qm, zO 10 83 (zc71 u v)), (qo, zJ K 1 (fun _ => 0))] := hD.sub [0, 71, 123] (by decide +kernel) rfl
  obtain ⟨t1, ht1, v1⟩ : ∃ j : Nat, j < 8 ∧ xs 1 = nI j := z_nat (n := 8) (by omega) (by omega) (by decide)
  refine lv_aload_n hx hb dL_law_1471 rfl (lv_at hl 3 rfl) ?_
  refine lv_aload_n hx hb dL_law_1472 rfl (lv_at hl 4 rfl) ?_
  refine lv_iload hx hb dL_law_1473 (lv_at hl 0 rfl) ?_
  refine lv_iconst (v := 1) hx hb dL_law_1475 (by decide) ?_
  refine lv_iadd hx hb dL_law_1476 ?_
  refine z_cst (v := 1) (by decide +kernel) ?_
  refine z_sld (v := (nI t1)) (j := 1) hx hb hX hbl hbA hS rfl (Nat.le_of_ble_eq_true rfl) v1 dL_law_1477 ?_
  refine lv_aload_n hx hb dL_law_1478 rfl (lv_at hl 4 rfl) ?_
  refine lv_iload hx hb dL_law_1479 (lv_at hl 0 rfl) ?_
  refine lv_iconst (v := 2) hx hb dL_law_1481 (by decide) ?_
  refine lv_iadd hx hb dL_law_1482 ?_
  refine z_cst (v := 2) (by decide +kernel) ?_
  refine z_sld (v := (xs 2)) (j := 2) hx hb hX hbl hbA hS rfl (Nat.le_of_ble_eq_true rfl) rfl dL_law_1483 ?_
  refine lv_aload_n hx hb dL_law_1484 rfl (lv_at hl 4 rfl) ?_
  refine lv_iload hx hb dL_law_1485 (lv_at hl 0 rfl) ?_
  refine lv_iconst (v := 3) hx hb dL_law_1487 (by decide) ?_
  refine lv_iadd hx hb dL_law_1488 ?_
  refine z_cst (v := 3) (by decide +kernel) ?_
  refine z_sld (v := (xs 3)) (j := 3) hx hb hX hbl hbA hS rfl (Nat.le_of_ble_eq_true rfl) rfl dL_law_1489 ?_
  refine lv_aload_n hx hb dL_law_1490 rfl (lv_at hl 4 rfl) ?_
  refine lv_iload hx hb dL_law_1491 (lv_at hl 0 rfl) ?_
  refine lv_iconst (v := 4) hx hb dL_law_1493 (by decide) ?_
  refine lv_iadd hx hb dL_law_1494 ?_
  refine z_cst (v := 4) (by decide +kernel) ?_
  refine z_sld (v := (xs 4)) (j := 4) hx hb hX hbl hbA hS rfl (Nat.le_of_ble_eq_true rfl) rfl dL_law_1495 ?_
  refine lv_aload_n hx hb dL_law_1496 rfl (lv_at hl 4 rfl) ?_
  refine lv_iload hx hb dL_law_1497 (lv_at hl 0 rfl) ?_
  refine lv_iconst (v := 5) hx hb dL_law_1499 (by decide) ?_
  refine lv_iadd hx hb dL_law_1500 ?_
  refine z_cst (v := 5) (by decide +kernel) ?_
  refine z_sld (v := (xs 5)) (j := 5) hx hb hX hbl hbA hS rfl (Nat.le_of_ble_eq_true rfl) rfl dL_law_1501 ?_
  refine lv_aload_n hx hb dL_law_1502 rfl (lv_at hl 4 rfl) ?_
  refine lv_iload hx hb dL_law_1503 (lv_at hl 0 rfl) ?_
  refine lv_bipush (v := 6) hx hb dL_law_1505 (by decide) ?_
  refine lv_iadd hx hb dL_law_1507 ?_
  refine z_cst (v := 6) (by decide +kernel) ?_
  refine z_sld (v := 0) (j := 6) hx hb hX hbl hbA hS rfl (Nat.le_of_ble_eq_true rfl) h0 dL_law_1508 ?_
  refine lv_if_eq (tgt := 1516) hx hb dL_law_1509 (by decide) (fun _ => ?_) (fun c => absurd (by decide) c)
  refine lv_iconst (v := 0) hx hb dL_law_1516 (by decide) ?_
  refine lv_aload_n hx hb dL_law_1517 rfl (lv_at hl 1 rfl) ?_
  refine z_hcalli [(qx, zO 9 9 (zc0 u v))] [(qm, zO 10 83 (zc71 u v)), (qo, zJ K 1 (fun _ => 0))] [0] [1, 2] hP hD hS hA rfl rfl (by decide +kernel) (by decide +kernel) (by decide +kernel) 125 1863522 rfl rfl (fun hPc hDc hF => z_xrunH (As := [.ref qx, .int (nI t1), .int (xs 2), .int (xs 3), .int (xs 4), .int (xs 5), .int 0, .ref qo]) (rest := []) ⟨hx, hb, hml, hown, hg⟩ (cL_run_20 l hl9 K H.size qx qo (zc0 u v) t1 ht1 (xs 2) (xs 3) (xs 4) (xs 5) (by rw [Int32.lt_iff_toInt_lt, show (0 : Int32).toInt = 0 from by decide]; omega) (by rw [Int32.lt_iff_toInt_lt, show (601 : Int32).toInt = 601 from by decide]; omega)) kS_RL_166 hd_L_run rfl rfl ⟨(Nat.le_of_ble_eq_true rfl), (Nat.le_of_ble_eq_true rfl)⟩ hK hS hZ hPc hDc hF rfl hl.1 rfl (Nat.le_of_ble_eq_true rfl) dL_law_1518 ⟨(Nat.le_of_ble_eq_true rfl), (Nat.le_of_ble_eq_true rfl)⟩) (fun r3 u1 H locs w2 hP hD hS => ?_)
  subst w2
  have hP : va_P K.1 classes [(qm, zO 10 83 (zc71 u v)), (qo, zJ K 1 (fun _ => 0))] H := hP
  have hD : va_D A [(qm, zO 10 83 (zc71 u v)), (qo, zJ K 1 (fun _ => 0))] := hD
  refine lv_istore (lv' := [(5, .int 1), (4, .int 0), (3, .ref qo), (2, .ref qm), (1, .ref qx), (0, .ref b)]) hx hb dL_law_1521 hl (by decide) rfl (fun ls hl => ?_)
  refine lv_aload_n hx hb dL_law_1523 rfl (lv_at hl 3 rfl) ?_
  refine lv_aload_n hx hb dL_law_1524 rfl (lv_at hl 5 rfl) ?_
  refine lv_iload hx hb dL_law_1525 (lv_at hl 1 rfl) ?_
  refine lv_iconst (v := 1) hx hb dL_law_1527 (by decide) ?_
  refine lv_iadd hx hb dL_law_1528 ?_
  refine z_cst (v := 1) (by decide +kernel) ?_
  refine z_sld (v := (nI t1)) (j := 1) hx hb hX hbl hbA hS rfl (Nat.le_of_ble_eq_true rfl) v1 dL_law_1529 ?_
  refine lv_aload_n hx hb dL_law_1530 rfl (lv_at hl 5 rfl) ?_
  refine lv_iload hx hb dL_law_1531 (lv_at hl 1 rfl) ?_
  refine lv_iconst (v := 2) hx hb dL_law_1533 (by decide) ?_
  refine lv_iadd hx hb dL_law_1534 ?_
  refine z_cst (v := 2) (by decide +kernel) ?_
  refine z_sld (v := (xs 2)) (j := 2) hx hb hX hbl hbA hS rfl (Nat.le_of_ble_eq_true rfl) rfl dL_law_1535 ?_
  refine lv_aload_n hx hb dL_law_1536 rfl (lv_at hl 5 rfl) ?_
  refine lv_iload hx hb dL_law_1537 (lv_at hl 1 rfl) ?_
  refine lv_iconst (v := 3) hx hb dL_law_1539 (by decide) ?_
  refine lv_iadd hx hb dL_law_1540 ?_
  refine z_cst (v := 3) (by decide +kernel) ?_
  refine z_sld (v := (xs 3)) (j := 3) hx hb hX hbl hbA hS rfl (Nat.le_of_ble_eq_true rfl) rfl dL_law_1541 ?_
  refine lv_aload_n hx hb dL_law_1542 rfl (lv_at hl 5 rfl) ?_
  refine lv_iload hx hb dL_law_1543 (lv_at hl 1 rfl) ?_
  refine lv_iconst (v := 4) hx hb dL_law_1545 (by decide) ?_
  refine lv_iadd hx hb dL_law_1546 ?_
  refine z_cst (v := 4) (by decide +kernel) ?_
  refine z_sld (v := (xs 4)) (j := 4) hx hb hX hbl hbA hS rfl (Nat.le_of_ble_eq_true rfl) rfl dL_law_1547 ?_
  refine lv_aload_n hx hb dL_law_1548 rfl (lv_at hl 5 rfl) ?_
  refine lv_iload hx hb dL_law_1549 (lv_at hl 1 rfl) ?_
  refine lv_iconst (v := 5) hx hb dL_law_1551 (by decide) ?_
  refine lv_iadd hx hb dL_law_1552 ?_
  refine z_cst (v := 5) (by decide +kernel) ?_
  refine z_sld (v := (xs 5)) (j := 5) hx hb hX hbl hbA hS rfl (Nat.le_of_ble_eq_true rfl) rfl dL_law_1553 ?_
  refine lv_aload_n hx hb dL_law_1554 rfl (lv_at hl 5 rfl) ?_
  refine lv_iload hx hb dL_law_1555 (lv_at hl 1 rfl) ?_
  refine lv_bipush (v := 6) hx hb dL_law_1557 (by decide) ?_
  refine lv_iadd hx hb dL_law_1559 ?_
  refine z_cst (v := 6) (by decide +kernel) ?_
  refine z_sld (v := 0) (j := 6) hx hb hX hbl hbA hS rfl (Nat.le_of_ble_eq_true rfl) h0 dL_law_1560 ?_
  refine lv_if_eq (tgt := 1568) hx hb dL_law_1561 (by decide) (fun _ => ?_) (fun c => absurd (by decide) c)
  refine lv_iconst (v := 0) hx hb dL_law_1568 (by decide) ?_
  refine z_calli [(qm, zO 10 83 (zc71 u v))] [(qo, zJ K 1 (fun _ => 0))] [0] [1] hP hD hS hA rfl rfl (by decide +kernel) (by decide +kernel) (by decide +kernel) 125 1863522 rfl rfl (fun hPc hDc hF => z_runV (As := [.int (nI t1), .int (xs 2), .int (xs 3), .int (xs 4), .int (xs 5), .int 0]) (rest := []) ⟨hx, hb, hml, hown, hg⟩ (cX12_run_22 l K H.size qm (zc71 u v) t1 ht1 (xs 2) (xs 3) (xs 4) (xs 5) (by rw [Int32.lt_iff_toInt_lt, show (0 : Int32).toInt = 0 from by decide]; omega) (by rw [Int32.lt_iff_toInt_lt, show (600 : Int32).toInt = 600 from by decide]; omega) (by rw [Int32.lt_iff_toInt_lt, show (0 : Int32).toInt = 0 from by decide]; omega) (by rw [Int32.lt_iff_toInt_lt, show (2 : Int32).toInt = 2 from by decide]; omega)) kV_RL_169 hd_X12_run rfl rfl ⟨(Nat.le_of_ble_eq_true rfl), (Nat.le_of_ble_eq_true rfl)⟩ hK hS hZ hPc hDc hF 0 rfl rfl rfl hl.1 rfl (Nat.le_of_ble_eq_true rfl) dL_law_1569 ⟨(Nat.le_of_ble_eq_true rfl), (Nat.le_of_ble_eq_true rfl)⟩) (fun r6 u4 H locs w5 hP hD hS => ?_)
  subst w5
  have hP : va_P K.1 classes [(qo, zJ K 1 (fun _ => 0)), (qm, zO 10 83 (va_up (zc71 u v) 81 (.int 1)))] H := hP
  have hD : va_D A [(qo, zJ K 1 (fun _ => 0)), (qm, zO 10 83 (va_up (zc71 u v) 81 (.int 1)))] := hD
  refine lv_istore (lv' := [(6, .int 0), (5, .int 1), (4, .int 0), (3, .ref qo), (2, .ref qm), (1, .ref qx), (0, .ref b)]) hx hb dL_law_1572 hl (by decide) rfl (fun ls hl => ?_)
  refine lv_aload_n hx hb dL_law_1574 rfl (lv_at hl 4 rfl) ?_
  refine z_calli [(qm, zO 10 83 (va_up (zc71 u v) 81 (.int 1)))] [(qo, zJ K 1 (fun _ => 0))] [1] [0] hP hD hS hA rfl rfl (by decide +kernel) (by decide +kernel) (by decide +kernel) 125 1863522 rfl rfl (fun hPc hDc hF => z_runV (As := []) (rest := []) ⟨hx, hb, hml, hown, hg⟩ (cX12_thrown_2 l K H.size qm (va_up (zc71 u v) 81 (.int 1)) zu_eq) kV_RL_104 hd_X12_thrown rfl rfl ⟨(Nat.le_of_ble_eq_true rfl), (Nat.le_of_ble_eq_true rfl)⟩ hK hS hZ hPc hDc hF 0 rfl rfl rfl hl.1 rfl (Nat.le_of_ble_eq_true rfl) dL_law_1575 ⟨(Nat.le_of_ble_eq_true rfl), (Nat.le_of_ble_eq_true rfl)⟩) (fun r9 u7 H locs w8 hP hD hS => ?_)
  subst w8
  have hP : va_P K.1 classes [(qo, zJ K 1 (fun _ => 0)), (qm, zO 10 83 (va_up (zc71 u v) 81 (.int 1)))] H := hP
  have hD : va_D A [(qo, zJ K 1 (fun _ => 0)), (qm, zO 10 83 (va_up (zc71 u v) 81 (.int 1)))] := hD
  refine lv_iload hx hb dL_law_1578 (lv_at hl 1 rfl) ?_
  refine lv_icmp_eq (tgt := 1585) hx hb dL_law_1580 (by decide) (fun _ => ?_) (fun c => absurd (by decide) c)
  refine lv_iload hx hb dL_law_1585 (lv_at hl 1 rfl) ?_
  refine lv_if_ne (tgt := 1602) hx hb dL_law_1587 (by decide) (fun _ => ?_) (fun c => absurd c (by decide))
  refine lv_goto (tgt := 2026) hx hb dL_law_1602 (by decide) ?_
  exact law_back ⟨hx, hb, hr, hml, hown, hg, hX, hbl, hlocks, hK, hZ, hl9, hAA, hA, hbA⟩ (Nat.le_of_ble_eq_true rfl) (Nat.le_of_ble_eq_true rfl) hS (lv_sub hl [2, 6] rfl)
set_option maxHeartbeats 4000000 in
set_option maxRecDepth 100000 in
theorem lawS_19_22 {p : Program} {l : Launch} {e : Env} {s : State} {m : MethodId} {below : List Frame} {meth : Method} {c : Code} {b : Nat} {xs : Nat → Int32} {K : zK} {A : Nat → Prop} {H : Heap} {locs : List Loc} {ls : Array Slot} (C : zC p l s m meth c b xs K A) (qx qm qo : Nat) (u v : Nat → Nat) (h0 : xs 6 = 0) (h1 : 0 ≤ (xs 5).toInt) (h2 : 601 ≤ (xs 5).toInt) (h3 : 0 ≤ (xs 1).toInt) (h4 : 8 ≤ (xs 1).toInt) (hP : va_P K.1 classes (lwW K qx qm qo u v) H) (hD : va_D A (lwW K qx qm qo u v)) (hS : va_S A s.heap H locs) (hl : lv_has ls 7 [(4, .int 0), (3, .ref qo), (2, .ref qm), (1, .ref qx), (0, .ref b)]) : W p l e room_1 s m #[Value.ref b] below meth c H locs 124 1863516 (lw_Z below #[Value.ref b] s) (F0 m 1471 ls []) := by
  obtain ⟨hx, hb, hr, hml, hown, hg, hX, hbl, hlocks, hK, hZ, hl9, hAA, hA, hbA⟩ := C
  have hP : va_P K.1 classes [(qx, zO 9 9 (zc0 u v)), (qm, zO 10 83 (zc71 u v)), (qo, zJ K 1 (fun _ => 0))] H := hP.sub [0, 71, 123] rfl
  have hD : va_D A [(qx, zO 9 9 (zc0 u v)), (qm, zO 10 83 (zc71 u v)), (qo, zJ K 1 (fun _ => 0))] := hD.sub [0, 71, 123] (by decide +kernel) rfl
  refine lv_aload_n hx hb dL_law_1471 rfl (lv_at hl 3 rfl) ?_
  refine lv_aload_n hx hb dL_law_1472 rfl (lv_at hl 4 rfl) ?_
  refine lv_iload hx hb dL_law_1473 (lv_at hl 0 rfl) ?_
  refine lv_iconst (v := 1) hx hb dL_law_1475 (by decide) ?_
  refine lv_iadd hx hb dL_law_1476 ?_
  refine z_cst (v := 1) (by decide +kernel) ?_
  refine z_sld (v := (xs 1)) (j := 1) hx hb hX hbl hbA hS rfl (Nat.le_of_ble_eq_true rfl) rfl dL_law_1477 ?_
  refine lv_aload_n hx hb dL_law_1478 rfl (lv_at hl 4 rfl) ?_
  refine lv_iload hx hb dL_law_1479 (lv_at hl 0 rfl) ?_
  refine lv_iconst (v := 2) hx hb dL_law_1481 (by decide) ?_
  refine lv_iadd hx hb dL_law_1482 ?_
  refine z_cst (v := 2) (by decide +kernel) ?_
  refine z_sld (v := (xs 2)) (j := 2) hx hb hX hbl hbA hS rfl (Nat.le_of_ble_eq_true rfl) rfl dL_law_1483 ?_
  refine lv_aload_n hx hb dL_law_1484 rfl (lv_at hl 4 rfl) ?_
  refine lv_iload hx hb dL_law_1485 (lv_at hl 0 rfl) ?_
  refine lv_iconst (v := 3) hx hb dL_law_1487 (by decide) ?_
  refine lv_iadd hx hb dL_law_1488 ?_
  refine z_cst (v := 3) (by decide +kernel) ?_
  refine z_sld (v := (xs 3)) (j := 3) hx hb hX hbl hbA hS rfl (Nat.le_of_ble_eq_true rfl) rfl dL_law_1489 ?_
  refine lv_aload_n hx hb dL_law_1490 rfl (lv_at hl 4 rfl) ?_
  refine lv_iload hx hb dL_law_1491 (lv_at hl 0 rfl) ?_
  refine lv_iconst (v := 4) hx hb dL_law_1493 (by decide) ?_
  refine lv_iadd hx hb dL_law_1494 ?_
  refine z_cst (v := 4) (by decide +kernel) ?_
  refine z_sld (v := (xs 4)) (j := 4) hx hb hX hbl hbA hS rfl (Nat.le_of_ble_eq_true rfl) rfl dL_law_1495 ?_
  refine lv_aload_n hx hb dL_law_1496 rfl (lv_at hl 4 rfl) ?_
  refine lv_iload hx hb dL_law_1497 (lv_at hl 0 rfl) ?_
  refine lv_iconst (v := 5) hx hb dL_law_1499 (by decide) ?_
  refine lv_iadd hx hb dL_law_1500 ?_
  refine z_cst (v := 5) (by decide +kernel) ?_
  refine z_sld (v := (xs 5)) (j := 5) hx hb hX hbl hbA hS rfl (Nat.le_of_ble_eq_true rfl) rfl dL_law_1501 ?_
  refine lv_aload_n hx hb dL_law_1502 rfl (lv_at hl 4 rfl) ?_
  refine lv_iload hx hb dL_law_1503 (lv_at hl 0 rfl) ?_
  refine lv_bipush (v := 6) hx hb dL_law_1505 (by decide) ?_
  refine lv_iadd hx hb dL_law_1507 ?_
  refine z_cst (v := 6) (by decide +kernel) ?_
  refine z_sld (v := 0) (j := 6) hx hb hX hbl hbA hS rfl (Nat.le_of_ble_eq_true rfl) h0 dL_law_1508 ?_
  refine lv_if_eq (tgt := 1516) hx hb dL_law_1509 (by decide) (fun _ => ?_) (fun c => absurd (by decide) c)
  refine lv_iconst (v := 0) hx hb dL_law_1516 (by decide) ?_
  refine lv_aload_n hx hb dL_law_1517 rfl (lv_at hl 1 rfl) ?_
  refine z_hcalli [(qx, zO 9 9 (zc0 u v))] [(qm, zO 10 83 (zc71 u v)), (qo, zJ K 1 (fun _ => 0))] [0] [1, 2] hP hD hS hA rfl rfl (by decide +kernel) (by decide +kernel) (by decide +kernel) 125 1863522 rfl rfl (fun hPc hDc hF => z_xrunH (As := [.ref qx, .int (xs 1), .int (xs 2), .int (xs 3), .int (xs 4), .int (xs 5), .int 0, .ref qo]) (rest := []) ⟨hx, hb, hml, hown, hg⟩ (cL_run_19 l hl9 K H.size qx qo (zc0 u v) (xs 1) (xs 2) (xs 3) (xs 4) (xs 5) (by rw [Int32.lt_iff_toInt_lt, show (0 : Int32).toInt = 0 from by decide]; omega) (by rw [Int32.lt_iff_toInt_lt, show (601 : Int32).toInt = 601 from by decide]; omega)) kS_RL_166 hd_L_run rfl rfl ⟨(Nat.le_of_ble_eq_true rfl), (Nat.le_of_ble_eq_true rfl)⟩ hK hS hZ hPc hDc hF rfl hl.1 rfl (Nat.le_of_ble_eq_true rfl) dL_law_1518 ⟨(Nat.le_of_ble_eq_true rfl), (Nat.le_of_ble_eq_true rfl)⟩) (fun r3 u1 H locs w2 hP hD hS => ?_)
  subst w2
  have hP : va_P K.1 classes [(qm, zO 10 83 (zc71 u v)), (qo, zJ K 1 (fun _ => 0))] H := hP
  have hD : va_D A [(qm, zO 10 83 (zc71 u v)), (qo, zJ K 1 (fun _ => 0))] := hD
  refine lv_istore (lv' := [(5, .int 1), (4, .int 0), (3, .ref qo), (2, .ref qm), (1, .ref qx), (0, .ref b)]) hx hb dL_law_1521 hl (by decide) rfl (fun ls hl => ?_)
  refine lv_aload_n hx hb dL_law_1523 rfl (lv_at hl 3 rfl) ?_
  refine lv_aload_n hx hb dL_law_1524 rfl (lv_at hl 5 rfl) ?_
  refine lv_iload hx hb dL_law_1525 (lv_at hl 1 rfl) ?_
  refine lv_iconst (v := 1) hx hb dL_law_1527 (by decide) ?_
  refine lv_iadd hx hb dL_law_1528 ?_
  refine z_cst (v := 1) (by decide +kernel) ?_
  refine z_sld (v := (xs 1)) (j := 1) hx hb hX hbl hbA hS rfl (Nat.le_of_ble_eq_true rfl) rfl dL_law_1529 ?_
  refine lv_aload_n hx hb dL_law_1530 rfl (lv_at hl 5 rfl) ?_
  refine lv_iload hx hb dL_law_1531 (lv_at hl 1 rfl) ?_
  refine lv_iconst (v := 2) hx hb dL_law_1533 (by decide) ?_
  refine lv_iadd hx hb dL_law_1534 ?_
  refine z_cst (v := 2) (by decide +kernel) ?_
  refine z_sld (v := (xs 2)) (j := 2) hx hb hX hbl hbA hS rfl (Nat.le_of_ble_eq_true rfl) rfl dL_law_1535 ?_
  refine lv_aload_n hx hb dL_law_1536 rfl (lv_at hl 5 rfl) ?_
  refine lv_iload hx hb dL_law_1537 (lv_at hl 1 rfl) ?_
  refine lv_iconst (v := 3) hx hb dL_law_1539 (by decide) ?_
  refine lv_iadd hx hb dL_law_1540 ?_
  refine z_cst (v := 3) (by decide +kernel) ?_
  refine z_sld (v := (xs 3)) (j := 3) hx hb hX hbl hbA hS rfl (Nat.le_of_ble_eq_true rfl) rfl dL_law_1541 ?_
  refine lv_aload_n hx hb dL_law_1542 rfl (lv_at hl 5 rfl) ?_
  refine lv_iload hx hb dL_law_1543 (lv_at hl 1 rfl) ?_
  refine lv_iconst (v := 4) hx hb dL_law_1545 (by decide) ?_
  refine lv_iadd hx hb dL_law_1546 ?_
  refine z_cst (v := 4) (by decide +kernel) ?_
  refine z_sld (v := (xs 4)) (j := 4) hx hb hX hbl hbA hS rfl (Nat.le_of_ble_eq_true rfl) rfl dL_law_1547 ?_
  refine lv_aload_n hx hb dL_law_1548 rfl (lv_at hl 5 rfl) ?_
  refine lv_iload hx hb dL_law_1549 (lv_at hl 1 rfl) ?_
  refine lv_iconst (v := 5) hx hb dL_law_1551 (by decide) ?_
  refine lv_iadd hx hb dL_law_1552 ?_
  refine z_cst (v := 5) (by decide +kernel) ?_
  refine z_sld (v := (xs 5)) (j := 5) hx hb hX hbl hbA hS rfl (Nat.le_of_ble_eq_true rfl) rfl dL_law_1553 ?_
  refine lv_aload_n hx hb dL_law_1554 rfl (lv_at hl 5 rfl) ?_
  refine lv_iload hx hb dL_law_1555 (lv_at hl 1 rfl) ?_
  refine lv_bipush (v := 6) hx hb dL_law_1557 (by decide) ?_
  refine lv_iadd hx hb dL_law_1559 ?_
  refine z_cst (v := 6) (by decide +kernel) ?_
  refine z_sld (v := 0) (j := 6) hx hb hX hbl hbA hS rfl (Nat.le_of_ble_eq_true rfl) h0 dL_law_1560 ?_
  refine lv_if_eq (tgt := 1568) hx hb dL_law_1561 (by decide) (fun _ => ?_) (fun c => absurd (by decide) c)
  refine lv_iconst (v := 0) hx hb dL_law_1568 (by decide) ?_
  refine z_calli [(qm, zO 10 83 (zc71 u v))] [(qo, zJ K 1 (fun _ => 0))] [0] [1] hP hD hS hA rfl rfl (by decide +kernel) (by decide +kernel) (by decide +kernel) 125 1863522 rfl rfl (fun hPc hDc hF => z_runV (As := [.int (xs 1), .int (xs 2), .int (xs 3), .int (xs 4), .int (xs 5), .int 0]) (rest := []) ⟨hx, hb, hml, hown, hg⟩ (cX12_run_23 l K H.size qm (zc71 u v) (xs 1) (xs 2) (xs 3) (xs 4) (xs 5) (by rw [Int32.lt_iff_toInt_lt, show (0 : Int32).toInt = 0 from by decide]; omega) (by rw [Int32.lt_iff_toInt_lt, show (600 : Int32).toInt = 600 from by decide]; omega) (by rw [Int32.lt_iff_toInt_lt, show (0 : Int32).toInt = 0 from by decide]; omega) (by rw [Int32.lt_iff_toInt_lt, show (7 : Int32).toInt = 7 from by decide]; omega)) kV_RL_169 hd_X12_run rfl rfl ⟨(Nat.le_of_ble_eq_true rfl), (Nat.le_of_ble_eq_true rfl)⟩ hK hS hZ hPc hDc hF 0 rfl rfl rfl hl.1 rfl (Nat.le_of_ble_eq_true rfl) dL_law_1569 ⟨(Nat.le_of_ble_eq_true rfl), (Nat.le_of_ble_eq_true rfl)⟩) (fun r6 u4 H locs w5 hP hD hS => ?_)
  subst w5
  have hP : va_P K.1 classes [(qo, zJ K 1 (fun _ => 0)), (qm, zO 10 83 (va_up (zc71 u v) 81 (.int 1)))] H := hP
  have hD : va_D A [(qo, zJ K 1 (fun _ => 0)), (qm, zO 10 83 (va_up (zc71 u v) 81 (.int 1)))] := hD
  refine lv_istore (lv' := [(6, .int 0), (5, .int 1), (4, .int 0), (3, .ref qo), (2, .ref qm), (1, .ref qx), (0, .ref b)]) hx hb dL_law_1572 hl (by decide) rfl (fun ls hl => ?_)
  refine lv_aload_n hx hb dL_law_1574 rfl (lv_at hl 4 rfl) ?_
  refine z_calli [(qm, zO 10 83 (va_up (zc71 u v) 81 (.int 1)))] [(qo, zJ K 1 (fun _ => 0))] [1] [0] hP hD hS hA rfl rfl (by decide +kernel) (by decide +kernel) (by decide +kernel) 125 1863522 rfl rfl (fun hPc hDc hF => z_runV (As := []) (rest := []) ⟨hx, hb, hml, hown, hg⟩ (cX12_thrown_2 l K H.size qm (va_up (zc71 u v) 81 (.int 1)) zu_eq) kV_RL_104 hd_X12_thrown rfl rfl ⟨(Nat.le_of_ble_eq_true rfl), (Nat.le_of_ble_eq_true rfl)⟩ hK hS hZ hPc hDc hF 0 rfl rfl rfl hl.1 rfl (Nat.le_of_ble_eq_true rfl) dL_law_1575 ⟨(Nat.le_of_ble_eq_true rfl), (Nat.le_of_ble_eq_true rfl)⟩) (fun r9 u7 H locs w8 hP hD hS => ?_)
  subst w8
  have hP : va_P K.1 classes [(qo, zJ K 1 (fun _ => 0)), (qm, zO 10 83 (va_up (zc71 u v) 81 (.int 1)))] H := hP
  have hD : va_D A [(qo, zJ K 1 (fun _ => 0)), (qm, zO 10 83 (va_up (zc71 u v) 81 (.int 1)))] := hD
  refine lv_iload hx hb dL_law_1578 (lv_at hl 1 rfl) ?_
  refine lv_icmp_eq (tgt := 1585) hx hb dL_law_1580 (by decide) (fun _ => ?_) (fun c => absurd (by decide) c)
  refine lv_iload hx hb dL_law_1585 (lv_at hl 1 rfl) ?_
  refine lv_if_ne (tgt := 1602) hx hb dL_law_1587 (by decide) (fun _ => ?_) (fun c => absurd c (by decide))
  refine lv_goto (tgt := 2026) hx hb dL_law_1602 (by decide) ?_
  exact law_back ⟨hx, hb, hr, hml, hown, hg, hX, hbl, hlocks, hK, hZ, hl9, hAA, hA, hbA⟩ (Nat.le_of_ble_eq_true rfl) (Nat.le_of_ble_eq_true rfl) hS (lv_sub hl [2, 6] rfl)
set_option maxHeartbeats 4000000 in
set_option maxRecDepth 100000 in
theorem lawS_19_23 {p : Program} {l : Launch} {e : Env} {s : State} {m : MethodId} {below : List Frame} {meth : Method} {c : Code} {b : Nat} {xs : Nat → Int32} {K : zK} {A : Nat → Prop} {H : Heap} {locs : List Loc} {ls : Array Slot} (C : zC p l s m meth c b xs K A) (qx qm qo : Nat) (u v : Nat → Nat) (h0 : ¬ xs 6 = 0) (h1 : (xs 5).toInt < 0) (h2 : (xs 1).toInt < 0) (hP : va_P K.1 classes (lwW K qx qm qo u v) H) (hD : va_D A (lwW K qx qm qo u v)) (hS : va_S A s.heap H locs) (hl : lv_has ls 7 [(4, .int 0), (3, .ref qo), (2, .ref qm), (1, .ref qx), (0, .ref b)]) : W p l e room_1 s m #[Value.ref b] below meth c H locs 124 1863516 (lw_Z below #[Value.ref b] s) (F0 m 1471 ls []) := by
  obtain ⟨hx, hb, hr, hml, hown, hg, hX, hbl, hlocks, hK, hZ, hl9, hAA, hA, hbA⟩ := C
  have hP : va_P K.1 classes [(qx, zO 9 9 (zc0 u v)), (qm, zO 10 83 (zc71 u v)), (qo, zJ K 1 (fun _ => 0))] H := hP.sub [0, 71, 123] rfl
  have hD : va_D A [(qx, zO 9 9 (zc0 u v)), (qm, zO 10 83 (zc71 u v)), (qo, zJ K 1 (fun _ => 0))] := hD.sub [0, 71, 123] (by decide +kernel) rfl
  refine lv_aload_n hx hb dL_law_1471 rfl (lv_at hl 3 rfl) ?_
  refine lv_aload_n hx hb dL_law_1472 rfl (lv_at hl 4 rfl) ?_
  refine lv_iload hx hb dL_law_1473 (lv_at hl 0 rfl) ?_
  refine lv_iconst (v := 1) hx hb dL_law_1475 (by decide) ?_
  refine lv_iadd hx hb dL_law_1476 ?_
  refine z_cst (v := 1) (by decide +kernel) ?_
  refine z_sld (v := (xs 1)) (j := 1) hx hb hX hbl hbA hS rfl (Nat.le_of_ble_eq_true rfl) rfl dL_law_1477 ?_
  refine lv_aload_n hx hb dL_law_1478 rfl (lv_at hl 4 rfl) ?_
  refine lv_iload hx hb dL_law_1479 (lv_at hl 0 rfl) ?_
  refine lv_iconst (v := 2) hx hb dL_law_1481 (by decide) ?_
  refine lv_iadd hx hb dL_law_1482 ?_
  refine z_cst (v := 2) (by decide +kernel) ?_
  refine z_sld (v := (xs 2)) (j := 2) hx hb hX hbl hbA hS rfl (Nat.le_of_ble_eq_true rfl) rfl dL_law_1483 ?_
  refine lv_aload_n hx hb dL_law_1484 rfl (lv_at hl 4 rfl) ?_
  refine lv_iload hx hb dL_law_1485 (lv_at hl 0 rfl) ?_
  refine lv_iconst (v := 3) hx hb dL_law_1487 (by decide) ?_
  refine lv_iadd hx hb dL_law_1488 ?_
  refine z_cst (v := 3) (by decide +kernel) ?_
  refine z_sld (v := (xs 3)) (j := 3) hx hb hX hbl hbA hS rfl (Nat.le_of_ble_eq_true rfl) rfl dL_law_1489 ?_
  refine lv_aload_n hx hb dL_law_1490 rfl (lv_at hl 4 rfl) ?_
  refine lv_iload hx hb dL_law_1491 (lv_at hl 0 rfl) ?_
  refine lv_iconst (v := 4) hx hb dL_law_1493 (by decide) ?_
  refine lv_iadd hx hb dL_law_1494 ?_
  refine z_cst (v := 4) (by decide +kernel) ?_
  refine z_sld (v := (xs 4)) (j := 4) hx hb hX hbl hbA hS rfl (Nat.le_of_ble_eq_true rfl) rfl dL_law_1495 ?_
  refine lv_aload_n hx hb dL_law_1496 rfl (lv_at hl 4 rfl) ?_
  refine lv_iload hx hb dL_law_1497 (lv_at hl 0 rfl) ?_
  refine lv_iconst (v := 5) hx hb dL_law_1499 (by decide) ?_
  refine lv_iadd hx hb dL_law_1500 ?_
  refine z_cst (v := 5) (by decide +kernel) ?_
  refine z_sld (v := (xs 5)) (j := 5) hx hb hX hbl hbA hS rfl (Nat.le_of_ble_eq_true rfl) rfl dL_law_1501 ?_
  refine lv_aload_n hx hb dL_law_1502 rfl (lv_at hl 4 rfl) ?_
  refine lv_iload hx hb dL_law_1503 (lv_at hl 0 rfl) ?_
  refine lv_bipush (v := 6) hx hb dL_law_1505 (by decide) ?_
  refine lv_iadd hx hb dL_law_1507 ?_
  refine z_cst (v := 6) (by decide +kernel) ?_
  refine z_sld (v := (xs 6)) (j := 6) hx hb hX hbl hbA hS rfl (Nat.le_of_ble_eq_true rfl) rfl dL_law_1508 ?_
  refine lv_if_eq (tgt := 1516) hx hb dL_law_1509 (by decide) (fun c => absurd c h0) (fun _ => ?_)
  refine lv_iconst (v := 1) hx hb dL_law_1512 (by decide) ?_
  refine lv_goto (tgt := 1517) hx hb dL_law_1513 (by decide) ?_
  refine lv_aload_n hx hb dL_law_1517 rfl (lv_at hl 1 rfl) ?_
  refine z_hcalli [(qx, zO 9 9 (zc0 u v))] [(qm, zO 10 83 (zc71 u v)), (qo, zJ K 1 (fun _ => 0))] [0] [1, 2] hP hD hS hA rfl rfl (by decide +kernel) (by decide +kernel) (by decide +kernel) 125 1863522 rfl rfl (fun hPc hDc hF => z_xrunH (As := [.ref qx, .int (xs 1), .int (xs 2), .int (xs 3), .int (xs 4), .int (xs 5), .int 1, .ref qo]) (rest := []) ⟨hx, hb, hml, hown, hg⟩ (cL_run_22 l hl9 K H.size qx qo (zc0 u v) (xs 1) (xs 2) (xs 3) (xs 4) (xs 5) (by rw [Int32.lt_iff_toInt_lt, show (0 : Int32).toInt = 0 from by decide]; omega)) kS_RL_166 hd_L_run rfl rfl ⟨(Nat.le_of_ble_eq_true rfl), (Nat.le_of_ble_eq_true rfl)⟩ hK hS hZ hPc hDc hF rfl hl.1 rfl (Nat.le_of_ble_eq_true rfl) dL_law_1518 ⟨(Nat.le_of_ble_eq_true rfl), (Nat.le_of_ble_eq_true rfl)⟩) (fun r3 u1 H locs w2 hP hD hS => ?_)
  subst w2
  have hP : va_P K.1 classes [(qm, zO 10 83 (zc71 u v)), (qo, zJ K 1 (fun _ => 0))] H := hP
  have hD : va_D A [(qm, zO 10 83 (zc71 u v)), (qo, zJ K 1 (fun _ => 0))] := hD
  refine lv_istore (lv' := [(5, .int 1), (4, .int 0), (3, .ref qo), (2, .ref qm), (1, .ref qx), (0, .ref b)]) hx hb dL_law_1521 hl (by decide) rfl (fun ls hl => ?_)
  refine lv_aload_n hx hb dL_law_1523 rfl (lv_at hl 3 rfl) ?_
  refine lv_aload_n hx hb dL_law_1524 rfl (lv_at hl 5 rfl) ?_
  refine lv_iload hx hb dL_law_1525 (lv_at hl 1 rfl) ?_
  refine lv_iconst (v := 1) hx hb dL_law_1527 (by decide) ?_
  refine lv_iadd hx hb dL_law_1528 ?_
  refine z_cst (v := 1) (by decide +kernel) ?_
  refine z_sld (v := (xs 1)) (j := 1) hx hb hX hbl hbA hS rfl (Nat.le_of_ble_eq_true rfl) rfl dL_law_1529 ?_
  refine lv_aload_n hx hb dL_law_1530 rfl (lv_at hl 5 rfl) ?_
  refine lv_iload hx hb dL_law_1531 (lv_at hl 1 rfl) ?_
  refine lv_iconst (v := 2) hx hb dL_law_1533 (by decide) ?_
  refine lv_iadd hx hb dL_law_1534 ?_
  refine z_cst (v := 2) (by decide +kernel) ?_
  refine z_sld (v := (xs 2)) (j := 2) hx hb hX hbl hbA hS rfl (Nat.le_of_ble_eq_true rfl) rfl dL_law_1535 ?_
  refine lv_aload_n hx hb dL_law_1536 rfl (lv_at hl 5 rfl) ?_
  refine lv_iload hx hb dL_law_1537 (lv_at hl 1 rfl) ?_
  refine lv_iconst (v := 3) hx hb dL_law_1539 (by decide) ?_
  refine lv_iadd hx hb dL_law_1540 ?_
  refine z_cst (v := 3) (by decide +kernel) ?_
  refine z_sld (v := (xs 3)) (j := 3) hx hb hX hbl hbA hS rfl (Nat.le_of_ble_eq_true rfl) rfl dL_law_1541 ?_
  refine lv_aload_n hx hb dL_law_1542 rfl (lv_at hl 5 rfl) ?_
  refine lv_iload hx hb dL_law_1543 (lv_at hl 1 rfl) ?_
  refine lv_iconst (v := 4) hx hb dL_law_1545 (by decide) ?_
  refine lv_iadd hx hb dL_law_1546 ?_
  refine z_cst (v := 4) (by decide +kernel) ?_
  refine z_sld (v := (xs 4)) (j := 4) hx hb hX hbl hbA hS rfl (Nat.le_of_ble_eq_true rfl) rfl dL_law_1547 ?_
  refine lv_aload_n hx hb dL_law_1548 rfl (lv_at hl 5 rfl) ?_
  refine lv_iload hx hb dL_law_1549 (lv_at hl 1 rfl) ?_
  refine lv_iconst (v := 5) hx hb dL_law_1551 (by decide) ?_
  refine lv_iadd hx hb dL_law_1552 ?_
  refine z_cst (v := 5) (by decide +kernel) ?_
  refine z_sld (v := (xs 5)) (j := 5) hx hb hX hbl hbA hS rfl (Nat.le_of_ble_eq_true rfl) rfl dL_law_1553 ?_
  refine lv_aload_n hx hb dL_law_1554 rfl (lv_at hl 5 rfl) ?_
  refine lv_iload hx hb dL_law_1555 (lv_at hl 1 rfl) ?_
  refine lv_bipush (v := 6) hx hb dL_law_1557 (by decide) ?_
  refine lv_iadd hx hb dL_law_1559 ?_
  refine z_cst (v := 6) (by decide +kernel) ?_
  refine z_sld (v := (xs 6)) (j := 6) hx hb hX hbl hbA hS rfl (Nat.le_of_ble_eq_true rfl) rfl dL_law_1560 ?_
  refine lv_if_eq (tgt := 1568) hx hb dL_law_1561 (by decide) (fun c => absurd c h0) (fun _ => ?_)
  refine lv_iconst (v := 1) hx hb dL_law_1564 (by decide) ?_
  refine lv_goto (tgt := 1569) hx hb dL_law_1565 (by decide) ?_
  refine z_calli [(qm, zO 10 83 (zc71 u v))] [(qo, zJ K 1 (fun _ => 0))] [0] [1] hP hD hS hA rfl rfl (by decide +kernel) (by decide +kernel) (by decide +kernel) 125 1863522 rfl rfl (fun hPc hDc hF => z_runV (As := [.int (xs 1), .int (xs 2), .int (xs 3), .int (xs 4), .int (xs 5), .int 1]) (rest := []) ⟨hx, hb, hml, hown, hg⟩ (cX12_run_24 l K H.size qm (zc71 u v) (xs 1) (xs 2) (xs 3) (xs 4) (xs 5) (by rw [Int32.lt_iff_toInt_lt, show (0 : Int32).toInt = 0 from by decide]; omega) (by rw [Int32.lt_iff_toInt_lt, show (0 : Int32).toInt = 0 from by decide]; omega)) kV_RL_169 hd_X12_run rfl rfl ⟨(Nat.le_of_ble_eq_true rfl), (Nat.le_of_ble_eq_true rfl)⟩ hK hS hZ hPc hDc hF 0 rfl rfl rfl hl.1 rfl (Nat.le_of_ble_eq_true rfl) dL_law_1569 ⟨(Nat.le_of_ble_eq_true rfl), (Nat.le_of_ble_eq_true rfl)⟩) (fun r6 u4 H locs w5 hP hD hS => ?_)
  subst w5
  have hP : va_P K.1 classes [(qo, zJ K 1 (fun _ => 0)), (qm, zO 10 83 (va_up (zc71 u v) 81 (.int 1)))] H := hP
  have hD : va_D A [(qo, zJ K 1 (fun _ => 0)), (qm, zO 10 83 (va_up (zc71 u v) 81 (.int 1)))] := hD
  refine lv_istore (lv' := [(6, .int 0), (5, .int 1), (4, .int 0), (3, .ref qo), (2, .ref qm), (1, .ref qx), (0, .ref b)]) hx hb dL_law_1572 hl (by decide) rfl (fun ls hl => ?_)
  refine lv_aload_n hx hb dL_law_1574 rfl (lv_at hl 4 rfl) ?_
  refine z_calli [(qm, zO 10 83 (va_up (zc71 u v) 81 (.int 1)))] [(qo, zJ K 1 (fun _ => 0))] [1] [0] hP hD hS hA rfl rfl (by decide +kernel) (by decide +kernel) (by decide +kernel) 125 1863522 rfl rfl (fun hPc hDc hF => z_runV (As := []) (rest := []) ⟨hx, hb, hml, hown, hg⟩ (cX12_thrown_2 l K H.size qm (va_up (zc71 u v) 81 (.int 1)) zu_eq) kV_RL_104 hd_X12_thrown rfl rfl ⟨(Nat.le_of_ble_eq_true rfl), (Nat.le_of_ble_eq_true rfl)⟩ hK hS hZ hPc hDc hF 0 rfl rfl rfl hl.1 rfl (Nat.le_of_ble_eq_true rfl) dL_law_1575 ⟨(Nat.le_of_ble_eq_true rfl), (Nat.le_of_ble_eq_true rfl)⟩) (fun r9 u7 H locs w8 hP hD hS => ?_)
  subst w8
  have hP : va_P K.1 classes [(qo, zJ K 1 (fun _ => 0)), (qm, zO 10 83 (va_up (zc71 u v) 81 (.int 1)))] H := hP
  have hD : va_D A [(qo, zJ K 1 (fun _ => 0)), (qm, zO 10 83 (va_up (zc71 u v) 81 (.int 1)))] := hD
  refine lv_iload hx hb dL_law_1578 (lv_at hl 1 rfl) ?_
  refine lv_icmp_eq (tgt := 1585) hx hb dL_law_1580 (by decide) (fun _ => ?_) (fun c => absurd (by decide) c)
  refine lv_iload hx hb dL_law_1585 (lv_at hl 1 rfl) ?_
  refine lv_if_ne (tgt := 1602) hx hb dL_law_1587 (by decide) (fun _ => ?_) (fun c => absurd c (by decide))
  refine lv_goto (tgt := 2026) hx hb dL_law_1602 (by decide) ?_
  exact law_back ⟨hx, hb, hr, hml, hown, hg, hX, hbl, hlocks, hK, hZ, hl9, hAA, hA, hbA⟩ (Nat.le_of_ble_eq_true rfl) (Nat.le_of_ble_eq_true rfl) hS (lv_sub hl [2, 6] rfl)
set_option maxHeartbeats 4000000 in
set_option maxRecDepth 100000 in
theorem lawS_19_24 {p : Program} {l : Launch} {e : Env} {s : State} {m : MethodId} {below : List Frame} {meth : Method} {c : Code} {b : Nat} {xs : Nat → Int32} {K : zK} {A : Nat → Prop} {H : Heap} {locs : List Loc} {ls : Array Slot} (C : zC p l s m meth c b xs K A) (qx qm qo : Nat) (u v : Nat → Nat) (h0 : ¬ xs 6 = 0) (h1 : (xs 5).toInt < 0) (h2 : 0 ≤ (xs 1).toInt) (h3 : (xs 1).toInt < 8) (h4 : (xs 2).toInt < 0) (hP : va_P K.1 classes (lwW K qx qm qo u v) H) (hD : va_D A (lwW K qx qm qo u v)) (hS : va_S A s.heap H locs) (hl : lv_has ls 7 [(4, .int 0), (3, .ref qo), (2, .ref qm), (1, .ref qx), (0, .ref b)]) : W p l e room_1 s m #[Value.ref b] below meth c H locs 124 1863516 (lw_Z below #[Value.ref b] s) (F0 m 1471 ls []) := by
  obtain ⟨hx, hb, hr, hml, hown, hg, hX, hbl, hlocks, hK, hZ, hl9, hAA, hA, hbA⟩ := C
  have hP : va_P K.1 classes [(qx, zO 9 9 (zc0 u v)), (qm, zO 10 83 (zc71 u v)), (qo, zJ K 1 (fun _ => 0))] H := hP.sub [0, 71, 123] rfl
  have hD : va_D A [(qx, zO 9 9 (zc0 u v)), (qm, zO 10 83 (zc71 u v)), (qo, zJ K 1 (fun _ => 0))] := hD.sub [0, 71, 123] (by decide +kernel) rfl
  obtain ⟨t1, ht1, v1⟩ : ∃ j : Nat, j < 8 ∧ xs 1 = nI j := z_nat (n := 8) (by omega) (by omega) (by decide)
  refine lv_aload_n hx hb dL_law_1471 rfl (lv_at hl 3 rfl) ?_
  refine lv_aload_n hx hb dL_law_1472 rfl (lv_at hl 4 rfl) ?_
  refine lv_iload hx hb dL_law_1473 (lv_at hl 0 rfl) ?_
  refine lv_iconst (v := 1) hx hb dL_law_1475 (by decide) ?_
  refine lv_iadd hx hb dL_law_1476 ?_
  refine z_cst (v := 1) (by decide +kernel) ?_
  refine z_sld (v := (nI t1)) (j := 1) hx hb hX hbl hbA hS rfl (Nat.le_of_ble_eq_true rfl) v1 dL_law_1477 ?_
  refine lv_aload_n hx hb dL_law_1478 rfl (lv_at hl 4 rfl) ?_
  refine lv_iload hx hb dL_law_1479 (lv_at hl 0 rfl) ?_
  refine lv_iconst (v := 2) hx hb dL_law_1481 (by decide) ?_
  refine lv_iadd hx hb dL_law_1482 ?_
  refine z_cst (v := 2) (by decide +kernel) ?_
  refine z_sld (v := (xs 2)) (j := 2) hx hb hX hbl hbA hS rfl (Nat.le_of_ble_eq_true rfl) rfl dL_law_1483 ?_
  refine lv_aload_n hx hb dL_law_1484 rfl (lv_at hl 4 rfl) ?_
  refine lv_iload hx hb dL_law_1485 (lv_at hl 0 rfl) ?_
  refine lv_iconst (v := 3) hx hb dL_law_1487 (by decide) ?_
  refine lv_iadd hx hb dL_law_1488 ?_
  refine z_cst (v := 3) (by decide +kernel) ?_
  refine z_sld (v := (xs 3)) (j := 3) hx hb hX hbl hbA hS rfl (Nat.le_of_ble_eq_true rfl) rfl dL_law_1489 ?_
  refine lv_aload_n hx hb dL_law_1490 rfl (lv_at hl 4 rfl) ?_
  refine lv_iload hx hb dL_law_1491 (lv_at hl 0 rfl) ?_
  refine lv_iconst (v := 4) hx hb dL_law_1493 (by decide) ?_
  refine lv_iadd hx hb dL_law_1494 ?_
  refine z_cst (v := 4) (by decide +kernel) ?_
  refine z_sld (v := (xs 4)) (j := 4) hx hb hX hbl hbA hS rfl (Nat.le_of_ble_eq_true rfl) rfl dL_law_1495 ?_
  refine lv_aload_n hx hb dL_law_1496 rfl (lv_at hl 4 rfl) ?_
  refine lv_iload hx hb dL_law_1497 (lv_at hl 0 rfl) ?_
  refine lv_iconst (v := 5) hx hb dL_law_1499 (by decide) ?_
  refine lv_iadd hx hb dL_law_1500 ?_
  refine z_cst (v := 5) (by decide +kernel) ?_
  refine z_sld (v := (xs 5)) (j := 5) hx hb hX hbl hbA hS rfl (Nat.le_of_ble_eq_true rfl) rfl dL_law_1501 ?_
  refine lv_aload_n hx hb dL_law_1502 rfl (lv_at hl 4 rfl) ?_
  refine lv_iload hx hb dL_law_1503 (lv_at hl 0 rfl) ?_
  refine lv_bipush (v := 6) hx hb dL_law_1505 (by decide) ?_
  refine lv_iadd hx hb dL_law_1507 ?_
  refine z_cst (v := 6) (by decide +kernel) ?_
  refine z_sld (v := (xs 6)) (j := 6) hx hb hX hbl hbA hS rfl (Nat.le_of_ble_eq_true rfl) rfl dL_law_1508 ?_
  refine lv_if_eq (tgt := 1516) hx hb dL_law_1509 (by decide) (fun c => absurd c h0) (fun _ => ?_)
  refine lv_iconst (v := 1) hx hb dL_law_1512 (by decide) ?_
  refine lv_goto (tgt := 1517) hx hb dL_law_1513 (by decide) ?_
  refine lv_aload_n hx hb dL_law_1517 rfl (lv_at hl 1 rfl) ?_
  refine z_hcalli [(qx, zO 9 9 (zc0 u v))] [(qm, zO 10 83 (zc71 u v)), (qo, zJ K 1 (fun _ => 0))] [0] [1, 2] hP hD hS hA rfl rfl (by decide +kernel) (by decide +kernel) (by decide +kernel) 125 1863522 rfl rfl (fun hPc hDc hF => z_xrunH (As := [.ref qx, .int (nI t1), .int (xs 2), .int (xs 3), .int (xs 4), .int (xs 5), .int 1, .ref qo]) (rest := []) ⟨hx, hb, hml, hown, hg⟩ (cL_run_23 l hl9 K H.size qx qo (zc0 u v) t1 ht1 (xs 2) (xs 3) (xs 4) (xs 5) (by rw [Int32.lt_iff_toInt_lt, show (0 : Int32).toInt = 0 from by decide]; omega)) kS_RL_166 hd_L_run rfl rfl ⟨(Nat.le_of_ble_eq_true rfl), (Nat.le_of_ble_eq_true rfl)⟩ hK hS hZ hPc hDc hF rfl hl.1 rfl (Nat.le_of_ble_eq_true rfl) dL_law_1518 ⟨(Nat.le_of_ble_eq_true rfl), (Nat.le_of_ble_eq_true rfl)⟩) (fun r3 u1 H locs w2 hP hD hS => ?_)
  subst w2
  have hP : va_P K.1 classes [(qm, zO 10 83 (zc71 u v)), (qo, zJ K 1 (fun _ => 0))] H := hP
  have hD : va_D A [(qm, zO 10 83 (zc71 u v)), (qo, zJ K 1 (fun _ => 0))] := hD
  refine lv_istore (lv' := [(5, .int 1), (4, .int 0), (3, .ref qo), (2, .ref qm), (1, .ref qx), (0, .ref b)]) hx hb dL_law_1521 hl (by decide) rfl (fun ls hl => ?_)
  refine lv_aload_n hx hb dL_law_1523 rfl (lv_at hl 3 rfl) ?_
  refine lv_aload_n hx hb dL_law_1524 rfl (lv_at hl 5 rfl) ?_
  refine lv_iload hx hb dL_law_1525 (lv_at hl 1 rfl) ?_
  refine lv_iconst (v := 1) hx hb dL_law_1527 (by decide) ?_
  refine lv_iadd hx hb dL_law_1528 ?_
  refine z_cst (v := 1) (by decide +kernel) ?_
  refine z_sld (v := (nI t1)) (j := 1) hx hb hX hbl hbA hS rfl (Nat.le_of_ble_eq_true rfl) v1 dL_law_1529 ?_
  refine lv_aload_n hx hb dL_law_1530 rfl (lv_at hl 5 rfl) ?_
  refine lv_iload hx hb dL_law_1531 (lv_at hl 1 rfl) ?_
  refine lv_iconst (v := 2) hx hb dL_law_1533 (by decide) ?_
  refine lv_iadd hx hb dL_law_1534 ?_
  refine z_cst (v := 2) (by decide +kernel) ?_
  refine z_sld (v := (xs 2)) (j := 2) hx hb hX hbl hbA hS rfl (Nat.le_of_ble_eq_true rfl) rfl dL_law_1535 ?_
  refine lv_aload_n hx hb dL_law_1536 rfl (lv_at hl 5 rfl) ?_
  refine lv_iload hx hb dL_law_1537 (lv_at hl 1 rfl) ?_
  refine lv_iconst (v := 3) hx hb dL_law_1539 (by decide) ?_
  refine lv_iadd hx hb dL_law_1540 ?_
  refine z_cst (v := 3) (by decide +kernel) ?_
  refine z_sld (v := (xs 3)) (j := 3) hx hb hX hbl hbA hS rfl (Nat.le_of_ble_eq_true rfl) rfl dL_law_1541 ?_
  refine lv_aload_n hx hb dL_law_1542 rfl (lv_at hl 5 rfl) ?_
  refine lv_iload hx hb dL_law_1543 (lv_at hl 1 rfl) ?_
  refine lv_iconst (v := 4) hx hb dL_law_1545 (by decide) ?_
  refine lv_iadd hx hb dL_law_1546 ?_
  refine z_cst (v := 4) (by decide +kernel) ?_
  refine z_sld (v := (xs 4)) (j := 4) hx hb hX hbl hbA hS rfl (Nat.le_of_ble_eq_true rfl) rfl dL_law_1547 ?_
  refine lv_aload_n hx hb dL_law_1548 rfl (lv_at hl 5 rfl) ?_
  refine lv_iload hx hb dL_law_1549 (lv_at hl 1 rfl) ?_
  refine lv_iconst (v := 5) hx hb dL_law_1551 (by decide) ?_
  refine lv_iadd hx hb dL_law_1552 ?_
  refine z_cst (v := 5) (by decide +kernel) ?_
  refine z_sld (v := (xs 5)) (j := 5) hx hb hX hbl hbA hS rfl (Nat.le_of_ble_eq_true rfl) rfl dL_law_1553 ?_
  refine lv_aload_n hx hb dL_law_1554 rfl (lv_at hl 5 rfl) ?_
  refine lv_iload hx hb dL_law_1555 (lv_at hl 1 rfl) ?_
  refine lv_bipush (v := 6) hx hb dL_law_1557 (by decide) ?_
  refine lv_iadd hx hb dL_law_1559 ?_
  refine z_cst (v := 6) (by decide +kernel) ?_
  refine z_sld (v := (xs 6)) (j := 6) hx hb hX hbl hbA hS rfl (Nat.le_of_ble_eq_true rfl) rfl dL_law_1560 ?_
  refine lv_if_eq (tgt := 1568) hx hb dL_law_1561 (by decide) (fun c => absurd c h0) (fun _ => ?_)
  refine lv_iconst (v := 1) hx hb dL_law_1564 (by decide) ?_
  refine lv_goto (tgt := 1569) hx hb dL_law_1565 (by decide) ?_
  refine z_calli [(qm, zO 10 83 (zc71 u v))] [(qo, zJ K 1 (fun _ => 0))] [0] [1] hP hD hS hA rfl rfl (by decide +kernel) (by decide +kernel) (by decide +kernel) 125 1863522 rfl rfl (fun hPc hDc hF => z_runV (As := [.int (nI t1), .int (xs 2), .int (xs 3), .int (xs 4), .int (xs 5), .int 1]) (rest := []) ⟨hx, hb, hml, hown, hg⟩ (cX12_run_25 l K H.size qm (zc71 u v) t1 ht1 (xs 2) (xs 3) (xs 4) (xs 5) (by rw [Int32.lt_iff_toInt_lt, show (0 : Int32).toInt = 0 from by decide]; omega) (by rw [Int32.lt_iff_toInt_lt, show (0 : Int32).toInt = 0 from by decide]; omega)) kV_RL_169 hd_X12_run rfl rfl ⟨(Nat.le_of_ble_eq_true rfl), (Nat.le_of_ble_eq_true rfl)⟩ hK hS hZ hPc hDc hF 0 rfl rfl rfl hl.1 rfl (Nat.le_of_ble_eq_true rfl) dL_law_1569 ⟨(Nat.le_of_ble_eq_true rfl), (Nat.le_of_ble_eq_true rfl)⟩) (fun r6 u4 H locs w5 hP hD hS => ?_)
  subst w5
  have hP : va_P K.1 classes [(qo, zJ K 1 (fun _ => 0)), (qm, zO 10 83 (va_up (zc71 u v) 81 (.int 1)))] H := hP
  have hD : va_D A [(qo, zJ K 1 (fun _ => 0)), (qm, zO 10 83 (va_up (zc71 u v) 81 (.int 1)))] := hD
  refine lv_istore (lv' := [(6, .int 0), (5, .int 1), (4, .int 0), (3, .ref qo), (2, .ref qm), (1, .ref qx), (0, .ref b)]) hx hb dL_law_1572 hl (by decide) rfl (fun ls hl => ?_)
  refine lv_aload_n hx hb dL_law_1574 rfl (lv_at hl 4 rfl) ?_
  refine z_calli [(qm, zO 10 83 (va_up (zc71 u v) 81 (.int 1)))] [(qo, zJ K 1 (fun _ => 0))] [1] [0] hP hD hS hA rfl rfl (by decide +kernel) (by decide +kernel) (by decide +kernel) 125 1863522 rfl rfl (fun hPc hDc hF => z_runV (As := []) (rest := []) ⟨hx, hb, hml, hown, hg⟩ (cX12_thrown_2 l K H.size qm (va_up (zc71 u v) 81 (.int 1)) zu_eq) kV_RL_104 hd_X12_thrown rfl rfl ⟨(Nat.le_of_ble_eq_true rfl), (Nat.le_of_ble_eq_true rfl)⟩ hK hS hZ hPc hDc hF 0 rfl rfl rfl hl.1 rfl (Nat.le_of_ble_eq_true rfl) dL_law_1575 ⟨(Nat.le_of_ble_eq_true rfl), (Nat.le_of_ble_eq_true rfl)⟩) (fun r9 u7 H locs w8 hP hD hS => ?_)
  subst w8
  have hP : va_P K.1 classes [(qo, zJ K 1 (fun _ => 0)), (qm, zO 10 83 (va_up (zc71 u v) 81 (.int 1)))] H := hP
  have hD : va_D A [(qo, zJ K 1 (fun _ => 0)), (qm, zO 10 83 (va_up (zc71 u v) 81 (.int 1)))] := hD
  refine lv_iload hx hb dL_law_1578 (lv_at hl 1 rfl) ?_
  refine lv_icmp_eq (tgt := 1585) hx hb dL_law_1580 (by decide) (fun _ => ?_) (fun c => absurd (by decide) c)
  refine lv_iload hx hb dL_law_1585 (lv_at hl 1 rfl) ?_
  refine lv_if_ne (tgt := 1602) hx hb dL_law_1587 (by decide) (fun _ => ?_) (fun c => absurd c (by decide))
  refine lv_goto (tgt := 2026) hx hb dL_law_1602 (by decide) ?_
  exact law_back ⟨hx, hb, hr, hml, hown, hg, hX, hbl, hlocks, hK, hZ, hl9, hAA, hA, hbA⟩ (Nat.le_of_ble_eq_true rfl) (Nat.le_of_ble_eq_true rfl) hS (lv_sub hl [2, 6] rfl)
set_option maxHeartbeats 4000000 in
set_option maxRecDepth 100000 in
theorem lawS_19_25 {p : Program} {l : Launch} {e : Env} {s : State} {m : MethodId} {below : List Frame} {meth : Method} {c : Code} {b : Nat} {xs : Nat → Int32} {K : zK} {A : Nat → Prop} {H : Heap} {locs : List Loc} {ls : Array Slot} (C : zC p l s m meth c b xs K A) (qx qm qo : Nat) (u v : Nat → Nat) (h0 : ¬ xs 6 = 0) (h1 : (xs 5).toInt < 0) (h2 : 0 ≤ (xs 1).toInt) (h3 : (xs 1).toInt < 8) (h4 : 0 ≤ (xs 2).toInt) (h5 : (xs 2).toInt < 3) (hP : va_P K.1 classes (lwW K qx qm qo u v) H) (hD : va_D A (lwW K qx qm qo u v)) (hS : va_S A s.heap H locs) (hl : lv_has ls 7 [(4, .int 0), (3, .ref qo), (2, .ref qm), (1, .ref qx), (0, .ref b)]) : W p l e room_1 s m #[Value.ref b] below meth c H locs 124 1863516 (lw_Z below #[Value.ref b] s) (F0 m 1471 ls []) := by
  obtain ⟨hx, hb, hr, hml, hown, hg, hX, hbl, hlocks, hK, hZ, hl9, hAA, hA, hbA⟩ := C
  have hP : va_P K.1 classes [(qx, zO 9 9 (zc0 u v)), (qm, zO 10 83 (zc71 u v)), (qo, zJ K 1 (fun _ => 0))] H := hP.sub [0, 71, 123] rfl
  have hD : va_D A [(qx, zO 9 9 (zc0 u v)), (qm, zO 10 83 (zc71 u v)), (qo, zJ K 1 (fun _ => 0))] := hD.sub [0, 71, 123] (by decide +kernel) rfl
  obtain ⟨t1, ht1, v1⟩ : ∃ j : Nat, j < 8 ∧ xs 1 = nI j := z_nat (n := 8) (by omega) (by omega) (by decide)
  obtain ⟨t2, ht2, v2⟩ : ∃ j : Nat, j < 3 ∧ xs 2 = nI j := z_nat (n := 3) (by omega) (by omega) (by decide)
  refine lv_aload_n hx hb dL_law_1471 rfl (lv_at hl 3 rfl) ?_
  refine lv_aload_n hx hb dL_law_1472 rfl (lv_at hl 4 rfl) ?_
  refine lv_iload hx hb dL_law_1473 (lv_at hl 0 rfl) ?_
  refine lv_iconst (v := 1) hx hb dL_law_1475 (by decide) ?_
  refine lv_iadd hx hb dL_law_1476 ?_
  refine z_cst (v := 1) (by decide +kernel) ?_
  refine z_sld (v := (nI t1)) (j := 1) hx hb hX hbl hbA hS rfl (Nat.le_of_ble_eq_true rfl) v1 dL_law_1477 ?_
  refine lv_aload_n hx hb dL_law_1478 rfl (lv_at hl 4 rfl) ?_
  refine lv_iload hx hb dL_law_1479 (lv_at hl 0 rfl) ?_
  refine lv_iconst (v := 2) hx hb dL_law_1481 (by decide) ?_
  refine lv_iadd hx hb dL_law_1482 ?_
  refine z_cst (v := 2) (by decide +kernel) ?_
  refine z_sld (v := (nI t2)) (j := 2) hx hb hX hbl hbA hS rfl (Nat.le_of_ble_eq_true rfl) v2 dL_law_1483 ?_
  refine lv_aload_n hx hb dL_law_1484 rfl (lv_at hl 4 rfl) ?_
  refine lv_iload hx hb dL_law_1485 (lv_at hl 0 rfl) ?_
  refine lv_iconst (v := 3) hx hb dL_law_1487 (by decide) ?_
  refine lv_iadd hx hb dL_law_1488 ?_
  refine z_cst (v := 3) (by decide +kernel) ?_
  refine z_sld (v := (xs 3)) (j := 3) hx hb hX hbl hbA hS rfl (Nat.le_of_ble_eq_true rfl) rfl dL_law_1489 ?_
  refine lv_aload_n hx hb dL_law_1490 rfl (lv_at hl 4 rfl) ?_
  refine lv_iload hx hb dL_law_1491 (lv_at hl 0 rfl) ?_
  refine lv_iconst (v := 4) hx hb dL_law_1493 (by decide) ?_
  refine lv_iadd hx hb dL_law_1494 ?_
  refine z_cst (v := 4) (by decide +kernel) ?_
  refine z_sld (v := (xs 4)) (j := 4) hx hb hX hbl hbA hS rfl (Nat.le_of_ble_eq_true rfl) rfl dL_law_1495 ?_
  refine lv_aload_n hx hb dL_law_1496 rfl (lv_at hl 4 rfl) ?_
  refine lv_iload hx hb dL_law_1497 (lv_at hl 0 rfl) ?_
  refine lv_iconst (v := 5) hx hb dL_law_1499 (by decide) ?_
  refine lv_iadd hx hb dL_law_1500 ?_
  refine z_cst (v := 5) (by decide +kernel) ?_
  refine z_sld (v := (xs 5)) (j := 5) hx hb hX hbl hbA hS rfl (Nat.le_of_ble_eq_true rfl) rfl dL_law_1501 ?_
  refine lv_aload_n hx hb dL_law_1502 rfl (lv_at hl 4 rfl) ?_
  refine lv_iload hx hb dL_law_1503 (lv_at hl 0 rfl) ?_
  refine lv_bipush (v := 6) hx hb dL_law_1505 (by decide) ?_
  refine lv_iadd hx hb dL_law_1507 ?_
  refine z_cst (v := 6) (by decide +kernel) ?_
  refine z_sld (v := (xs 6)) (j := 6) hx hb hX hbl hbA hS rfl (Nat.le_of_ble_eq_true rfl) rfl dL_law_1508 ?_
  refine lv_if_eq (tgt := 1516) hx hb dL_law_1509 (by decide) (fun c => absurd c h0) (fun _ => ?_)
  refine lv_iconst (v := 1) hx hb dL_law_1512 (by decide) ?_
  refine lv_goto (tgt := 1517) hx hb dL_law_1513 (by decide) ?_
  refine lv_aload_n hx hb dL_law_1517 rfl (lv_at hl 1 rfl) ?_
  refine z_hcalli [(qx, zO 9 9 (zc0 u v))] [(qm, zO 10 83 (zc71 u v)), (qo, zJ K 1 (fun _ => 0))] [0] [1, 2] hP hD hS hA rfl rfl (by decide +kernel) (by decide +kernel) (by decide +kernel) 125 1863522 rfl rfl (fun hPc hDc hF => z_xrunH (As := [.ref qx, .int (nI t1), .int (nI t2), .int (xs 3), .int (xs 4), .int (xs 5), .int 1, .ref qo]) (rest := []) ⟨hx, hb, hml, hown, hg⟩ (cL_run_24 l hl9 K H.size qx qo (zc0 u v) t1 ht1 t2 ht2 (xs 3) (xs 4) (xs 5) (by rw [Int32.lt_iff_toInt_lt, show (0 : Int32).toInt = 0 from by decide]; omega)) kS_RL_166 hd_L_run rfl rfl ⟨(Nat.le_of_ble_eq_true rfl), (Nat.le_of_ble_eq_true rfl)⟩ hK hS hZ hPc hDc hF rfl hl.1 rfl (Nat.le_of_ble_eq_true rfl) dL_law_1518 ⟨(Nat.le_of_ble_eq_true rfl), (Nat.le_of_ble_eq_true rfl)⟩) (fun r3 u1 H locs w2 hP hD hS => ?_)
  subst w2
  have hP : va_P K.1 classes [(qm, zO 10 83 (zc71 u v)), (qo, zJ K 1 (fun _ => 0))] H := hP
  have hD : va_D A [(qm, zO 10 83 (zc71 u v)), (qo, zJ K 1 (fun _ => 0))] := hD
  refine lv_istore (lv' := [(5, .int 1), (4, .int 0), (3, .ref qo), (2, .ref qm), (1, .ref qx), (0, .ref b)]) hx hb dL_law_1521 hl (by decide) rfl (fun ls hl => ?_)
  refine lv_aload_n hx hb dL_law_1523 rfl (lv_at hl 3 rfl) ?_
  refine lv_aload_n hx hb dL_law_1524 rfl (lv_at hl 5 rfl) ?_
  refine lv_iload hx hb dL_law_1525 (lv_at hl 1 rfl) ?_
  refine lv_iconst (v := 1) hx hb dL_law_1527 (by decide) ?_
  refine lv_iadd hx hb dL_law_1528 ?_
  refine z_cst (v := 1) (by decide +kernel) ?_
  refine z_sld (v := (nI t1)) (j := 1) hx hb hX hbl hbA hS rfl (Nat.le_of_ble_eq_true rfl) v1 dL_law_1529 ?_
  refine lv_aload_n hx hb dL_law_1530 rfl (lv_at hl 5 rfl) ?_
  refine lv_iload hx hb dL_law_1531 (lv_at hl 1 rfl) ?_
  refine lv_iconst (v := 2) hx hb dL_law_1533 (by decide) ?_
  refine lv_iadd hx hb dL_law_1534 ?_
  refine z_cst (v := 2) (by decide +kernel) ?_
  refine z_sld (v := (nI t2)) (j := 2) hx hb hX hbl hbA hS rfl (Nat.le_of_ble_eq_true rfl) v2 dL_law_1535 ?_
  refine lv_aload_n hx hb dL_law_1536 rfl (lv_at hl 5 rfl) ?_
  refine lv_iload hx hb dL_law_1537 (lv_at hl 1 rfl) ?_
  refine lv_iconst (v := 3) hx hb dL_law_1539 (by decide) ?_
  refine lv_iadd hx hb dL_law_1540 ?_
  refine z_cst (v := 3) (by decide +kernel) ?_
  refine z_sld (v := (xs 3)) (j := 3) hx hb hX hbl hbA hS rfl (Nat.le_of_ble_eq_true rfl) rfl dL_law_1541 ?_
  refine lv_aload_n hx hb dL_law_1542 rfl (lv_at hl 5 rfl) ?_
  refine lv_iload hx hb dL_law_1543 (lv_at hl 1 rfl) ?_
  refine lv_iconst (v := 4) hx hb dL_law_1545 (by decide) ?_
  refine lv_iadd hx hb dL_law_1546 ?_
  refine z_cst (v := 4) (by decide +kernel) ?_
  refine z_sld (v := (xs 4)) (j := 4) hx hb hX hbl hbA hS rfl (Nat.le_of_ble_eq_true rfl) rfl dL_law_1547 ?_
  refine lv_aload_n hx hb dL_law_1548 rfl (lv_at hl 5 rfl) ?_
  refine lv_iload hx hb dL_law_1549 (lv_at hl 1 rfl) ?_
  refine lv_iconst (v := 5) hx hb dL_law_1551 (by decide) ?_
  refine lv_iadd hx hb dL_law_1552 ?_
  refine z_cst (v := 5) (by decide +kernel) ?_
  refine z_sld (v := (xs 5)) (j := 5) hx hb hX hbl hbA hS rfl (Nat.le_of_ble_eq_true rfl) rfl dL_law_1553 ?_
  refine lv_aload_n hx hb dL_law_1554 rfl (lv_at hl 5 rfl) ?_
  refine lv_iload hx hb dL_law_1555 (lv_at hl 1 rfl) ?_
  refine lv_bipush (v := 6) hx hb dL_law_1557 (by decide) ?_
  refine lv_iadd hx hb dL_law_1559 ?_
  refine z_cst (v := 6) (by decide +kernel) ?_
  refine z_sld (v := (xs 6)) (j := 6) hx hb hX hbl hbA hS rfl (Nat.le_of_ble_eq_true rfl) rfl dL_law_1560 ?_
  refine lv_if_eq (tgt := 1568) hx hb dL_law_1561 (by decide) (fun c => absurd c h0) (fun _ => ?_)
  refine lv_iconst (v := 1) hx hb dL_law_1564 (by decide) ?_
  refine lv_goto (tgt := 1569) hx hb dL_law_1565 (by decide) ?_
  refine z_calli [(qm, zO 10 83 (zc71 u v))] [(qo, zJ K 1 (fun _ => 0))] [0] [1] hP hD hS hA rfl rfl (by decide +kernel) (by decide +kernel) (by decide +kernel) 125 1863522 rfl rfl (fun hPc hDc hF => z_runV (As := [.int (nI t1), .int (nI t2), .int (xs 3), .int (xs 4), .int (xs 5), .int 1]) (rest := []) ⟨hx, hb, hml, hown, hg⟩ (cX12_run_26 l K H.size qm (zc71 u v) t1 ht1 t2 ht2 (xs 3) (xs 4) (xs 5) (by rw [Int32.lt_iff_toInt_lt, show (0 : Int32).toInt = 0 from by decide]; omega)) kV_RL_169 hd_X12_run rfl rfl ⟨(Nat.le_of_ble_eq_true rfl), (Nat.le_of_ble_eq_true rfl)⟩ hK hS hZ hPc hDc hF 0 rfl rfl rfl hl.1 rfl (Nat.le_of_ble_eq_true rfl) dL_law_1569 ⟨(Nat.le_of_ble_eq_true rfl), (Nat.le_of_ble_eq_true rfl)⟩) (fun r6 u4 H locs w5 hP hD hS => ?_)
  subst w5
  have hP : va_P K.1 classes [(qo, zJ K 1 (fun _ => 0)), (qm, zO 10 83 (va_up (zc71 u v) 81 (.int 1)))] H := hP
  have hD : va_D A [(qo, zJ K 1 (fun _ => 0)), (qm, zO 10 83 (va_up (zc71 u v) 81 (.int 1)))] := hD
  refine lv_istore (lv' := [(6, .int 0), (5, .int 1), (4, .int 0), (3, .ref qo), (2, .ref qm), (1, .ref qx), (0, .ref b)]) hx hb dL_law_1572 hl (by decide) rfl (fun ls hl => ?_)
  refine lv_aload_n hx hb dL_law_1574 rfl (lv_at hl 4 rfl) ?_
  refine z_calli [(qm, zO 10 83 (va_up (zc71 u v) 81 (.int 1)))] [(qo, zJ K 1 (fun _ => 0))] [1] [0] hP hD hS hA rfl rfl (by decide +kernel) (by decide +kernel) (by decide +kernel) 125 1863522 rfl rfl (fun hPc hDc hF => z_runV (As := []) (rest := []) ⟨hx, hb, hml, hown, hg⟩ (cX12_thrown_2 l K H.size qm (va_up (zc71 u v) 81 (.int 1)) zu_eq) kV_RL_104 hd_X12_thrown rfl rfl ⟨(Nat.le_of_ble_eq_true rfl), (Nat.le_of_ble_eq_true rfl)⟩ hK hS hZ hPc hDc hF 0 rfl rfl rfl hl.1 rfl (Nat.le_of_ble_eq_true rfl) dL_law_1575 ⟨(Nat.le_of_ble_eq_true rfl), (Nat.le_of_ble_eq_true rfl)⟩) (fun r9 u7 H locs w8 hP hD hS => ?_)
  subst w8
  have hP : va_P K.1 classes [(qo, zJ K 1 (fun _ => 0)), (qm, zO 10 83 (va_up (zc71 u v) 81 (.int 1)))] H := hP
  have hD : va_D A [(qo, zJ K 1 (fun _ => 0)), (qm, zO 10 83 (va_up (zc71 u v) 81 (.int 1)))] := hD
  refine lv_iload hx hb dL_law_1578 (lv_at hl 1 rfl) ?_
  refine lv_icmp_eq (tgt := 1585) hx hb dL_law_1580 (by decide) (fun _ => ?_) (fun c => absurd (by decide) c)
  refine lv_iload hx hb dL_law_1585 (lv_at hl 1 rfl) ?_
  refine lv_if_ne (tgt := 1602) hx hb dL_law_1587 (by decide) (fun _ => ?_) (fun c => absurd c (by decide))
  refine lv_goto (tgt := 2026) hx hb dL_law_1602 (by decide) ?_
  exact law_back ⟨hx, hb, hr, hml, hown, hg, hX, hbl, hlocks, hK, hZ, hl9, hAA, hA, hbA⟩ (Nat.le_of_ble_eq_true rfl) (Nat.le_of_ble_eq_true rfl) hS (lv_sub hl [2, 6] rfl)
set_option maxHeartbeats 4000000 in
set_option maxRecDepth 100000 in
theorem lawS_19_26 {p : Program} {l : Launch} {e : Env} {s : State} {m : MethodId} {below : List Frame} {meth : Method} {c : Code} {b : Nat} {xs : Nat → Int32} {K : zK} {A : Nat → Prop} {H : Heap} {locs : List Loc} {ls : Array Slot} (C : zC p l s m meth c b xs K A) (qx qm qo : Nat) (u v : Nat → Nat) (h0 : ¬ xs 6 = 0) (h1 : (xs 5).toInt < 0) (h2 : 0 ≤ (xs 1).toInt) (h3 : (xs 1).toInt < 8) (h4 : 0 ≤ (xs 2).toInt) (h5 : 3 ≤ (xs 2).toInt) (hP : va_P K.1 classes (lwW K qx qm qo u v) H) (hD : va_D A (lwW K qx qm qo u v)) (hS : va_S A s.heap H locs) (hl : lv_has ls 7 [(4, .int 0), (3, .ref qo), (2, .ref qm), (1, .ref qx), (0, .ref b)]) : W p l e room_1 s m #[Value.ref b] below meth c H locs 124 1863516 (lw_Z below #[Value.ref b] s) (F0 m 1471 ls []) := by
  obtain ⟨hx, hb, hr, hml, hown, hg, hX, hbl, hlocks, hK, hZ, hl9, hAA, hA, hbA⟩ := C
  have hP : va_P K.1 classes [(qx, zO 9 9 (zc0 u v)), (qm, zO 10 83 (zc71 u v)), (qo, zJ K 1 (fun _ => 0))] H := hP.sub [0, 71, 123] rfl
  have hD : va_D A [(qx, zO 9 9 (zc0 u v)), (qm, zO 10 83 (zc71 u v)), (qo, zJ K 1 (fun _ => 0))] := hD.sub [0, 71, 123] (by decide +kernel) rfl
  obtain ⟨t1, ht1, v1⟩ : ∃ j : Nat, j < 8 ∧ xs 1 = nI j := z_nat (n := 8) (by omega) (by omega) (by decide)
  refine lv_aload_n hx hb dL_law_1471 rfl (lv_at hl 3 rfl) ?_
  refine lv_aload_n hx hb dL_law_1472 rfl (lv_at hl 4 rfl) ?_
  refine lv_iload hx hb dL_law_1473 (lv_at hl 0 rfl) ?_
  refine lv_iconst (v := 1) hx hb dL_law_1475 (by decide) ?_
  refine lv_iadd hx hb dL_law_1476 ?_
  refine z_cst (v := 1) (by decide +kernel) ?_
  refine z_sld (v := (nI t1)) (j := 1) hx hb hX hbl hbA hS rfl (Nat.le_of_ble_eq_true rfl) v1 dL_law_1477 ?_
  refine lv_aload_n hx hb dL_law_1478 rfl (lv_at hl 4 rfl) ?_
  refine lv_iload hx hb dL_law_1479 (lv_at hl 0 rfl) ?_
  refine lv_iconst (v := 2) hx hb dL_law_1481 (by decide) ?_
  refine lv_iadd hx hb dL_law_1482 ?_
  refine z_cst (v := 2) (by decide +kernel) ?_
  refine z_sld (v := (xs 2)) (j := 2) hx hb hX hbl hbA hS rfl (Nat.le_of_ble_eq_true rfl) rfl dL_law_1483 ?_
  refine lv_aload_n hx hb dL_law_1484 rfl (lv_at hl 4 rfl) ?_
  refine lv_iload hx hb dL_law_1485 (lv_at hl 0 rfl) ?_
  refine lv_iconst (v := 3) hx hb dL_law_1487 (by decide) ?_
  refine lv_iadd hx hb dL_law_1488 ?_
  refine z_cst (v := 3) (by decide +kernel) ?_
  refine z_sld (v := (xs 3)) (j := 3) hx hb hX hbl hbA hS rfl (Nat.le_of_ble_eq_true rfl) rfl dL_law_1489 ?_
  refine lv_aload_n hx hb dL_law_1490 rfl (lv_at hl 4 rfl) ?_
  refine lv_iload hx hb dL_law_1491 (lv_at hl 0 rfl) ?_
  refine lv_iconst (v := 4) hx hb dL_law_1493 (by decide) ?_
  refine lv_iadd hx hb dL_law_1494 ?_
  refine z_cst (v := 4) (by decide +kernel) ?_
  refine z_sld (v := (xs 4)) (j := 4) hx hb hX hbl hbA hS rfl (Nat.le_of_ble_eq_true rfl) rfl dL_law_1495 ?_
  refine lv_aload_n hx hb dL_law_1496 rfl (lv_at hl 4 rfl) ?_
  refine lv_iload hx hb dL_law_1497 (lv_at hl 0 rfl) ?_
  refine lv_iconst (v := 5) hx hb dL_law_1499 (by decide) ?_
  refine lv_iadd hx hb dL_law_1500 ?_
  refine z_cst (v := 5) (by decide +kernel) ?_
  refine z_sld (v := (xs 5)) (j := 5) hx hb hX hbl hbA hS rfl (Nat.le_of_ble_eq_true rfl) rfl dL_law_1501 ?_
  refine lv_aload_n hx hb dL_law_1502 rfl (lv_at hl 4 rfl) ?_
  refine lv_iload hx hb dL_law_1503 (lv_at hl 0 rfl) ?_
  refine lv_bipush (v := 6) hx hb dL_law_1505 (by decide) ?_
  refine lv_iadd hx hb dL_law_1507 ?_
  refine z_cst (v := 6) (by decide +kernel) ?_
  refine z_sld (v := (xs 6)) (j := 6) hx hb hX hbl hbA hS rfl (Nat.le_of_ble_eq_true rfl) rfl dL_law_1508 ?_
  refine lv_if_eq (tgt := 1516) hx hb dL_law_1509 (by decide) (fun c => absurd c h0) (fun _ => ?_)
  refine lv_iconst (v := 1) hx hb dL_law_1512 (by decide) ?_
  refine lv_goto (tgt := 1517) hx hb dL_law_1513 (by decide) ?_
  refine lv_aload_n hx hb dL_law_1517 rfl (lv_at hl 1 rfl) ?_
  refine z_hcalli [(qx, zO 9 9 (zc0 u v))] [(qm, zO 10 83 (zc71 u v)), (qo, zJ K 1 (fun _ => 0))] [0] [1, 2] hP hD hS hA rfl rfl (by decide +kernel) (by decide +kernel) (by decide +kernel) 125 1863522 rfl rfl (fun hPc hDc hF => z_xrunH (As := [.ref qx, .int (nI t1), .int (xs 2), .int (xs 3), .int (xs 4), .int (xs 5), .int 1, .ref qo]) (rest := []) ⟨hx, hb, hml, hown, hg⟩ (cL_run_23 l hl9 K H.size qx qo (zc0 u v) t1 ht1 (xs 2) (xs 3) (xs 4) (xs 5) (by rw [Int32.lt_iff_toInt_lt, show (0 : Int32).toInt = 0 from by decide]; omega)) kS_RL_166 hd_L_run rfl rfl ⟨(Nat.le_of_ble_eq_true rfl), (Nat.le_of_ble_eq_true rfl)⟩ hK hS hZ hPc hDc hF rfl hl.1 rfl (Nat.le_of_ble_eq_true rfl) dL_law_1518 ⟨(Nat.le_of_ble_eq_true rfl), (Nat.le_of_ble_eq_true rfl)⟩) (fun r3 u1 H locs w2 hP hD hS => ?_)
  subst w2
  have hP : va_P K.1 classes [(qm, zO 10 83 (zc71 u v)), (qo, zJ K 1 (fun _ => 0))] H := hP
  have hD : va_D A [(qm, zO 10 83 (zc71 u v)), (qo, zJ K 1 (fun _ => 0))] := hD
  refine lv_istore (lv' := [(5, .int 1), (4, .int 0), (3, .ref qo), (2, .ref qm), (1, .ref qx), (0, .ref b)]) hx hb dL_law_1521 hl (by decide) rfl (fun ls hl => ?_)
  refine lv_aload_n hx hb dL_law_1523 rfl (lv_at hl 3 rfl) ?_
  refine lv_aload_n hx hb dL_law_1524 rfl (lv_at hl 5 rfl) ?_
  refine lv_iload hx hb dL_law_1525 (lv_at hl 1 rfl) ?_
  refine lv_iconst (v := 1) hx hb dL_law_1527 (by decide) ?_
  refine lv_iadd hx hb dL_law_1528 ?_
  refine z_cst (v := 1) (by decide +kernel) ?_
  refine z_sld (v := (nI t1)) (j := 1) hx hb hX hbl hbA hS rfl (Nat.le_of_ble_eq_true rfl) v1 dL_law_1529 ?_
  refine lv_aload_n hx hb dL_law_1530 rfl (lv_at hl 5 rfl) ?_
  refine lv_iload hx hb dL_law_1531 (lv_at hl 1 rfl) ?_
  refine lv_iconst (v := 2) hx hb dL_law_1533 (by decide) ?_
  refine lv_iadd hx hb dL_law_1534 ?_
  refine z_cst (v := 2) (by decide +kernel) ?_
  refine z_sld (v := (xs 2)) (j := 2) hx hb hX hbl hbA hS rfl (Nat.le_of_ble_eq_true rfl) rfl dL_law_1535 ?_
  refine lv_aload_n hx hb dL_law_1536 rfl (lv_at hl 5 rfl) ?_
  refine lv_iload hx hb dL_law_1537 (lv_at hl 1 rfl) ?_
  refine lv_iconst (v := 3) hx hb dL_law_1539 (by decide) ?_
  refine lv_iadd hx hb dL_law_1540 ?_
  refine z_cst (v := 3) (by decide +kernel) ?_
  refine z_sld (v := (xs 3)) (j := 3) hx hb hX hbl hbA hS rfl (Nat.le_of_ble_eq_true rfl) rfl dL_law_1541 ?_
  refine lv_aload_n hx hb dL_law_1542 rfl (lv_at hl 5 rfl) ?_
  refine lv_iload hx hb dL_law_1543 (lv_at hl 1 rfl) ?_
  refine lv_iconst (v := 4) hx hb dL_law_1545 (by decide) ?_
  refine lv_iadd hx hb dL_law_1546 ?_
  refine z_cst (v := 4) (by decide +kernel) ?_
  refine z_sld (v := (xs 4)) (j := 4) hx hb hX hbl hbA hS rfl (Nat.le_of_ble_eq_true rfl) rfl dL_law_1547 ?_
  refine lv_aload_n hx hb dL_law_1548 rfl (lv_at hl 5 rfl) ?_
  refine lv_iload hx hb dL_law_1549 (lv_at hl 1 rfl) ?_
  refine lv_iconst (v := 5) hx hb dL_law_1551 (by decide) ?_
  refine lv_iadd hx hb dL_law_1552 ?_
  refine z_cst (v := 5) (by decide +kernel) ?_
  refine z_sld (v := (xs 5)) (j := 5) hx hb hX hbl hbA hS rfl (Nat.le_of_ble_eq_true rfl) rfl dL_law_1553 ?_
  refine lv_aload_n hx hb dL_law_1554 rfl (lv_at hl 5 rfl) ?_
  refine lv_iload hx hb dL_law_1555 (lv_at hl 1 rfl) ?_
  refine lv_bipush (v := 6) hx hb dL_law_1557 (by decide) ?_
  refine lv_iadd hx hb dL_law_1559 ?_
  refine z_cst (v := 6) (by decide +kernel) ?_
  refine z_sld (v := (xs 6)) (j := 6) hx hb hX hbl hbA hS rfl (Nat.le_of_ble_eq_true rfl) rfl dL_law_1560 ?_
  refine lv_if_eq (tgt := 1568) hx hb dL_law_1561 (by decide) (fun c => absurd c h0) (fun _ => ?_)
  refine lv_iconst (v := 1) hx hb dL_law_1564 (by decide) ?_
  refine lv_goto (tgt := 1569) hx hb dL_law_1565 (by decide) ?_
  refine z_calli [(qm, zO 10 83 (zc71 u v))] [(qo, zJ K 1 (fun _ => 0))] [0] [1] hP hD hS hA rfl rfl (by decide +kernel) (by decide +kernel) (by decide +kernel) 125 1863522 rfl rfl (fun hPc hDc hF => z_runV (As := [.int (nI t1), .int (xs 2), .int (xs 3), .int (xs 4), .int (xs 5), .int 1]) (rest := []) ⟨hx, hb, hml, hown, hg⟩ (cX12_run_27 l K H.size qm (zc71 u v) t1 ht1 (xs 2) (xs 3) (xs 4) (xs 5) (by rw [Int32.lt_iff_toInt_lt, show (0 : Int32).toInt = 0 from by decide]; omega) (by rw [Int32.lt_iff_toInt_lt, show (0 : Int32).toInt = 0 from by decide]; omega) (by rw [Int32.lt_iff_toInt_lt, show (2 : Int32).toInt = 2 from by decide]; omega)) kV_RL_169 hd_X12_run rfl rfl ⟨(Nat.le_of_ble_eq_true rfl), (Nat.le_of_ble_eq_true rfl)⟩ hK hS hZ hPc hDc hF 0 rfl rfl rfl hl.1 rfl (Nat.le_of_ble_eq_true rfl) dL_law_1569 ⟨(Nat.le_of_ble_eq_true rfl), (Nat.le_of_ble_eq_true rfl)⟩) (fun r6 u4 H locs w5 hP hD hS => ?_)
  subst w5
  have hP : va_P K.1 classes [(qo, zJ K 1 (fun _ => 0)), (qm, zO 10 83 (va_up (zc71 u v) 81 (.int 1)))] H := hP
  have hD : va_D A [(qo, zJ K 1 (fun _ => 0)), (qm, zO 10 83 (va_up (zc71 u v) 81 (.int 1)))] := hD
  refine lv_istore (lv' := [(6, .int 0), (5, .int 1), (4, .int 0), (3, .ref qo), (2, .ref qm), (1, .ref qx), (0, .ref b)]) hx hb dL_law_1572 hl (by decide) rfl (fun ls hl => ?_)
  refine lv_aload_n hx hb dL_law_1574 rfl (lv_at hl 4 rfl) ?_
  refine z_calli [(qm, zO 10 83 (va_up (zc71 u v) 81 (.int 1)))] [(qo, zJ K 1 (fun _ => 0))] [1] [0] hP hD hS hA rfl rfl (by decide +kernel) (by decide +kernel) (by decide +kernel) 125 1863522 rfl rfl (fun hPc hDc hF => z_runV (As := []) (rest := []) ⟨hx, hb, hml, hown, hg⟩ (cX12_thrown_2 l K H.size qm (va_up (zc71 u v) 81 (.int 1)) zu_eq) kV_RL_104 hd_X12_thrown rfl rfl ⟨(Nat.le_of_ble_eq_true rfl), (Nat.le_of_ble_eq_true rfl)⟩ hK hS hZ hPc hDc hF 0 rfl rfl rfl hl.1 rfl (Nat.le_of_ble_eq_true rfl) dL_law_1575 ⟨(Nat.le_of_ble_eq_true rfl), (Nat.le_of_ble_eq_true rfl)⟩) (fun r9 u7 H locs w8 hP hD hS => ?_)
  subst w8
  have hP : va_P K.1 classes [(qo, zJ K 1 (fun _ => 0)), (qm, zO 10 83 (va_up (zc71 u v) 81 (.int 1)))] H := hP
  have hD : va_D A [(qo, zJ K 1 (fun _ => 0)), (qm, zO 10 83 (va_up (zc71 u v) 81 (.int 1)))] := hD
  refine lv_iload hx hb dL_law_1578 (lv_at hl 1 rfl) ?_
  refine lv_icmp_eq (tgt := 1585) hx hb dL_law_1580 (by decide) (fun _ => ?_) (fun c => absurd (by decide) c)
  refine lv_iload hx hb dL_law_1585 (lv_at hl 1 rfl) ?_
  refine lv_if_ne (tgt := 1602) hx hb dL_law_1587 (by decide) (fun _ => ?_) (fun c => absurd c (by decide))
  refine lv_goto (tgt := 2026) hx hb dL_law_1602 (by decide) ?_
  exact law_back ⟨hx, hb, hr, hml, hown, hg, hX, hbl, hlocks, hK, hZ, hl9, hAA, hA, hbA⟩ (Nat.le_of_ble_eq_true rfl) (Nat.le_of_ble_eq_true rfl) hS (lv_sub hl [2, 6] rfl)
set_option maxHeartbeats 4000000 in
set_option maxRecDepth 100000 in
theorem lawS_19_27 {p : Program} {l : Launch} {e : Env} {s : State} {m : MethodId} {below : List Frame} {meth : Method} {c : Code} {b : Nat} {xs : Nat → Int32} {K : zK} {A : Nat → Prop} {H : Heap} {locs : List Loc} {ls : Array Slot} (C : zC p l s m meth c b xs K A) (qx qm qo : Nat) (u v : Nat → Nat) (h0 : ¬ xs 6 = 0) (h1 : (xs 5).toInt < 0) (h2 : 0 ≤ (xs 1).toInt) (h3 : 8 ≤ (xs 1).toInt) (hP : va_P K.1 classes (lwW K qx qm qo u v) H) (hD : va_D A (lwW K qx qm qo u v)) (hS : va_S A s.heap H locs) (hl : lv_has ls 7 [(4, .int 0), (3, .ref qo), (2, .ref qm), (1, .ref qx), (0, .ref b)]) : W p l e room_1 s m #[Value.ref b] below meth c H locs 124 1863516 (lw_Z below #[Value.ref b] s) (F0 m 1471 ls []) := by
  obtain ⟨hx, hb, hr, hml, hown, hg, hX, hbl, hlocks, hK, hZ, hl9, hAA, hA, hbA⟩ := C
  have hP : va_P K.1 classes [(qx, zO 9 9 (zc0 u v)), (qm, zO 10 83 (zc71 u v)), (qo, zJ K 1 (fun _ => 0))] H := hP.sub [0, 71, 123] rfl
  have hD : va_D A [(qx, zO 9 9 (zc0 u v)), (qm, zO 10 83 (zc71 u v)), (qo, zJ K 1 (fun _ => 0))] := hD.sub [0, 71, 123] (by decide +kernel) rfl
  refine lv_aload_n hx hb dL_law_1471 rfl (lv_at hl 3 rfl) ?_
  refine lv_aload_n hx hb dL_law_1472 rfl (lv_at hl 4 rfl) ?_
  refine lv_iload hx hb dL_law_1473 (lv_at hl 0 rfl) ?_
  refine lv_iconst (v := 1) hx hb dL_law_1475 (by decide) ?_
  refine lv_iadd hx hb dL_law_1476 ?_
  refine z_cst (v := 1) (by decide +kernel) ?_
  refine z_sld (v := (xs 1)) (j := 1) hx hb hX hbl hbA hS rfl (Nat.le_of_ble_eq_true rfl) rfl dL_law_1477 ?_
  refine lv_aload_n hx hb dL_law_1478 rfl (lv_at hl 4 rfl) ?_
  refine lv_iload hx hb dL_law_1479 (lv_at hl 0 rfl) ?_
  refine lv_iconst (v := 2) hx hb dL_law_1481 (by decide) ?_
  refine lv_iadd hx hb dL_law_1482 ?_
  refine z_cst (v := 2) (by decide +kernel) ?_
  refine z_sld (v := (xs 2)) (j := 2) hx hb hX hbl hbA hS rfl (Nat.le_of_ble_eq_true rfl) rfl dL_law_1483 ?_
  refine lv_aload_n hx hb dL_law_1484 rfl (lv_at hl 4 rfl) ?_
  refine lv_iload hx hb dL_law_1485 (lv_at hl 0 rfl) ?_
  refine lv_iconst (v := 3) hx hb dL_law_1487 (by decide) ?_
  refine lv_iadd hx hb dL_law_1488 ?_
  refine z_cst (v := 3) (by decide +kernel) ?_
  refine z_sld (v := (xs 3)) (j := 3) hx hb hX hbl hbA hS rfl (Nat.le_of_ble_eq_true rfl) rfl dL_law_1489 ?_
  refine lv_aload_n hx hb dL_law_1490 rfl (lv_at hl 4 rfl) ?_
  refine lv_iload hx hb dL_law_1491 (lv_at hl 0 rfl) ?_
  refine lv_iconst (v := 4) hx hb dL_law_1493 (by decide) ?_
  refine lv_iadd hx hb dL_law_1494 ?_
  refine z_cst (v := 4) (by decide +kernel) ?_
  refine z_sld (v := (xs 4)) (j := 4) hx hb hX hbl hbA hS rfl (Nat.le_of_ble_eq_true rfl) rfl dL_law_1495 ?_
  refine lv_aload_n hx hb dL_law_1496 rfl (lv_at hl 4 rfl) ?_
  refine lv_iload hx hb dL_law_1497 (lv_at hl 0 rfl) ?_
  refine lv_iconst (v := 5) hx hb dL_law_1499 (by decide) ?_
  refine lv_iadd hx hb dL_law_1500 ?_
  refine z_cst (v := 5) (by decide +kernel) ?_
  refine z_sld (v := (xs 5)) (j := 5) hx hb hX hbl hbA hS rfl (Nat.le_of_ble_eq_true rfl) rfl dL_law_1501 ?_
  refine lv_aload_n hx hb dL_law_1502 rfl (lv_at hl 4 rfl) ?_
  refine lv_iload hx hb dL_law_1503 (lv_at hl 0 rfl) ?_
  refine lv_bipush (v := 6) hx hb dL_law_1505 (by decide) ?_
  refine lv_iadd hx hb dL_law_1507 ?_
  refine z_cst (v := 6) (by decide +kernel) ?_
  refine z_sld (v := (xs 6)) (j := 6) hx hb hX hbl hbA hS rfl (Nat.le_of_ble_eq_true rfl) rfl dL_law_1508 ?_
  refine lv_if_eq (tgt := 1516) hx hb dL_law_1509 (by decide) (fun c => absurd c h0) (fun _ => ?_)
  refine lv_iconst (v := 1) hx hb dL_law_1512 (by decide) ?_
  refine lv_goto (tgt := 1517) hx hb dL_law_1513 (by decide) ?_
  refine lv_aload_n hx hb dL_law_1517 rfl (lv_at hl 1 rfl) ?_
  refine z_hcalli [(qx, zO 9 9 (zc0 u v))] [(qm, zO 10 83 (zc71 u v)), (qo, zJ K 1 (fun _ => 0))] [0] [1, 2] hP hD hS hA rfl rfl (by decide +kernel) (by decide +kernel) (by decide +kernel) 125 1863522 rfl rfl (fun hPc hDc hF => z_xrunH (As := [.ref qx, .int (xs 1), .int (xs 2), .int (xs 3), .int (xs 4), .int (xs 5), .int 1, .ref qo]) (rest := []) ⟨hx, hb, hml, hown, hg⟩ (cL_run_22 l hl9 K H.size qx qo (zc0 u v) (xs 1) (xs 2) (xs 3) (xs 4) (xs 5) (by rw [Int32.lt_iff_toInt_lt, show (0 : Int32).toInt = 0 from by decide]; omega)) kS_RL_166 hd_L_run rfl rfl ⟨(Nat.le_of_ble_eq_true rfl), (Nat.le_of_ble_eq_true rfl)⟩ hK hS hZ hPc hDc hF rfl hl.1 rfl (Nat.le_of_ble_eq_true rfl) dL_law_1518 ⟨(Nat.le_of_ble_eq_true rfl), (Nat.le_of_ble_eq_true rfl)⟩) (fun r3 u1 H locs w2 hP hD hS => ?_)
  subst w2
  have hP : va_P K.1 classes [(qm, zO 10 83 (zc71 u v)), (qo, zJ K 1 (fun _ => 0))] H := hP
  have hD : va_D A [(qm, zO 10 83 (zc71 u v)), (qo, zJ K 1 (fun _ => 0))] := hD
  refine lv_istore (lv' := [(5, .int 1), (4, .int 0), (3, .ref qo), (2, .ref qm), (1, .ref qx), (0, .ref b)]) hx hb dL_law_1521 hl (by decide) rfl (fun ls hl => ?_)
  refine lv_aload_n hx hb dL_law_1523 rfl (lv_at hl 3 rfl) ?_
  refine lv_aload_n hx hb dL_law_1524 rfl (lv_at hl 5 rfl) ?_
  refine lv_iload hx hb dL_law_1525 (lv_at hl 1 rfl) ?_
  refine lv_iconst (v := 1) hx hb dL_law_1527 (by decide) ?_
  refine lv_iadd hx hb dL_law_1528 ?_
  refine z_cst (v := 1) (by decide +kernel) ?_
  refine z_sld (v := (xs 1)) (j := 1) hx hb hX hbl hbA hS rfl (Nat.le_of_ble_eq_true rfl) rfl dL_law_1529 ?_
  refine lv_aload_n hx hb dL_law_1530 rfl (lv_at hl 5 rfl) ?_
  refine lv_iload hx hb dL_law_1531 (lv_at hl 1 rfl) ?_
  refine lv_iconst (v := 2) hx hb dL_law_1533 (by decide) ?_
  refine lv_iadd hx hb dL_law_1534 ?_
  refine z_cst (v := 2) (by decide +kernel) ?_
  refine z_sld (v := (xs 2)) (j := 2) hx hb hX hbl hbA hS rfl (Nat.le_of_ble_eq_true rfl) rfl dL_law_1535 ?_
  refine lv_aload_n hx hb dL_law_1536 rfl (lv_at hl 5 rfl) ?_
  refine lv_iload hx hb dL_law_1537 (lv_at hl 1 rfl) ?_
  refine lv_iconst (v := 3) hx hb dL_law_1539 (by decide) ?_
  refine lv_iadd hx hb dL_law_1540 ?_
  refine z_cst (v := 3) (by decide +kernel) ?_
  refine z_sld (v := (xs 3)) (j := 3) hx hb hX hbl hbA hS rfl (Nat.le_of_ble_eq_true rfl) rfl dL_law_1541 ?_
  refine lv_aload_n hx hb dL_law_1542 rfl (lv_at hl 5 rfl) ?_
  refine lv_iload hx hb dL_law_1543 (lv_at hl 1 rfl) ?_
  refine lv_iconst (v := 4) hx hb dL_law_1545 (by decide) ?_
  refine lv_iadd hx hb dL_law_1546 ?_
  refine z_cst (v := 4) (by decide +kernel) ?_
  refine z_sld (v := (xs 4)) (j := 4) hx hb hX hbl hbA hS rfl (Nat.le_of_ble_eq_true rfl) rfl dL_law_1547 ?_
  refine lv_aload_n hx hb dL_law_1548 rfl (lv_at hl 5 rfl) ?_
  refine lv_iload hx hb dL_law_1549 (lv_at hl 1 rfl) ?_
  refine lv_iconst (v := 5) hx hb dL_law_1551 (by decide) ?_
  refine lv_iadd hx hb dL_law_1552 ?_
  refine z_cst (v := 5) (by decide +kernel) ?_
  refine z_sld (v := (xs 5)) (j := 5) hx hb hX hbl hbA hS rfl (Nat.le_of_ble_eq_true rfl) rfl dL_law_1553 ?_
  refine lv_aload_n hx hb dL_law_1554 rfl (lv_at hl 5 rfl) ?_
  refine lv_iload hx hb dL_law_1555 (lv_at hl 1 rfl) ?_
  refine lv_bipush (v := 6) hx hb dL_law_1557 (by decide) ?_
  refine lv_iadd hx hb dL_law_1559 ?_
  refine z_cst (v := 6) (by decide +kernel) ?_
  refine z_sld (v := (xs 6)) (j := 6) hx hb hX hbl hbA hS rfl (Nat.le_of_ble_eq_true rfl) rfl dL_law_1560 ?_
  refine lv_if_eq (tgt := 1568) hx hb dL_law_1561 (by decide) (fun c => absurd c h0) (fun _ => ?_)
  refine lv_iconst (v := 1) hx hb dL_law_1564 (by decide) ?_
  refine lv_goto (tgt := 1569) hx hb dL_law_1565 (by decide) ?_
  refine z_calli [(qm, zO 10 83 (zc71 u v))] [(qo, zJ K 1 (fun _ => 0))] [0] [1] hP hD hS hA rfl rfl (by decide +kernel) (by decide +kernel) (by decide +kernel) 125 1863522 rfl rfl (fun hPc hDc hF => z_runV (As := [.int (xs 1), .int (xs 2), .int (xs 3), .int (xs 4), .int (xs 5), .int 1]) (rest := []) ⟨hx, hb, hml, hown, hg⟩ (cX12_run_28 l K H.size qm (zc71 u v) (xs 1) (xs 2) (xs 3) (xs 4) (xs 5) (by rw [Int32.lt_iff_toInt_lt, show (0 : Int32).toInt = 0 from by decide]; omega) (by rw [Int32.lt_iff_toInt_lt, show (0 : Int32).toInt = 0 from by decide]; omega) (by rw [Int32.lt_iff_toInt_lt, show (7 : Int32).toInt = 7 from by decide]; omega)) kV_RL_169 hd_X12_run rfl rfl ⟨(Nat.le_of_ble_eq_true rfl), (Nat.le_of_ble_eq_true rfl)⟩ hK hS hZ hPc hDc hF 0 rfl rfl rfl hl.1 rfl (Nat.le_of_ble_eq_true rfl) dL_law_1569 ⟨(Nat.le_of_ble_eq_true rfl), (Nat.le_of_ble_eq_true rfl)⟩) (fun r6 u4 H locs w5 hP hD hS => ?_)
  subst w5
  have hP : va_P K.1 classes [(qo, zJ K 1 (fun _ => 0)), (qm, zO 10 83 (va_up (zc71 u v) 81 (.int 1)))] H := hP
  have hD : va_D A [(qo, zJ K 1 (fun _ => 0)), (qm, zO 10 83 (va_up (zc71 u v) 81 (.int 1)))] := hD
  refine lv_istore (lv' := [(6, .int 0), (5, .int 1), (4, .int 0), (3, .ref qo), (2, .ref qm), (1, .ref qx), (0, .ref b)]) hx hb dL_law_1572 hl (by decide) rfl (fun ls hl => ?_)
  refine lv_aload_n hx hb dL_law_1574 rfl (lv_at hl 4 rfl) ?_
  refine z_calli [(qm, zO 10 83 (va_up (zc71 u v) 81 (.int 1)))] [(qo, zJ K 1 (fun _ => 0))] [1] [0] hP hD hS hA rfl rfl (by decide +kernel) (by decide +kernel) (by decide +kernel) 125 1863522 rfl rfl (fun hPc hDc hF => z_runV (As := []) (rest := []) ⟨hx, hb, hml, hown, hg⟩ (cX12_thrown_2 l K H.size qm (va_up (zc71 u v) 81 (.int 1)) zu_eq) kV_RL_104 hd_X12_thrown rfl rfl ⟨(Nat.le_of_ble_eq_true rfl), (Nat.le_of_ble_eq_true rfl)⟩ hK hS hZ hPc hDc hF 0 rfl rfl rfl hl.1 rfl (Nat.le_of_ble_eq_true rfl) dL_law_1575 ⟨(Nat.le_of_ble_eq_true rfl), (Nat.le_of_ble_eq_true rfl)⟩) (fun r9 u7 H locs w8 hP hD hS => ?_)
  subst w8
  have hP : va_P K.1 classes [(qo, zJ K 1 (fun _ => 0)), (qm, zO 10 83 (va_up (zc71 u v) 81 (.int 1)))] H := hP
  have hD : va_D A [(qo, zJ K 1 (fun _ => 0)), (qm, zO 10 83 (va_up (zc71 u v) 81 (.int 1)))] := hD
  refine lv_iload hx hb dL_law_1578 (lv_at hl 1 rfl) ?_
  refine lv_icmp_eq (tgt := 1585) hx hb dL_law_1580 (by decide) (fun _ => ?_) (fun c => absurd (by decide) c)
  refine lv_iload hx hb dL_law_1585 (lv_at hl 1 rfl) ?_
  refine lv_if_ne (tgt := 1602) hx hb dL_law_1587 (by decide) (fun _ => ?_) (fun c => absurd c (by decide))
  refine lv_goto (tgt := 2026) hx hb dL_law_1602 (by decide) ?_
  exact law_back ⟨hx, hb, hr, hml, hown, hg, hX, hbl, hlocks, hK, hZ, hl9, hAA, hA, hbA⟩ (Nat.le_of_ble_eq_true rfl) (Nat.le_of_ble_eq_true rfl) hS (lv_sub hl [2, 6] rfl)
set_option maxHeartbeats 4000000 in
set_option maxRecDepth 100000 in
theorem lawS_19_28 {p : Program} {l : Launch} {e : Env} {s : State} {m : MethodId} {below : List Frame} {meth : Method} {c : Code} {b : Nat} {xs : Nat → Int32} {K : zK} {A : Nat → Prop} {H : Heap} {locs : List Loc} {ls : Array Slot} (C : zC p l s m meth c b xs K A) (qx qm qo : Nat) (u v : Nat → Nat) (h0 : ¬ xs 6 = 0) (h1 : 0 ≤ (xs 5).toInt) (h2 : (xs 5).toInt < 601) (h3 : (xs 1).toInt < 0) (hP : va_P K.1 classes (lwW K qx qm qo u v) H) (hD : va_D A (lwW K qx qm qo u v)) (hS : va_S A s.heap H locs) (hl : lv_has ls 7 [(4, .int 0), (3, .ref qo), (2, .ref qm), (1, .ref qx), (0, .ref b)]) : W p l e room_1 s m #[Value.ref b] below meth c H locs 124 1863516 (lw_Z below #[Value.ref b] s) (F0 m 1471 ls []) := by
  obtain ⟨hx, hb, hr, hml, hown, hg, hX, hbl, hlocks, hK, hZ, hl9, hAA, hA, hbA⟩ := C
  have hP : va_P K.1 classes [(qx, zO 9 9 (zc0 u v)), (qm, zO 10 83 (zc71 u v)), (qo, zJ K 1 (fun _ => 0))] H := hP.sub [0, 71, 123] rfl
  have hD : va_D A [(qx, zO 9 9 (zc0 u v)), (qm, zO 10 83 (zc71 u v)), (qo, zJ K 1 (fun _ => 0))] := hD.sub [0, 71, 123] (by decide +kernel) rfl
  refine lv_aload_n hx hb dL_law_1471 rfl (lv_at hl 3 rfl) ?_
  refine lv_aload_n hx hb dL_law_1472 rfl (lv_at hl 4 rfl) ?_
  refine lv_iload hx hb dL_law_1473 (lv_at hl 0 rfl) ?_
  refine lv_iconst (v := 1) hx hb dL_law_1475 (by decide) ?_
  refine lv_iadd hx hb dL_law_1476 ?_
  refine z_cst (v := 1) (by decide +kernel) ?_
  refine z_sld (v := (xs 1)) (j := 1) hx hb hX hbl hbA hS rfl (Nat.le_of_ble_eq_true rfl) rfl dL_law_1477 ?_
  refine lv_aload_n hx hb dL_law_1478 rfl (lv_at hl 4 rfl) ?_
  refine lv_iload hx hb dL_law_1479 (lv_at hl 0 rfl) ?_
  refine lv_iconst (v := 2) hx hb dL_law_1481 (by decide) ?_
  refine lv_iadd hx hb dL_law_1482 ?_
  refine z_cst (v := 2) (by decide +kernel) ?_
  refine z_sld (v := (xs 2)) (j := 2) hx hb hX hbl hbA hS rfl (Nat.le_of_ble_eq_true rfl) rfl dL_law_1483 ?_
  refine lv_aload_n hx hb dL_law_1484 rfl (lv_at hl 4 rfl) ?_
  refine lv_iload hx hb dL_law_1485 (lv_at hl 0 rfl) ?_
  refine lv_iconst (v := 3) hx hb dL_law_1487 (by decide) ?_
  refine lv_iadd hx hb dL_law_1488 ?_
  refine z_cst (v := 3) (by decide +kernel) ?_
  refine z_sld (v := (xs 3)) (j := 3) hx hb hX hbl hbA hS rfl (Nat.le_of_ble_eq_true rfl) rfl dL_law_1489 ?_
  refine lv_aload_n hx hb dL_law_1490 rfl (lv_at hl 4 rfl) ?_
  refine lv_iload hx hb dL_law_1491 (lv_at hl 0 rfl) ?_
  refine lv_iconst (v := 4) hx hb dL_law_1493 (by decide) ?_
  refine lv_iadd hx hb dL_law_1494 ?_
  refine z_cst (v := 4) (by decide +kernel) ?_
  refine z_sld (v := (xs 4)) (j := 4) hx hb hX hbl hbA hS rfl (Nat.le_of_ble_eq_true rfl) rfl dL_law_1495 ?_
  refine lv_aload_n hx hb dL_law_1496 rfl (lv_at hl 4 rfl) ?_
  refine lv_iload hx hb dL_law_1497 (lv_at hl 0 rfl) ?_
  refine lv_iconst (v := 5) hx hb dL_law_1499 (by decide) ?_
  refine lv_iadd hx hb dL_law_1500 ?_
  refine z_cst (v := 5) (by decide +kernel) ?_
  refine z_sld (v := (xs 5)) (j := 5) hx hb hX hbl hbA hS rfl (Nat.le_of_ble_eq_true rfl) rfl dL_law_1501 ?_
  refine lv_aload_n hx hb dL_law_1502 rfl (lv_at hl 4 rfl) ?_
  refine lv_iload hx hb dL_law_1503 (lv_at hl 0 rfl) ?_
  refine lv_bipush (v := 6) hx hb dL_law_1505 (by decide) ?_
  refine lv_iadd hx hb dL_law_1507 ?_
  refine z_cst (v := 6) (by decide +kernel) ?_
  refine z_sld (v := (xs 6)) (j := 6) hx hb hX hbl hbA hS rfl (Nat.le_of_ble_eq_true rfl) rfl dL_law_1508 ?_
  refine lv_if_eq (tgt := 1516) hx hb dL_law_1509 (by decide) (fun c => absurd c h0) (fun _ => ?_)
  refine lv_iconst (v := 1) hx hb dL_law_1512 (by decide) ?_
  refine lv_goto (tgt := 1517) hx hb dL_law_1513 (by decide) ?_
  refine lv_aload_n hx hb dL_law_1517 rfl (lv_at hl 1 rfl) ?_
  refine z_hcalli [(qx, zO 9 9 (zc0 u v))] [(qm, zO 10 83 (zc71 u v)), (qo, zJ K 1 (fun _ => 0))] [0] [1, 2] hP hD hS hA rfl rfl (by decide +kernel) (by decide +kernel) (by decide +kernel) 125 1863522 rfl rfl (fun hPc hDc hF => z_xrunH (As := [.ref qx, .int (xs 1), .int (xs 2), .int (xs 3), .int (xs 4), .int (xs 5), .int 1, .ref qo]) (rest := []) ⟨hx, hb, hml, hown, hg⟩ (cL_run_25 l hl9 K H.size qx qo (zc0 u v) (xs 1) (xs 2) (xs 3) (xs 4) (xs 5) (by rw [Int32.lt_iff_toInt_lt, show (0 : Int32).toInt = 0 from by decide]; omega) (by rw [Int32.lt_iff_toInt_lt, show (601 : Int32).toInt = 601 from by decide]; omega) (by rw [Int32.lt_iff_toInt_lt, show (0 : Int32).toInt = 0 from by decide]; omega)) kS_RL_166 hd_L_run rfl rfl ⟨(Nat.le_of_ble_eq_true rfl), (Nat.le_of_ble_eq_true rfl)⟩ hK hS hZ hPc hDc hF rfl hl.1 rfl (Nat.le_of_ble_eq_true rfl) dL_law_1518 ⟨(Nat.le_of_ble_eq_true rfl), (Nat.le_of_ble_eq_true rfl)⟩) (fun r3 u1 H locs w2 hP hD hS => ?_)
  subst w2
  have hP : va_P K.1 classes [(qm, zO 10 83 (zc71 u v)), (qo, zJ K 1 (fun _ => 0))] H := hP
  have hD : va_D A [(qm, zO 10 83 (zc71 u v)), (qo, zJ K 1 (fun _ => 0))] := hD
  refine lv_istore (lv' := [(5, .int 1), (4, .int 0), (3, .ref qo), (2, .ref qm), (1, .ref qx), (0, .ref b)]) hx hb dL_law_1521 hl (by decide) rfl (fun ls hl => ?_)
  refine lv_aload_n hx hb dL_law_1523 rfl (lv_at hl 3 rfl) ?_
  refine lv_aload_n hx hb dL_law_1524 rfl (lv_at hl 5 rfl) ?_
  refine lv_iload hx hb dL_law_1525 (lv_at hl 1 rfl) ?_
  refine lv_iconst (v := 1) hx hb dL_law_1527 (by decide) ?_
  refine lv_iadd hx hb dL_law_1528 ?_
  refine z_cst (v := 1) (by decide +kernel) ?_
  refine z_sld (v := (xs 1)) (j := 1) hx hb hX hbl hbA hS rfl (Nat.le_of_ble_eq_true rfl) rfl dL_law_1529 ?_
  refine lv_aload_n hx hb dL_law_1530 rfl (lv_at hl 5 rfl) ?_
  refine lv_iload hx hb dL_law_1531 (lv_at hl 1 rfl) ?_
  refine lv_iconst (v := 2) hx hb dL_law_1533 (by decide) ?_
  refine lv_iadd hx hb dL_law_1534 ?_
  refine z_cst (v := 2) (by decide +kernel) ?_
  refine z_sld (v := (xs 2)) (j := 2) hx hb hX hbl hbA hS rfl (Nat.le_of_ble_eq_true rfl) rfl dL_law_1535 ?_
  refine lv_aload_n hx hb dL_law_1536 rfl (lv_at hl 5 rfl) ?_
  refine lv_iload hx hb dL_law_1537 (lv_at hl 1 rfl) ?_
  refine lv_iconst (v := 3) hx hb dL_law_1539 (by decide) ?_
  refine lv_iadd hx hb dL_law_1540 ?_
  refine z_cst (v := 3) (by decide +kernel) ?_
  refine z_sld (v := (xs 3)) (j := 3) hx hb hX hbl hbA hS rfl (Nat.le_of_ble_eq_true rfl) rfl dL_law_1541 ?_
  refine lv_aload_n hx hb dL_law_1542 rfl (lv_at hl 5 rfl) ?_
  refine lv_iload hx hb dL_law_1543 (lv_at hl 1 rfl) ?_
  refine lv_iconst (v := 4) hx hb dL_law_1545 (by decide) ?_
  refine lv_iadd hx hb dL_law_1546 ?_
  refine z_cst (v := 4) (by decide +kernel) ?_
  refine z_sld (v := (xs 4)) (j := 4) hx hb hX hbl hbA hS rfl (Nat.le_of_ble_eq_true rfl) rfl dL_law_1547 ?_
  refine lv_aload_n hx hb dL_law_1548 rfl (lv_at hl 5 rfl) ?_
  refine lv_iload hx hb dL_law_1549 (lv_at hl 1 rfl) ?_
  refine lv_iconst (v := 5) hx hb dL_law_1551 (by decide) ?_
  refine lv_iadd hx hb dL_law_1552 ?_
  refine z_cst (v := 5) (by decide +kernel) ?_
  refine z_sld (v := (xs 5)) (j := 5) hx hb hX hbl hbA hS rfl (Nat.le_of_ble_eq_true rfl) rfl dL_law_1553 ?_
  refine lv_aload_n hx hb dL_law_1554 rfl (lv_at hl 5 rfl) ?_
  refine lv_iload hx hb dL_law_1555 (lv_at hl 1 rfl) ?_
  refine lv_bipush (v := 6) hx hb dL_law_1557 (by decide) ?_
  refine lv_iadd hx hb dL_law_1559 ?_
  refine z_cst (v := 6) (by decide +kernel) ?_
  refine z_sld (v := (xs 6)) (j := 6) hx hb hX hbl hbA hS rfl (Nat.le_of_ble_eq_true rfl) rfl dL_law_1560 ?_
  refine lv_if_eq (tgt := 1568) hx hb dL_law_1561 (by decide) (fun c => absurd c h0) (fun _ => ?_)
  refine lv_iconst (v := 1) hx hb dL_law_1564 (by decide) ?_
  refine lv_goto (tgt := 1569) hx hb dL_law_1565 (by decide) ?_
  refine z_calli [(qm, zO 10 83 (zc71 u v))] [(qo, zJ K 1 (fun _ => 0))] [0] [1] hP hD hS hA rfl rfl (by decide +kernel) (by decide +kernel) (by decide +kernel) 125 1863522 rfl rfl (fun hPc hDc hF => z_runV (As := [.int (xs 1), .int (xs 2), .int (xs 3), .int (xs 4), .int (xs 5), .int 1]) (rest := []) ⟨hx, hb, hml, hown, hg⟩ (cX12_run_29 l K H.size qm (zc71 u v) (xs 1) (xs 2) (xs 3) (xs 4) (xs 5) (by rw [Int32.lt_iff_toInt_lt, show (0 : Int32).toInt = 0 from by decide]; omega) (by rw [Int32.lt_iff_toInt_lt, show (600 : Int32).toInt = 600 from by decide]; omega) (by rw [Int32.lt_iff_toInt_lt, show (0 : Int32).toInt = 0 from by decide]; omega)) kV_RL_169 hd_X12_run rfl rfl ⟨(Nat.le_of_ble_eq_true rfl), (Nat.le_of_ble_eq_true rfl)⟩ hK hS hZ hPc hDc hF 0 rfl rfl rfl hl.1 rfl (Nat.le_of_ble_eq_true rfl) dL_law_1569 ⟨(Nat.le_of_ble_eq_true rfl), (Nat.le_of_ble_eq_true rfl)⟩) (fun r6 u4 H locs w5 hP hD hS => ?_)
  subst w5
  have hP : va_P K.1 classes [(qo, zJ K 1 (fun _ => 0)), (qm, zO 10 83 (va_up (zc71 u v) 81 (.int 1)))] H := hP
  have hD : va_D A [(qo, zJ K 1 (fun _ => 0)), (qm, zO 10 83 (va_up (zc71 u v) 81 (.int 1)))] := hD
  refine lv_istore (lv' := [(6, .int 0), (5, .int 1), (4, .int 0), (3, .ref qo), (2, .ref qm), (1, .ref qx), (0, .ref b)]) hx hb dL_law_1572 hl (by decide) rfl (fun ls hl => ?_)
  refine lv_aload_n hx hb dL_law_1574 rfl (lv_at hl 4 rfl) ?_
  refine z_calli [(qm, zO 10 83 (va_up (zc71 u v) 81 (.int 1)))] [(qo, zJ K 1 (fun _ => 0))] [1] [0] hP hD hS hA rfl rfl (by decide +kernel) (by decide +kernel) (by decide +kernel) 125 1863522 rfl rfl (fun hPc hDc hF => z_runV (As := []) (rest := []) ⟨hx, hb, hml, hown, hg⟩ (cX12_thrown_2 l K H.size qm (va_up (zc71 u v) 81 (.int 1)) zu_eq) kV_RL_104 hd_X12_thrown rfl rfl ⟨(Nat.le_of_ble_eq_true rfl), (Nat.le_of_ble_eq_true rfl)⟩ hK hS hZ hPc hDc hF 0 rfl rfl rfl hl.1 rfl (Nat.le_of_ble_eq_true rfl) dL_law_1575 ⟨(Nat.le_of_ble_eq_true rfl), (Nat.le_of_ble_eq_true rfl)⟩) (fun r9 u7 H locs w8 hP hD hS => ?_)
  subst w8
  have hP : va_P K.1 classes [(qo, zJ K 1 (fun _ => 0)), (qm, zO 10 83 (va_up (zc71 u v) 81 (.int 1)))] H := hP
  have hD : va_D A [(qo, zJ K 1 (fun _ => 0)), (qm, zO 10 83 (va_up (zc71 u v) 81 (.int 1)))] := hD
  refine lv_iload hx hb dL_law_1578 (lv_at hl 1 rfl) ?_
  refine lv_icmp_eq (tgt := 1585) hx hb dL_law_1580 (by decide) (fun _ => ?_) (fun c => absurd (by decide) c)
  refine lv_iload hx hb dL_law_1585 (lv_at hl 1 rfl) ?_
  refine lv_if_ne (tgt := 1602) hx hb dL_law_1587 (by decide) (fun _ => ?_) (fun c => absurd c (by decide))
  refine lv_goto (tgt := 2026) hx hb dL_law_1602 (by decide) ?_
  exact law_back ⟨hx, hb, hr, hml, hown, hg, hX, hbl, hlocks, hK, hZ, hl9, hAA, hA, hbA⟩ (Nat.le_of_ble_eq_true rfl) (Nat.le_of_ble_eq_true rfl) hS (lv_sub hl [2, 6] rfl)
set_option maxHeartbeats 4000000 in
set_option maxRecDepth 100000 in
theorem lawS_19_29 {p : Program} {l : Launch} {e : Env} {s : State} {m : MethodId} {below : List Frame} {meth : Method} {c : Code} {b : Nat} {xs : Nat → Int32} {K : zK} {A : Nat → Prop} {H : Heap} {locs : List Loc} {ls : Array Slot} (C : zC p l s m meth c b xs K A) (qx qm qo : Nat) (u v : Nat → Nat) (h0 : ¬ xs 6 = 0) (h1 : 0 ≤ (xs 5).toInt) (h2 : (xs 5).toInt < 601) (h3 : 0 ≤ (xs 1).toInt) (h4 : (xs 1).toInt < 8) (h5 : (xs 2).toInt < 0) (hP : va_P K.1 classes (lwW K qx qm qo u v) H) (hD : va_D A (lwW K qx qm qo u v)) (hS : va_S A s.heap H locs) (hl : lv_has ls 7 [(4, .int 0), (3, .ref qo), (2, .ref qm), (1, .ref qx), (0, .ref b)]) : W p l e room_1 s m #[Value.ref b] below meth c H locs 124 1863516 (lw_Z below #[Value.ref b] s) (F0 m 1471 ls []) := by
  obtain ⟨hx, hb, hr, hml, hown, hg, hX, hbl, hlocks, hK, hZ, hl9, hAA, hA, hbA⟩ := C
  have hP : va_P K.1 classes [(qx, zO 9 9 (zc0 u v)), (qm, zO 10 83 (zc71 u v)), (qo, zJ K 1 (fun _ => 0))] H := hP.sub [0, 71, 123] rfl
  have hD : va_D A [(qx, zO 9 9 (zc0 u v)), (qm, zO 10 83 (zc71 u v)), (qo, zJ K 1 (fun _ => 0))] := hD.sub [0, 71, 123] (by decide +kernel) rfl
  obtain ⟨t1, ht1, v1⟩ : ∃ j : Nat, j < 8 ∧ xs 1 = nI j := z_nat (n := 8) (by omega) (by omega) (by decide)
  refine lv_aload_n hx hb dL_law_1471 rfl (lv_at hl 3 rfl) ?_
  refine lv_aload_n hx hb dL_law_1472 rfl (lv_at hl 4 rfl) ?_
  refine lv_iload hx hb dL_law_1473 (lv_at hl 0 rfl) ?_
  refine lv_iconst (v := 1) hx hb dL_law_1475 (by decide) ?_
  refine lv_iadd hx hb dL_law_1476 ?_
  refine z_cst (v := 1) (by decide +kernel) ?_
  refine z_sld (v := (nI t1)) (j := 1) hx hb hX hbl hbA hS rfl (Nat.le_of_ble_eq_true rfl) v1 dL_law_1477 ?_
  refine lv_aload_n hx hb dL_law_1478 rfl (lv_at hl 4 rfl) ?_
  refine lv_iload hx hb dL_law_1479 (lv_at hl 0 rfl) ?_
  refine lv_iconst (v := 2) hx hb dL_law_1481 (by decide) ?_
  refine lv_iadd hx hb dL_law_1482 ?_
  refine z_cst (v := 2) (by decide +kernel) ?_
  refine z_sld (v := (xs 2)) (j := 2) hx hb hX hbl hbA hS rfl (Nat.le_of_ble_eq_true rfl) rfl dL_law_1483 ?_
  refine lv_aload_n hx hb dL_law_1484 rfl (lv_at hl 4 rfl) ?_
  refine lv_iload hx hb dL_law_1485 (lv_at hl 0 rfl) ?_
  refine lv_iconst (v := 3) hx hb dL_law_1487 (by decide) ?_
  refine lv_iadd hx hb dL_law_1488 ?_
  refine z_cst (v := 3) (by decide +kernel) ?_
  refine z_sld (v := (xs 3)) (j := 3) hx hb hX hbl hbA hS rfl (Nat.le_of_ble_eq_true rfl) rfl dL_law_1489 ?_
  refine lv_aload_n hx hb dL_law_1490 rfl (lv_at hl 4 rfl) ?_
  refine lv_iload hx hb dL_law_1491 (lv_at hl 0 rfl) ?_
  refine lv_iconst (v := 4) hx hb dL_law_1493 (by decide) ?_
  refine lv_iadd hx hb dL_law_1494 ?_
  refine z_cst (v := 4) (by decide +kernel) ?_
  refine z_sld (v := (xs 4)) (j := 4) hx hb hX hbl hbA hS rfl (Nat.le_of_ble_eq_true rfl) rfl dL_law_1495 ?_
  refine lv_aload_n hx hb dL_law_1496 rfl (lv_at hl 4 rfl) ?_
  refine lv_iload hx hb dL_law_1497 (lv_at hl 0 rfl) ?_
  refine lv_iconst (v := 5) hx hb dL_law_1499 (by decide) ?_
  refine lv_iadd hx hb dL_law_1500 ?_
  refine z_cst (v := 5) (by decide +kernel) ?_
  refine z_sld (v := (xs 5)) (j := 5) hx hb hX hbl hbA hS rfl (Nat.le_of_ble_eq_true rfl) rfl dL_law_1501 ?_
  refine lv_aload_n hx hb dL_law_1502 rfl (lv_at hl 4 rfl) ?_
  refine lv_iload hx hb dL_law_1503 (lv_at hl 0 rfl) ?_
  refine lv_bipush (v := 6) hx hb dL_law_1505 (by decide) ?_
  refine lv_iadd hx hb dL_law_1507 ?_
  refine z_cst (v := 6) (by decide +kernel) ?_
  refine z_sld (v := (xs 6)) (j := 6) hx hb hX hbl hbA hS rfl (Nat.le_of_ble_eq_true rfl) rfl dL_law_1508 ?_
  refine lv_if_eq (tgt := 1516) hx hb dL_law_1509 (by decide) (fun c => absurd c h0) (fun _ => ?_)
  refine lv_iconst (v := 1) hx hb dL_law_1512 (by decide) ?_
  refine lv_goto (tgt := 1517) hx hb dL_law_1513 (by decide) ?_
  refine lv_aload_n hx hb dL_law_1517 rfl (lv_at hl 1 rfl) ?_
  refine z_hcalli [(qx, zO 9 9 (zc0 u v))] [(qm, zO 10 83 (zc71 u v)), (qo, zJ K 1 (fun _ => 0))] [0] [1, 2] hP hD hS hA rfl rfl (by decide +kernel) (by decide +kernel) (by decide +kernel) 125 1863522 rfl rfl (fun hPc hDc hF => z_xrunH (As := [.ref qx, .int (nI t1), .int (xs 2), .int (xs 3), .int (xs 4), .int (xs 5), .int 1, .ref qo]) (rest := []) ⟨hx, hb, hml, hown, hg⟩ (cL_run_26 l hl9 K H.size qx qo (zc0 u v) t1 ht1 (xs 2) (xs 3) (xs 4) (xs 5) (by rw [Int32.lt_iff_toInt_lt, show (0 : Int32).toInt = 0 from by decide]; omega) (by rw [Int32.lt_iff_toInt_lt, show (601 : Int32).toInt = 601 from by decide]; omega) (by rw [Int32.lt_iff_toInt_lt, show (0 : Int32).toInt = 0 from by decide]; omega)) kS_RL_166 hd_L_run rfl rfl ⟨(Nat.le_of_ble_eq_true rfl), (Nat.le_of_ble_eq_true rfl)⟩ hK hS hZ hPc hDc hF rfl hl.1 rfl (Nat.le_of_ble_eq_true rfl) dL_law_1518 ⟨(Nat.le_of_ble_eq_true rfl), (Nat.le_of_ble_eq_true rfl)⟩) (fun r3 u1 H locs w2 hP hD hS => ?_)
  subst w2
  have hP : va_P K.1 classes [(qm, zO 10 83 (zc71 u v)), (qo, zJ K 1 (fun _ => 0))] H := hP
  have hD : va_D A [(qm, zO 10 83 (zc71 u v)), (qo, zJ K 1 (fun _ => 0))] := hD
  refine lv_istore (lv' := [(5, .int 1), (4, .int 0), (3, .ref qo), (2, .ref qm), (1, .ref qx), (0, .ref b)]) hx hb dL_law_1521 hl (by decide) rfl (fun ls hl => ?_)
  refine lv_aload_n hx hb dL_law_1523 rfl (lv_at hl 3 rfl) ?_
  refine lv_aload_n hx hb dL_law_1524 rfl (lv_at hl 5 rfl) ?_
  refine lv_iload hx hb dL_law_1525 (lv_at hl 1 rfl) ?_
  refine lv_iconst (v := 1) hx hb dL_law_1527 (by decide) ?_
  refine lv_iadd hx hb dL_law_1528 ?_
  refine z_cst (v := 1) (by decide +kernel) ?_
  refine z_sld (v := (nI t1)) (j := 1) hx hb hX hbl hbA hS rfl (Nat.le_of_ble_eq_true rfl) v1 dL_law_1529 ?_
  refine lv_aload_n hx hb dL_law_1530 rfl (lv_at hl 5 rfl) ?_
  refine lv_iload hx hb dL_law_1531 (lv_at hl 1 rfl) ?_
  refine lv_iconst (v := 2) hx hb dL_law_1533 (by decide) ?_
  refine lv_iadd hx hb dL_law_1534 ?_
  refine z_cst (v := 2) (by decide +kernel) ?_
  refine z_sld (v := (xs 2)) (j := 2) hx hb hX hbl hbA hS rfl (Nat.le_of_ble_eq_true rfl) rfl dL_law_1535 ?_
  refine lv_aload_n hx hb dL_law_1536 rfl (lv_at hl 5 rfl) ?_
  refine lv_iload hx hb dL_law_1537 (lv_at hl 1 rfl) ?_
  refine lv_iconst (v := 3) hx hb dL_law_1539 (by decide) ?_
  refine lv_iadd hx hb dL_law_1540 ?_
  refine z_cst (v := 3) (by decide +kernel) ?_
  refine z_sld (v := (xs 3)) (j := 3) hx hb hX hbl hbA hS rfl (Nat.le_of_ble_eq_true rfl) rfl dL_law_1541 ?_
  refine lv_aload_n hx hb dL_law_1542 rfl (lv_at hl 5 rfl) ?_
  refine lv_iload hx hb dL_law_1543 (lv_at hl 1 rfl) ?_
  refine lv_iconst (v := 4) hx hb dL_law_1545 (by decide) ?_
  refine lv_iadd hx hb dL_law_1546 ?_
  refine z_cst (v := 4) (by decide +kernel) ?_
  refine z_sld (v := (xs 4)) (j := 4) hx hb hX hbl hbA hS rfl (Nat.le_of_ble_eq_true rfl) rfl dL_law_1547 ?_
  refine lv_aload_n hx hb dL_law_1548 rfl (lv_at hl 5 rfl) ?_
  refine lv_iload hx hb dL_law_1549 (lv_at hl 1 rfl) ?_
  refine lv_iconst (v := 5) hx hb dL_law_1551 (by decide) ?_
  refine lv_iadd hx hb dL_law_1552 ?_
  refine z_cst (v := 5) (by decide +kernel) ?_
  refine z_sld (v := (xs 5)) (j := 5) hx hb hX hbl hbA hS rfl (Nat.le_of_ble_eq_true rfl) rfl dL_law_1553 ?_
  refine lv_aload_n hx hb dL_law_1554 rfl (lv_at hl 5 rfl) ?_
  refine lv_iload hx hb dL_law_1555 (lv_at hl 1 rfl) ?_
  refine lv_bipush (v := 6) hx hb dL_law_1557 (by decide) ?_
  refine lv_iadd hx hb dL_law_1559 ?_
  refine z_cst (v := 6) (by decide +kernel) ?_
  refine z_sld (v := (xs 6)) (j := 6) hx hb hX hbl hbA hS rfl (Nat.le_of_ble_eq_true rfl) rfl dL_law_1560 ?_
  refine lv_if_eq (tgt := 1568) hx hb dL_law_1561 (by decide) (fun c => absurd c h0) (fun _ => ?_)
  refine lv_iconst (v := 1) hx hb dL_law_1564 (by decide) ?_
  refine lv_goto (tgt := 1569) hx hb dL_law_1565 (by decide) ?_
  refine z_calli [(qm, zO 10 83 (zc71 u v))] [(qo, zJ K 1 (fun _ => 0))] [0] [1] hP hD hS hA rfl rfl (by decide +kernel) (by decide +kernel) (by decide +kernel) 125 1863522 rfl rfl (fun hPc hDc hF => z_runV (As := [.int (nI t1), .int (xs 2), .int (xs 3), .int (xs 4), .int (xs 5), .int 1]) (rest := []) ⟨hx, hb, hml, hown, hg⟩ (cX12_run_30 l K H.size qm (zc71 u v) t1 ht1 (xs 2) (xs 3) (xs 4) (xs 5) (by rw [Int32.lt_iff_toInt_lt, show (0 : Int32).toInt = 0 from by decide]; omega) (by rw [Int32.lt_iff_toInt_lt, show (600 : Int32).toInt = 600 from by decide]; omega) (by rw [Int32.lt_iff_toInt_lt, show (0 : Int32).toInt = 0 from by decide]; omega)) kV_RL_169 hd_X12_run rfl rfl ⟨(Nat.le_of_ble_eq_true rfl), (Nat.le_of_ble_eq_true rfl)⟩ hK hS hZ hPc hDc hF 0 rfl rfl rfl hl.1 rfl (Nat.le_of_ble_eq_true rfl) dL_law_1569 ⟨(Nat.le_of_ble_eq_true rfl), (Nat.le_of_ble_eq_true rfl)⟩) (fun r6 u4 H locs w5 hP hD hS => ?_)
  subst w5
  have hP : va_P K.1 classes [(qo, zJ K 1 (fun _ => 0)), (qm, zO 10 83 (va_up (zc71 u v) 81 (.int 1)))] H := hP
  have hD : va_D A [(qo, zJ K 1 (fun _ => 0)), (qm, zO 10 83 (va_up (zc71 u v) 81 (.int 1)))] := hD
  refine lv_istore (lv' := [(6, .int 0), (5, .int 1), (4, .int 0), (3, .ref qo), (2, .ref qm), (1, .ref qx), (0, .ref b)]) hx hb dL_law_1572 hl (by decide) rfl (fun ls hl => ?_)
  refine lv_aload_n hx hb dL_law_1574 rfl (lv_at hl 4 rfl) ?_
  refine z_calli [(qm, zO 10 83 (va_up (zc71 u v) 81 (.int 1)))] [(qo, zJ K 1 (fun _ => 0))] [1] [0] hP hD hS hA rfl rfl (by decide +kernel) (by decide +kernel) (by decide +kernel) 125 1863522 rfl rfl (fun hPc hDc hF => z_runV (As := []) (rest := []) ⟨hx, hb, hml, hown, hg⟩ (cX12_thrown_2 l K H.size qm (va_up (zc71 u v) 81 (.int 1)) zu_eq) kV_RL_104 hd_X12_thrown rfl rfl ⟨(Nat.le_of_ble_eq_true rfl), (Nat.le_of_ble_eq_true rfl)⟩ hK hS hZ hPc hDc hF 0 rfl rfl rfl hl.1 rfl (Nat.le_of_ble_eq_true rfl) dL_law_1575 ⟨(Nat.le_of_ble_eq_true rfl), (Nat.le_of_ble_eq_true rfl)⟩) (fun r9 u7 H locs w8 hP hD hS => ?_)
  subst w8
  have hP : va_P K.1 classes [(qo, zJ K 1 (fun _ => 0)), (qm, zO 10 83 (va_up (zc71 u v) 81 (.int 1)))] H := hP
  have hD : va_D A [(qo, zJ K 1 (fun _ => 0)), (qm, zO 10 83 (va_up (zc71 u v) 81 (.int 1)))] := hD
  refine lv_iload hx hb dL_law_1578 (lv_at hl 1 rfl) ?_
  refine lv_icmp_eq (tgt := 1585) hx hb dL_law_1580 (by decide) (fun _ => ?_) (fun c => absurd (by decide) c)
  refine lv_iload hx hb dL_law_1585 (lv_at hl 1 rfl) ?_
  refine lv_if_ne (tgt := 1602) hx hb dL_law_1587 (by decide) (fun _ => ?_) (fun c => absurd c (by decide))
  refine lv_goto (tgt := 2026) hx hb dL_law_1602 (by decide) ?_
  exact law_back ⟨hx, hb, hr, hml, hown, hg, hX, hbl, hlocks, hK, hZ, hl9, hAA, hA, hbA⟩ (Nat.le_of_ble_eq_true rfl) (Nat.le_of_ble_eq_true rfl) hS (lv_sub hl [2, 6] rfl)
set_option maxHeartbeats 4000000 in
set_option maxRecDepth 100000 in
theorem lawS_19_30 {p : Program} {l : Launch} {e : Env} {s : State} {m : MethodId} {below : List Frame} {meth : Method} {c : Code} {b : Nat} {xs : Nat → Int32} {K : zK} {A : Nat → Prop} {H : Heap} {locs : List Loc} {ls : Array Slot} (C : zC p l s m meth c b xs K A) (qx qm qo : Nat) (u v : Nat → Nat) (h0 : ¬ xs 6 = 0) (h1 : 0 ≤ (xs 5).toInt) (h2 : (xs 5).toInt < 601) (h3 : 0 ≤ (xs 1).toInt) (h4 : (xs 1).toInt < 8) (h5 : 0 ≤ (xs 2).toInt) (h6 : (xs 2).toInt < 3) (hP : va_P K.1 classes (lwW K qx qm qo u v) H) (hD : va_D A (lwW K qx qm qo u v)) (hS : va_S A s.heap H locs) (hl : lv_has ls 7 [(4, .int 0), (3, .ref qo), (2, .ref qm), (1, .ref qx), (0, .ref b)]) : W p l e room_1 s m #[Value.ref b] below meth c H locs 124 1863516 (lw_Z below #[Value.ref b] s) (F0 m 1471 ls []) := by
  obtain ⟨hx, hb, hr, hml, hown, hg, hX, hbl, hlocks, hK, hZ, hl9, hAA, hA, hbA⟩ := C
  have hP : va_P K.1 classes [(qx, zO 9 9 (zc0 u v)), (qm, zO 10 83 (zc71 u v)), (qo, zJ K 1 (fun _ => 0))] H := hP.sub [0, 71, 123] rfl
  have hD : va_D A [(qx, zO 9 9 (zc0 u v)), (qm, zO 10 83 (zc71 u v)), (qo, zJ K 1 (fun _ => 0))] := hD.sub [0, 71, 123] (by decide +kernel) rfl
  obtain ⟨t1, ht1, v1⟩ : ∃ j : Nat, j < 8 ∧ xs 1 = nI j := z_nat (n := 8) (by omega) (by omega) (by decide)
  obtain ⟨t2, ht2, v2⟩ : ∃ j : Nat, j < 3 ∧ xs 2 = nI j := z_nat (n := 3) (by omega) (by omega) (by decide)
  refine lv_aload_n hx hb dL_law_1471 rfl (lv_at hl 3 rfl) ?_
  refine lv_aload_n hx hb dL_law_1472 rfl (lv_at hl 4 rfl) ?_
  refine lv_iload hx hb dL_law_1473 (lv_at hl 0 rfl) ?_
  refine lv_iconst (v := 1) hx hb dL_law_1475 (by decide) ?_
  refine lv_iadd hx hb dL_law_1476 ?_
  refine z_cst (v := 1) (by decide +kernel) ?_
  refine z_sld (v := (nI t1)) (j := 1) hx hb hX hbl hbA hS rfl (Nat.le_of_ble_eq_true rfl) v1 dL_law_1477 ?_
  refine lv_aload_n hx hb dL_law_1478 rfl (lv_at hl 4 rfl) ?_
  refine lv_iload hx hb dL_law_1479 (lv_at hl 0 rfl) ?_
  refine lv_iconst (v := 2) hx hb dL_law_1481 (by decide) ?_
  refine lv_iadd hx hb dL_law_1482 ?_
  refine z_cst (v := 2) (by decide +kernel) ?_
  refine z_sld (v := (nI t2)) (j := 2) hx hb hX hbl hbA hS rfl (Nat.le_of_ble_eq_true rfl) v2 dL_law_1483 ?_
  refine lv_aload_n hx hb dL_law_1484 rfl (lv_at hl 4 rfl) ?_
  refine lv_iload hx hb dL_law_1485 (lv_at hl 0 rfl) ?_
  refine lv_iconst (v := 3) hx hb dL_law_1487 (by decide) ?_
  refine lv_iadd hx hb dL_law_1488 ?_
  refine z_cst (v := 3) (by decide +kernel) ?_
  refine z_sld (v := (xs 3)) (j := 3) hx hb hX hbl hbA hS rfl (Nat.le_of_ble_eq_true rfl) rfl dL_law_1489 ?_
  refine lv_aload_n hx hb dL_law_1490 rfl (lv_at hl 4 rfl) ?_
  refine lv_iload hx hb dL_law_1491 (lv_at hl 0 rfl) ?_
  refine lv_iconst (v := 4) hx hb dL_law_1493 (by decide) ?_
  refine lv_iadd hx hb dL_law_1494 ?_
  refine z_cst (v := 4) (by decide +kernel) ?_
  refine z_sld (v := (xs 4)) (j := 4) hx hb hX hbl hbA hS rfl (Nat.le_of_ble_eq_true rfl) rfl dL_law_1495 ?_
  refine lv_aload_n hx hb dL_law_1496 rfl (lv_at hl 4 rfl) ?_
  refine lv_iload hx hb dL_law_1497 (lv_at hl 0 rfl) ?_
  refine lv_iconst (v := 5) hx hb dL_law_1499 (by decide) ?_
  refine lv_iadd hx hb dL_law_1500 ?_
  refine z_cst (v := 5) (by decide +kernel) ?_
  refine z_sld (v := (xs 5)) (j := 5) hx hb hX hbl hbA hS rfl (Nat.le_of_ble_eq_true rfl) rfl dL_law_1501 ?_
  refine lv_aload_n hx hb dL_law_1502 rfl (lv_at hl 4 rfl) ?_
  refine lv_iload hx hb dL_law_1503 (lv_at hl 0 rfl) ?_
  refine lv_bipush (v := 6) hx hb dL_law_1505 (by decide) ?_
  refine lv_iadd hx hb dL_law_1507 ?_
  refine z_cst (v := 6) (by decide +kernel) ?_
  refine z_sld (v := (xs 6)) (j := 6) hx hb hX hbl hbA hS rfl (Nat.le_of_ble_eq_true rfl) rfl dL_law_1508 ?_
  refine lv_if_eq (tgt := 1516) hx hb dL_law_1509 (by decide) (fun c => absurd c h0) (fun _ => ?_)
  refine lv_iconst (v := 1) hx hb dL_law_1512 (by decide) ?_
  refine lv_goto (tgt := 1517) hx hb dL_law_1513 (by decide) ?_
  refine lv_aload_n hx hb dL_law_1517 rfl (lv_at hl 1 rfl) ?_
  refine z_hcalli [(qx, zO 9 9 (zc0 u v))] [(qm, zO 10 83 (zc71 u v)), (qo, zJ K 1 (fun _ => 0))] [0] [1, 2] hP hD hS hA rfl rfl (by decide +kernel) (by decide +kernel) (by decide +kernel) 125 1863522 rfl rfl (fun hPc hDc hF => z_xrunH (As := [.ref qx, .int (nI t1), .int (nI t2), .int (xs 3), .int (xs 4), .int (xs 5), .int 1, .ref qo]) (rest := []) ⟨hx, hb, hml, hown, hg⟩ (cL_run_27 l hl9 K H.size qx qo (zc0 u v) t1 ht1 t2 ht2 (xs 3) (xs 4) (xs 5) (by rw [Int32.lt_iff_toInt_lt, show (0 : Int32).toInt = 0 from by decide]; omega) (by rw [Int32.lt_iff_toInt_lt, show (601 : Int32).toInt = 601 from by decide]; omega) (zc0_8 u v)) kS_RL_166 hd_L_run rfl rfl ⟨(Nat.le_of_ble_eq_true rfl), (Nat.le_of_ble_eq_true rfl)⟩ hK hS hZ hPc hDc hF rfl hl.1 rfl (Nat.le_of_ble_eq_true rfl) dL_law_1518 ⟨(Nat.le_of_ble_eq_true rfl), (Nat.le_of_ble_eq_true rfl)⟩) (fun r3 u1 H locs w2 hP hD hS => ?_)
  subst w2
  have hP : va_P K.1 classes [(qm, zO 10 83 (zc71 u v)), (qo, zJ K 1 (fun _ => 0))] H := hP
  have hD : va_D A [(qm, zO 10 83 (zc71 u v)), (qo, zJ K 1 (fun _ => 0))] := hD
  refine lv_istore (lv' := [(5, .int 2), (4, .int 0), (3, .ref qo), (2, .ref qm), (1, .ref qx), (0, .ref b)]) hx hb dL_law_1521 hl (by decide) rfl (fun ls hl => ?_)
  refine lv_aload_n hx hb dL_law_1523 rfl (lv_at hl 3 rfl) ?_
  refine lv_aload_n hx hb dL_law_1524 rfl (lv_at hl 5 rfl) ?_
  refine lv_iload hx hb dL_law_1525 (lv_at hl 1 rfl) ?_
  refine lv_iconst (v := 1) hx hb dL_law_1527 (by decide) ?_
  refine lv_iadd hx hb dL_law_1528 ?_
  refine z_cst (v := 1) (by decide +kernel) ?_
  refine z_sld (v := (nI t1)) (j := 1) hx hb hX hbl hbA hS rfl (Nat.le_of_ble_eq_true rfl) v1 dL_law_1529 ?_
  refine lv_aload_n hx hb dL_law_1530 rfl (lv_at hl 5 rfl) ?_
  refine lv_iload hx hb dL_law_1531 (lv_at hl 1 rfl) ?_
  refine lv_iconst (v := 2) hx hb dL_law_1533 (by decide) ?_
  refine lv_iadd hx hb dL_law_1534 ?_
  refine z_cst (v := 2) (by decide +kernel) ?_
  refine z_sld (v := (nI t2)) (j := 2) hx hb hX hbl hbA hS rfl (Nat.le_of_ble_eq_true rfl) v2 dL_law_1535 ?_
  refine lv_aload_n hx hb dL_law_1536 rfl (lv_at hl 5 rfl) ?_
  refine lv_iload hx hb dL_law_1537 (lv_at hl 1 rfl) ?_
  refine lv_iconst (v := 3) hx hb dL_law_1539 (by decide) ?_
  refine lv_iadd hx hb dL_law_1540 ?_
  refine z_cst (v := 3) (by decide +kernel) ?_
  refine z_sld (v := (xs 3)) (j := 3) hx hb hX hbl hbA hS rfl (Nat.le_of_ble_eq_true rfl) rfl dL_law_1541 ?_
  refine lv_aload_n hx hb dL_law_1542 rfl (lv_at hl 5 rfl) ?_
  refine lv_iload hx hb dL_law_1543 (lv_at hl 1 rfl) ?_
  refine lv_iconst (v := 4) hx hb dL_law_1545 (by decide) ?_
  refine lv_iadd hx hb dL_law_1546 ?_
  refine z_cst (v := 4) (by decide +kernel) ?_
  refine z_sld (v := (xs 4)) (j := 4) hx hb hX hbl hbA hS rfl (Nat.le_of_ble_eq_true rfl) rfl dL_law_1547 ?_
  refine lv_aload_n hx hb dL_law_1548 rfl (lv_at hl 5 rfl) ?_
  refine lv_iload hx hb dL_law_1549 (lv_at hl 1 rfl) ?_
  refine lv_iconst (v := 5) hx hb dL_law_1551 (by decide) ?_
  refine lv_iadd hx hb dL_law_1552 ?_
  refine z_cst (v := 5) (by decide +kernel) ?_
  refine z_sld (v := (xs 5)) (j := 5) hx hb hX hbl hbA hS rfl (Nat.le_of_ble_eq_true rfl) rfl dL_law_1553 ?_
  refine lv_aload_n hx hb dL_law_1554 rfl (lv_at hl 5 rfl) ?_
  refine lv_iload hx hb dL_law_1555 (lv_at hl 1 rfl) ?_
  refine lv_bipush (v := 6) hx hb dL_law_1557 (by decide) ?_
  refine lv_iadd hx hb dL_law_1559 ?_
  refine z_cst (v := 6) (by decide +kernel) ?_
  refine z_sld (v := (xs 6)) (j := 6) hx hb hX hbl hbA hS rfl (Nat.le_of_ble_eq_true rfl) rfl dL_law_1560 ?_
  refine lv_if_eq (tgt := 1568) hx hb dL_law_1561 (by decide) (fun c => absurd c h0) (fun _ => ?_)
  refine lv_iconst (v := 1) hx hb dL_law_1564 (by decide) ?_
  refine lv_goto (tgt := 1569) hx hb dL_law_1565 (by decide) ?_
  refine z_calli [(qm, zO 10 83 (zc71 u v))] [(qo, zJ K 1 (fun _ => 0))] [0] [1] hP hD hS hA rfl rfl (by decide +kernel) (by decide +kernel) (by decide +kernel) 125 1863522 rfl rfl (fun hPc hDc hF => z_runV (As := [.int (nI t1), .int (nI t2), .int (xs 3), .int (xs 4), .int (xs 5), .int 1]) (rest := []) ⟨hx, hb, hml, hown, hg⟩ (cX12_run_31 l K H.size qm (zc71 u v) t1 ht1 t2 ht2 (xs 3) (xs 4) (xs 5) (by rw [Int32.lt_iff_toInt_lt, show (0 : Int32).toInt = 0 from by decide]; omega) (by rw [Int32.lt_iff_toInt_lt, show (600 : Int32).toInt = 600 from by decide]; omega) (zc71_15 u v)) kV_RL_169 hd_X12_run rfl rfl ⟨(Nat.le_of_ble_eq_true rfl), (Nat.le_of_ble_eq_true rfl)⟩ hK hS hZ hPc hDc hF 0 rfl rfl rfl hl.1 rfl (Nat.le_of_ble_eq_true rfl) dL_law_1569 ⟨(Nat.le_of_ble_eq_true rfl), (Nat.le_of_ble_eq_true rfl)⟩) (fun r6 u4 H locs w5 hP hD hS => ?_)
  subst w5
  have hP : va_P K.1 classes [(qo, zJ K 1 (fun _ => 0)), (qm, zO 10 83 (va_up (zc71 u v) 81 (.int 2)))] H := hP
  have hD : va_D A [(qo, zJ K 1 (fun _ => 0)), (qm, zO 10 83 (va_up (zc71 u v) 81 (.int 2)))] := hD
  refine lv_istore (lv' := [(6, .int 0), (5, .int 2), (4, .int 0), (3, .ref qo), (2, .ref qm), (1, .ref qx), (0, .ref b)]) hx hb dL_law_1572 hl (by decide) rfl (fun ls hl => ?_)
  refine lv_aload_n hx hb dL_law_1574 rfl (lv_at hl 4 rfl) ?_
  refine z_calli [(qm, zO 10 83 (va_up (zc71 u v) 81 (.int 2)))] [(qo, zJ K 1 (fun _ => 0))] [1] [0] hP hD hS hA rfl rfl (by decide +kernel) (by decide +kernel) (by decide +kernel) 125 1863522 rfl rfl (fun hPc hDc hF => z_runV (As := []) (rest := []) ⟨hx, hb, hml, hown, hg⟩ (cX12_thrown_3 l K H.size qm (va_up (zc71 u v) 81 (.int 2)) zu_eq) kV_RL_104 hd_X12_thrown rfl rfl ⟨(Nat.le_of_ble_eq_true rfl), (Nat.le_of_ble_eq_true rfl)⟩ hK hS hZ hPc hDc hF 0 rfl rfl rfl hl.1 rfl (Nat.le_of_ble_eq_true rfl) dL_law_1575 ⟨(Nat.le_of_ble_eq_true rfl), (Nat.le_of_ble_eq_true rfl)⟩) (fun r9 u7 H locs w8 hP hD hS => ?_)
  subst w8
  have hP : va_P K.1 classes [(qo, zJ K 1 (fun _ => 0)), (qm, zO 10 83 (va_up (zc71 u v) 81 (.int 2)))] H := hP
  have hD : va_D A [(qo, zJ K 1 (fun _ => 0)), (qm, zO 10 83 (va_up (zc71 u v) 81 (.int 2)))] := hD
  refine lv_iload hx hb dL_law_1578 (lv_at hl 1 rfl) ?_
  refine lv_icmp_eq (tgt := 1585) hx hb dL_law_1580 (by decide) (fun _ => ?_) (fun c => absurd (by decide) c)
  refine lv_iload hx hb dL_law_1585 (lv_at hl 1 rfl) ?_
  refine lv_if_ne (tgt := 1602) hx hb dL_law_1587 (by decide) (fun _ => ?_) (fun c => absurd c (by decide))
  refine lv_goto (tgt := 2026) hx hb dL_law_1602 (by decide) ?_
  exact law_back ⟨hx, hb, hr, hml, hown, hg, hX, hbl, hlocks, hK, hZ, hl9, hAA, hA, hbA⟩ (Nat.le_of_ble_eq_true rfl) (Nat.le_of_ble_eq_true rfl) hS (lv_sub hl [2, 6] rfl)
set_option maxHeartbeats 4000000 in
set_option maxRecDepth 100000 in
theorem lawS_19_31 {p : Program} {l : Launch} {e : Env} {s : State} {m : MethodId} {below : List Frame} {meth : Method} {c : Code} {b : Nat} {xs : Nat → Int32} {K : zK} {A : Nat → Prop} {H : Heap} {locs : List Loc} {ls : Array Slot} (C : zC p l s m meth c b xs K A) (qx qm qo : Nat) (u v : Nat → Nat) (h0 : ¬ xs 6 = 0) (h1 : 0 ≤ (xs 5).toInt) (h2 : (xs 5).toInt < 601) (h3 : 0 ≤ (xs 1).toInt) (h4 : (xs 1).toInt < 8) (h5 : 0 ≤ (xs 2).toInt) (h6 : 3 ≤ (xs 2).toInt) (hP : va_P K.1 classes (lwW K qx qm qo u v) H) (hD : va_D A (lwW K qx qm qo u v)) (hS : va_S A s.heap H locs) (hl : lv_has ls 7 [(4, .int 0), (3, .ref qo), (2, .ref qm), (1, .ref qx), (0, .ref b)]) : W p l e room_1 s m #[Value.ref b] below meth c H locs 124 1863516 (lw_Z below #[Value.ref b] s) (F0 m 1471 ls []) := by
  obtain ⟨hx, hb, hr, hml, hown, hg, hX, hbl, hlocks, hK, hZ, hl9, hAA, hA, hbA⟩ := C
  have hP : va_P K.1 classes [(qx, zO 9 9 (zc0 u v)), (qm, zO 10 83 (zc71 u v)), (qo, zJ K 1 (fun _ => 0))] H := hP.sub [0, 71, 123] rfl
  have hD : va_D A [(qx, zO 9 9 (zc0 u v)), (qm, zO 10 83 (zc71 u v)), (qo, zJ K 1 (fun _ => 0))] := hD.sub [0, 71, 123] (by decide +kernel) rfl
  obtain ⟨t1, ht1, v1⟩ : ∃ j : Nat, j < 8 ∧ xs 1 = nI j := z_nat (n := 8) (by omega) (by omega) (by decide)
  refine lv_aload_n hx hb dL_law_1471 rfl (lv_at hl 3 rfl) ?_
  refine lv_aload_n hx hb dL_law_1472 rfl (lv_at hl 4 rfl) ?_
  refine lv_iload hx hb dL_law_1473 (lv_at hl 0 rfl) ?_
  refine lv_iconst (v := 1) hx hb dL_law_1475 (by decide) ?_
  refine lv_iadd hx hb dL_law_1476 ?_
  refine z_cst (v := 1) (by decide +kernel) ?_
  refine z_sld (v := (nI t1)) (j := 1) hx hb hX hbl hbA hS rfl (Nat.le_of_ble_eq_true rfl) v1 dL_law_1477 ?_
  refine lv_aload_n hx hb dL_law_1478 rfl (lv_at hl 4 rfl) ?_
  refine lv_iload hx hb dL_law_1479 (lv_at hl 0 rfl) ?_
  refine lv_iconst (v := 2) hx hb dL_law_1481 (by decide) ?_
  refine lv_iadd hx hb dL_law_1482 ?_
  refine z_cst (v := 2) (by decide +kernel) ?_
  refine z_sld (v := (xs 2)) (j := 2) hx hb hX hbl hbA hS rfl (Nat.le_of_ble_eq_true rfl) rfl dL_law_1483 ?_
  refine lv_aload_n hx hb dL_law_1484 rfl (lv_at hl 4 rfl) ?_
  refine lv_iload hx hb dL_law_1485 (lv_at hl 0 rfl) ?_
  refine lv_iconst (v := 3) hx hb dL_law_1487 (by decide) ?_
  refine lv_iadd hx hb dL_law_1488 ?_
  refine z_cst (v := 3) (by decide +kernel) ?_
  refine z_sld (v := (xs 3)) (j := 3) hx hb hX hbl hbA hS rfl (Nat.le_of_ble_eq_true rfl) rfl dL_law_1489 ?_
  refine lv_aload_n hx hb dL_law_1490 rfl (lv_at hl 4 rfl) ?_
  refine lv_iload hx hb dL_law_1491 (lv_at hl 0 rfl) ?_
  refine lv_iconst (v := 4) hx hb dL_law_1493 (by decide) ?_
  refine lv_iadd hx hb dL_law_1494 ?_
  refine z_cst (v := 4) (by decide +kernel) ?_
  refine z_sld (v := (xs 4)) (j := 4) hx hb hX hbl hbA hS rfl (Nat.le_of_ble_eq_true rfl) rfl dL_law_1495 ?_
  refine lv_aload_n hx hb dL_law_1496 rfl (lv_at hl 4 rfl) ?_
  refine lv_iload hx hb dL_law_1497 (lv_at hl 0 rfl) ?_
  refine lv_iconst (v := 5) hx hb dL_law_1499 (by decide) ?_
  refine lv_iadd hx hb dL_law_1500 ?_
  refine z_cst (v := 5) (by decide +kernel) ?_
  refine z_sld (v := (xs 5)) (j := 5) hx hb hX hbl hbA hS rfl (Nat.le_of_ble_eq_true rfl) rfl dL_law_1501 ?_
  refine lv_aload_n hx hb dL_law_1502 rfl (lv_at hl 4 rfl) ?_
  refine lv_iload hx hb dL_law_1503 (lv_at hl 0 rfl) ?_
  refine lv_bipush (v := 6) hx hb dL_law_1505 (by decide) ?_
  refine lv_iadd hx hb dL_law_1507 ?_
  refine z_cst (v := 6) (by decide +kernel) ?_
  refine z_sld (v := (xs 6)) (j := 6) hx hb hX hbl hbA hS rfl (Nat.le_of_ble_eq_true rfl) rfl dL_law_1508 ?_
  refine lv_if_eq (tgt := 1516) hx hb dL_law_1509 (by decide) (fun c => absurd c h0) (fun _ => ?_)
  refine lv_iconst (v := 1) hx hb dL_law_1512 (by decide) ?_
  refine lv_goto (tgt := 1517) hx hb dL_law_1513 (by decide) ?_
  refine lv_aload_n hx hb dL_law_1517 rfl (lv_at hl 1 rfl) ?_
  refine z_hcalli [(qx, zO 9 9 (zc0 u v))] [(qm, zO 10 83 (zc71 u v)), (qo, zJ K 1 (fun _ => 0))] [0] [1, 2] hP hD hS hA rfl rfl (by decide +kernel) (by decide +kernel) (by decide +kernel) 125 1863522 rfl rfl (fun hPc hDc hF => z_xrunH (As := [.ref qx, .int (nI t1), .int (xs 2), .int (xs 3), .int (xs 4), .int (xs 5), .int 1, .ref qo]) (rest := []) ⟨hx, hb, hml, hown, hg⟩ (cL_run_28 l hl9 K H.size qx qo (zc0 u v) t1 ht1 (xs 2) (xs 3) (xs 4) (xs 5) (by rw [Int32.lt_iff_toInt_lt, show (0 : Int32).toInt = 0 from by decide]; omega) (by rw [Int32.lt_iff_toInt_lt, show (601 : Int32).toInt = 601 from by decide]; omega) (by rw [Int32.lt_iff_toInt_lt, show (0 : Int32).toInt = 0 from by decide]; omega) (by rw [Int32.lt_iff_toInt_lt, show (3 : Int32).toInt = 3 from by decide]; omega)) kS_RL_166 hd_L_run rfl rfl ⟨(Nat.le_of_ble_eq_true rfl), (Nat.le_of_ble_eq_true rfl)⟩ hK hS hZ hPc hDc hF rfl hl.1 rfl (Nat.le_of_ble_eq_true rfl) dL_law_1518 ⟨(Nat.le_of_ble_eq_true rfl), (Nat.le_of_ble_eq_true rfl)⟩) (fun r3 u1 H locs w2 hP hD hS => ?_)
  subst w2
  have hP : va_P K.1 classes [(qm, zO 10 83 (zc71 u v)), (qo, zJ K 1 (fun _ => 0))] H := hP
  have hD : va_D A [(qm, zO 10 83 (zc71 u v)), (qo, zJ K 1 (fun _ => 0))] := hD
  refine lv_istore (lv' := [(5, .int 1), (4, .int 0), (3, .ref qo), (2, .ref qm), (1, .ref qx), (0, .ref b)]) hx hb dL_law_1521 hl (by decide) rfl (fun ls hl => ?_)
  refine lv_aload_n hx hb dL_law_1523 rfl (lv_at hl 3 rfl) ?_
  refine lv_aload_n hx hb dL_law_1524 rfl (lv_at hl 5 rfl) ?_
  refine lv_iload hx hb dL_law_1525 (lv_at hl 1 rfl) ?_
  refine lv_iconst (v := 1) hx hb dL_law_1527 (by decide) ?_
  refine lv_iadd hx hb dL_law_1528 ?_
  refine z_cst (v := 1) (by decide +kernel) ?_
  refine z_sld (v := (nI t1)) (j := 1) hx hb hX hbl hbA hS rfl (Nat.le_of_ble_eq_true rfl) v1 dL_law_1529 ?_
  refine lv_aload_n hx hb dL_law_1530 rfl (lv_at hl 5 rfl) ?_
  refine lv_iload hx hb dL_law_1531 (lv_at hl 1 rfl) ?_
  refine lv_iconst (v := 2) hx hb dL_law_1533 (by decide) ?_
  refine lv_iadd hx hb dL_law_1534 ?_
  refine z_cst (v := 2) (by decide +kernel) ?_
  refine z_sld (v := (xs 2)) (j := 2) hx hb hX hbl hbA hS rfl (Nat.le_of_ble_eq_true rfl) rfl dL_law_1535 ?_
  refine lv_aload_n hx hb dL_law_1536 rfl (lv_at hl 5 rfl) ?_
  refine lv_iload hx hb dL_law_1537 (lv_at hl 1 rfl) ?_
  refine lv_iconst (v := 3) hx hb dL_law_1539 (by decide) ?_
  refine lv_iadd hx hb dL_law_1540 ?_
  refine z_cst (v := 3) (by decide +kernel) ?_
  refine z_sld (v := (xs 3)) (j := 3) hx hb hX hbl hbA hS rfl (Nat.le_of_ble_eq_true rfl) rfl dL_law_1541 ?_
  refine lv_aload_n hx hb dL_law_1542 rfl (lv_at hl 5 rfl) ?_
  refine lv_iload hx hb dL_law_1543 (lv_at hl 1 rfl) ?_
  refine lv_iconst (v := 4) hx hb dL_law_1545 (by decide) ?_
  refine lv_iadd hx hb dL_law_1546 ?_
  refine z_cst (v := 4) (by decide +kernel) ?_
  refine z_sld (v := (xs 4)) (j := 4) hx hb hX hbl hbA hS rfl (Nat.le_of_ble_eq_true rfl) rfl dL_law_1547 ?_
  refine lv_aload_n hx hb dL_law_1548 rfl (lv_at hl 5 rfl) ?_
  refine lv_iload hx hb dL_law_1549 (lv_at hl 1 rfl) ?_
  refine lv_iconst (v := 5) hx hb dL_law_1551 (by decide) ?_
  refine lv_iadd hx hb dL_law_1552 ?_
  refine z_cst (v := 5) (by decide +kernel) ?_
  refine z_sld (v := (xs 5)) (j := 5) hx hb hX hbl hbA hS rfl (Nat.le_of_ble_eq_true rfl) rfl dL_law_1553 ?_
  refine lv_aload_n hx hb dL_law_1554 rfl (lv_at hl 5 rfl) ?_
  refine lv_iload hx hb dL_law_1555 (lv_at hl 1 rfl) ?_
  refine lv_bipush (v := 6) hx hb dL_law_1557 (by decide) ?_
  refine lv_iadd hx hb dL_law_1559 ?_
  refine z_cst (v := 6) (by decide +kernel) ?_
  refine z_sld (v := (xs 6)) (j := 6) hx hb hX hbl hbA hS rfl (Nat.le_of_ble_eq_true rfl) rfl dL_law_1560 ?_
  refine lv_if_eq (tgt := 1568) hx hb dL_law_1561 (by decide) (fun c => absurd c h0) (fun _ => ?_)
  refine lv_iconst (v := 1) hx hb dL_law_1564 (by decide) ?_
  refine lv_goto (tgt := 1569) hx hb dL_law_1565 (by decide) ?_
  refine z_calli [(qm, zO 10 83 (zc71 u v))] [(qo, zJ K 1 (fun _ => 0))] [0] [1] hP hD hS hA rfl rfl (by decide +kernel) (by decide +kernel) (by decide +kernel) 125 1863522 rfl rfl (fun hPc hDc hF => z_runV (As := [.int (nI t1), .int (xs 2), .int (xs 3), .int (xs 4), .int (xs 5), .int 1]) (rest := []) ⟨hx, hb, hml, hown, hg⟩ (cX12_run_32 l K H.size qm (zc71 u v) t1 ht1 (xs 2) (xs 3) (xs 4) (xs 5) (by rw [Int32.lt_iff_toInt_lt, show (0 : Int32).toInt = 0 from by decide]; omega) (by rw [Int32.lt_iff_toInt_lt, show (600 : Int32).toInt = 600 from by decide]; omega) (by rw [Int32.lt_iff_toInt_lt, show (0 : Int32).toInt = 0 from by decide]; omega) (by rw [Int32.lt_iff_toInt_lt, show (2 : Int32).toInt = 2 from by decide]; omega)) kV_RL_169 hd_X12_run rfl rfl ⟨(Nat.le_of_ble_eq_true rfl), (Nat.le_of_ble_eq_true rfl)⟩ hK hS hZ hPc hDc hF 0 rfl rfl rfl hl.1 rfl (Nat.le_of_ble_eq_true rfl) dL_law_1569 ⟨(Nat.le_of_ble_eq_true rfl), (Nat.le_of_ble_eq_true rfl)⟩) (fun r6 u4 H locs w5 hP hD hS => ?_)
  subst w5
  have hP : va_P K.1 classes [(qo, zJ K 1 (fun _ => 0)), (qm, zO 10 83 (va_up (zc71 u v) 81 (.int 1)))] H := hP
  have hD : va_D A [(qo, zJ K 1 (fun _ => 0)), (qm, zO 10 83 (va_up (zc71 u v) 81 (.int 1)))] := hD
  refine lv_istore (lv' := [(6, .int 0), (5, .int 1), (4, .int 0), (3, .ref qo), (2, .ref qm), (1, .ref qx), (0, .ref b)]) hx hb dL_law_1572 hl (by decide) rfl (fun ls hl => ?_)
  refine lv_aload_n hx hb dL_law_1574 rfl (lv_at hl 4 rfl) ?_
  refine z_calli [(qm, zO 10 83 (va_up (zc71 u v) 81 (.int 1)))] [(qo, zJ K 1 (fun _ => 0))] [1] [0] hP hD hS hA rfl rfl (by decide +kernel) (by decide +kernel) (by decide +kernel) 125 1863522 rfl rfl (fun hPc hDc hF => z_runV (As := []) (rest := []) ⟨hx, hb, hml, hown, hg⟩ (cX12_thrown_2 l K H.size qm (va_up (zc71 u v) 81 (.int 1)) zu_eq) kV_RL_104 hd_X12_thrown rfl rfl ⟨(Nat.le_of_ble_eq_true rfl), (Nat.le_of_ble_eq_true rfl)⟩ hK hS hZ hPc hDc hF 0 rfl rfl rfl hl.1 rfl (Nat.le_of_ble_eq_true rfl) dL_law_1575 ⟨(Nat.le_of_ble_eq_true rfl), (Nat.le_of_ble_eq_true rfl)⟩) (fun r9 u7 H locs w8 hP hD hS => ?_)
  subst w8
  have hP : va_P K.1 classes [(qo, zJ K 1 (fun _ => 0)), (qm, zO 10 83 (va_up (zc71 u v) 81 (.int 1)))] H := hP
  have hD : va_D A [(qo, zJ K 1 (fun _ => 0)), (qm, zO 10 83 (va_up (zc71 u v) 81 (.int 1)))] := hD
  refine lv_iload hx hb dL_law_1578 (lv_at hl 1 rfl) ?_
  refine lv_icmp_eq (tgt := 1585) hx hb dL_law_1580 (by decide) (fun _ => ?_) (fun c => absurd (by decide) c)
  refine lv_iload hx hb dL_law_1585 (lv_at hl 1 rfl) ?_
  refine lv_if_ne (tgt := 1602) hx hb dL_law_1587 (by decide) (fun _ => ?_) (fun c => absurd c (by decide))
  refine lv_goto (tgt := 2026) hx hb dL_law_1602 (by decide) ?_
  exact law_back ⟨hx, hb, hr, hml, hown, hg, hX, hbl, hlocks, hK, hZ, hl9, hAA, hA, hbA⟩ (Nat.le_of_ble_eq_true rfl) (Nat.le_of_ble_eq_true rfl) hS (lv_sub hl [2, 6] rfl)
set_option maxHeartbeats 4000000 in
set_option maxRecDepth 100000 in
theorem lawS_19_32 {p : Program} {l : Launch} {e : Env} {s : State} {m : MethodId} {below : List Frame} {meth : Method} {c : Code} {b : Nat} {xs : Nat → Int32} {K : zK} {A : Nat → Prop} {H : Heap} {locs : List Loc} {ls : Array Slot} (C : zC p l s m meth c b xs K A) (qx qm qo : Nat) (u v : Nat → Nat) (h0 : ¬ xs 6 = 0) (h1 : 0 ≤ (xs 5).toInt) (h2 : (xs 5).toInt < 601) (h3 : 0 ≤ (xs 1).toInt) (h4 : 8 ≤ (xs 1).toInt) (hP : va_P K.1 classes (lwW K qx qm qo u v) H) (hD : va_D A (lwW K qx qm qo u v)) (hS : va_S A s.heap H locs) (hl : lv_has ls 7 [(4, .int 0), (3, .ref qo), (2, .ref qm), (1, .ref qx), (0, .ref b)]) : W p l e room_1 s m #[Value.ref b] below meth c H locs 124 1863516 (lw_Z below #[Value.ref b] s) (F0 m 1471 ls []) := by
  obtain ⟨hx, hb, hr, hml, hown, hg, hX, hbl, hlocks, hK, hZ, hl9, hAA, hA, hbA⟩ := C
  have hP : va_P K.1 classes [(qx, zO 9 9 (zc0 u v)), (qm, zO 10 83 (zc71 u v)), (qo, zJ K 1 (fun _ => 0))] H := hP.sub [0, 71, 123] rfl
  have hD : va_D A [(qx, zO 9 9 (zc0 u v)), (qm, zO 10 83 (zc71 u v)), (qo, zJ K 1 (fun _ => 0))] := hD.sub [0, 71, 123] (by decide +kernel) rfl
  refine lv_aload_n hx hb dL_law_1471 rfl (lv_at hl 3 rfl) ?_
  refine lv_aload_n hx hb dL_law_1472 rfl (lv_at hl 4 rfl) ?_
  refine lv_iload hx hb dL_law_1473 (lv_at hl 0 rfl) ?_
  refine lv_iconst (v := 1) hx hb dL_law_1475 (by decide) ?_
  refine lv_iadd hx hb dL_law_1476 ?_
  refine z_cst (v := 1) (by decide +kernel) ?_
  refine z_sld (v := (xs 1)) (j := 1) hx hb hX hbl hbA hS rfl (Nat.le_of_ble_eq_true rfl) rfl dL_law_1477 ?_
  refine lv_aload_n hx hb dL_law_1478 rfl (lv_at hl 4 rfl) ?_
  refine lv_iload hx hb dL_law_1479 (lv_at hl 0 rfl) ?_
  refine lv_iconst (v := 2) hx hb dL_law_1481 (by decide) ?_
  refine lv_iadd hx hb dL_law_1482 ?_
  refine z_cst (v := 2) (by decide +kernel) ?_
  refine z_sld (v := (xs 2)) (j := 2) hx hb hX hbl hbA hS rfl (Nat.le_of_ble_eq_true rfl) rfl dL_law_1483 ?_
  refine lv_aload_n hx hb dL_law_1484 rfl (lv_at hl 4 rfl) ?_
  refine lv_iload hx hb dL_law_1485 (lv_at hl 0 rfl) ?_
  refine lv_iconst (v := 3) hx hb dL_law_1487 (by decide) ?_
  refine lv_iadd hx hb dL_law_1488 ?_
  refine z_cst (v := 3) (by decide +kernel) ?_
  refine z_sld (v := (xs 3)) (j := 3) hx hb hX hbl hbA hS rfl (Nat.le_of_ble_eq_true rfl) rfl dL_law_1489 ?_
  refine lv_aload_n hx hb dL_law_1490 rfl (lv_at hl 4 rfl) ?_
  refine lv_iload hx hb dL_law_1491 (lv_at hl 0 rfl) ?_
  refine lv_iconst (v := 4) hx hb dL_law_1493 (by decide) ?_
  refine lv_iadd hx hb dL_law_1494 ?_
  refine z_cst (v := 4) (by decide +kernel) ?_
  refine z_sld (v := (xs 4)) (j := 4) hx hb hX hbl hbA hS rfl (Nat.le_of_ble_eq_true rfl) rfl dL_law_1495 ?_
  refine lv_aload_n hx hb dL_law_1496 rfl (lv_at hl 4 rfl) ?_
  refine lv_iload hx hb dL_law_1497 (lv_at hl 0 rfl) ?_
  refine lv_iconst (v := 5) hx hb dL_law_1499 (by decide) ?_
  refine lv_iadd hx hb dL_law_1500 ?_
  refine z_cst (v := 5) (by decide +kernel) ?_
  refine z_sld (v := (xs 5)) (j := 5) hx hb hX hbl hbA hS rfl (Nat.le_of_ble_eq_true rfl) rfl dL_law_1501 ?_
  refine lv_aload_n hx hb dL_law_1502 rfl (lv_at hl 4 rfl) ?_
  refine lv_iload hx hb dL_law_1503 (lv_at hl 0 rfl) ?_
  refine lv_bipush (v := 6) hx hb dL_law_1505 (by decide) ?_
  refine lv_iadd hx hb dL_law_1507 ?_
  refine z_cst (v := 6) (by decide +kernel) ?_
  refine z_sld (v := (xs 6)) (j := 6) hx hb hX hbl hbA hS rfl (Nat.le_of_ble_eq_true rfl) rfl dL_law_1508 ?_
  refine lv_if_eq (tgt := 1516) hx hb dL_law_1509 (by decide) (fun c => absurd c h0) (fun _ => ?_)
  refine lv_iconst (v := 1) hx hb dL_law_1512 (by decide) ?_
  refine lv_goto (tgt := 1517) hx hb dL_law_1513 (by decide) ?_
  refine lv_aload_n hx hb dL_law_1517 rfl (lv_at hl 1 rfl) ?_
  refine z_hcalli [(qx, zO 9 9 (zc0 u v))] [(qm, zO 10 83 (zc71 u v)), (qo, zJ K 1 (fun _ => 0))] [0] [1, 2] hP hD hS hA rfl rfl (by decide +kernel) (by decide +kernel) (by decide +kernel) 125 1863522 rfl rfl (fun hPc hDc hF => z_xrunH (As := [.ref qx, .int (xs 1), .int (xs 2), .int (xs 3), .int (xs 4), .int (xs 5), .int 1, .ref qo]) (rest := []) ⟨hx, hb, hml, hown, hg⟩ (cL_run_29 l hl9 K H.size qx qo (zc0 u v) (xs 1) (xs 2) (xs 3) (xs 4) (xs 5) (by rw [Int32.lt_iff_toInt_lt, show (0 : Int32).toInt = 0 from by decide]; omega) (by rw [Int32.lt_iff_toInt_lt, show (601 : Int32).toInt = 601 from by decide]; omega) (by rw [Int32.lt_iff_toInt_lt, show (0 : Int32).toInt = 0 from by decide]; omega) (by rw [Int32.lt_iff_toInt_lt, show (8 : Int32).toInt = 8 from by decide]; omega)) kS_RL_166 hd_L_run rfl rfl ⟨(Nat.le_of_ble_eq_true rfl), (Nat.le_of_ble_eq_true rfl)⟩ hK hS hZ hPc hDc hF rfl hl.1 rfl (Nat.le_of_ble_eq_true rfl) dL_law_1518 ⟨(Nat.le_of_ble_eq_true rfl), (Nat.le_of_ble_eq_true rfl)⟩) (fun r3 u1 H locs w2 hP hD hS => ?_)
  subst w2
  have hP : va_P K.1 classes [(qm, zO 10 83 (zc71 u v)), (qo, zJ K 1 (fun _ => 0))] H := hP
  have hD : va_D A [(qm, zO 10 83 (zc71 u v)), (qo, zJ K 1 (fun _ => 0))] := hD
  refine lv_istore (lv' := [(5, .int 1), (4, .int 0), (3, .ref qo), (2, .ref qm), (1, .ref qx), (0, .ref b)]) hx hb dL_law_1521 hl (by decide) rfl (fun ls hl => ?_)
  refine lv_aload_n hx hb dL_law_1523 rfl (lv_at hl 3 rfl) ?_
  refine lv_aload_n hx hb dL_law_1524 rfl (lv_at hl 5 rfl) ?_
  refine lv_iload hx hb dL_law_1525 (lv_at hl 1 rfl) ?_
  refine lv_iconst (v := 1) hx hb dL_law_1527 (by decide) ?_
  refine lv_iadd hx hb dL_law_1528 ?_
  refine z_cst (v := 1) (by decide +kernel) ?_
  refine z_sld (v := (xs 1)) (j := 1) hx hb hX hbl hbA hS rfl (Nat.le_of_ble_eq_true rfl) rfl dL_law_1529 ?_
  refine lv_aload_n hx hb dL_law_1530 rfl (lv_at hl 5 rfl) ?_
  refine lv_iload hx hb dL_law_1531 (lv_at hl 1 rfl) ?_
  refine lv_iconst (v := 2) hx hb dL_law_1533 (by decide) ?_
  refine lv_iadd hx hb dL_law_1534 ?_
  refine z_cst (v := 2) (by decide +kernel) ?_
  refine z_sld (v := (xs 2)) (j := 2) hx hb hX hbl hbA hS rfl (Nat.le_of_ble_eq_true rfl) rfl dL_law_1535 ?_
  refine lv_aload_n hx hb dL_law_1536 rfl (lv_at hl 5 rfl) ?_
  refine lv_iload hx hb dL_law_1537 (lv_at hl 1 rfl) ?_
  refine lv_iconst (v := 3) hx hb dL_law_1539 (by decide) ?_
  refine lv_iadd hx hb dL_law_1540 ?_
  refine z_cst (v := 3) (by decide +kernel) ?_
  refine z_sld (v := (xs 3)) (j := 3) hx hb hX hbl hbA hS rfl (Nat.le_of_ble_eq_true rfl) rfl dL_law_1541 ?_
  refine lv_aload_n hx hb dL_law_1542 rfl (lv_at hl 5 rfl) ?_
  refine lv_iload hx hb dL_law_1543 (lv_at hl 1 rfl) ?_
  refine lv_iconst (v := 4) hx hb dL_law_1545 (by decide) ?_
  refine lv_iadd hx hb dL_law_1546 ?_
  refine z_cst (v := 4) (by decide +kernel) ?_
  refine z_sld (v := (xs 4)) (j := 4) hx hb hX hbl hbA hS rfl (Nat.le_of_ble_eq_true rfl) rfl dL_law_1547 ?_
  refine lv_aload_n hx hb dL_law_1548 rfl (lv_at hl 5 rfl) ?_
  refine lv_iload hx hb dL_law_1549 (lv_at hl 1 rfl) ?_
  refine lv_iconst (v := 5) hx hb dL_law_1551 (by decide) ?_
  refine lv_iadd hx hb dL_law_1552 ?_
  refine z_cst (v := 5) (by decide +kernel) ?_
  refine z_sld (v := (xs 5)) (j := 5) hx hb hX hbl hbA hS rfl (Nat.le_of_ble_eq_true rfl) rfl dL_law_1553 ?_
  refine lv_aload_n hx hb dL_law_1554 rfl (lv_at hl 5 rfl) ?_
  refine lv_iload hx hb dL_law_1555 (lv_at hl 1 rfl) ?_
  refine lv_bipush (v := 6) hx hb dL_law_1557 (by decide) ?_
  refine lv_iadd hx hb dL_law_1559 ?_
  refine z_cst (v := 6) (by decide +kernel) ?_
  refine z_sld (v := (xs 6)) (j := 6) hx hb hX hbl hbA hS rfl (Nat.le_of_ble_eq_true rfl) rfl dL_law_1560 ?_
  refine lv_if_eq (tgt := 1568) hx hb dL_law_1561 (by decide) (fun c => absurd c h0) (fun _ => ?_)
  refine lv_iconst (v := 1) hx hb dL_law_1564 (by decide) ?_
  refine lv_goto (tgt := 1569) hx hb dL_law_1565 (by decide) ?_
  refine z_calli [(qm, zO 10 83 (zc71 u v))] [(qo, zJ K 1 (fun _ => 0))] [0] [1] hP hD hS hA rfl rfl (by decide +kernel) (by decide +kernel) (by decide +kernel) 125 1863522 rfl rfl (fun hPc hDc hF => z_runV (As := [.int (xs 1), .int (xs 2), .int (xs 3), .int (xs 4), .int (xs 5), .int 1]) (rest := []) ⟨hx, hb, hml, hown, hg⟩ (cX12_run_33 l K H.size qm (zc71 u v) (xs 1) (xs 2) (xs 3) (xs 4) (xs 5) (by rw [Int32.lt_iff_toInt_lt, show (0 : Int32).toInt = 0 from by decide]; omega) (by rw [Int32.lt_iff_toInt_lt, show (600 : Int32).toInt = 600 from by decide]; omega) (by rw [Int32.lt_iff_toInt_lt, show (0 : Int32).toInt = 0 from by decide]; omega) (by rw [Int32.lt_iff_toInt_lt, show (7 : Int32).toInt = 7 from by decide]; omega)) kV_RL_169 hd_X12_run rfl rfl ⟨(Nat.le_of_ble_eq_true rfl), (Nat.le_of_ble_eq_true rfl)⟩ hK hS hZ hPc hDc hF 0 rfl rfl rfl hl.1 rfl (Nat.le_of_ble_eq_true rfl) dL_law_1569 ⟨(Nat.le_of_ble_eq_true rfl), (Nat.le_of_ble_eq_true rfl)⟩) (fun r6 u4 H locs w5 hP hD hS => ?_)
  subst w5
  have hP : va_P K.1 classes [(qo, zJ K 1 (fun _ => 0)), (qm, zO 10 83 (va_up (zc71 u v) 81 (.int 1)))] H := hP
  have hD : va_D A [(qo, zJ K 1 (fun _ => 0)), (qm, zO 10 83 (va_up (zc71 u v) 81 (.int 1)))] := hD
  refine lv_istore (lv' := [(6, .int 0), (5, .int 1), (4, .int 0), (3, .ref qo), (2, .ref qm), (1, .ref qx), (0, .ref b)]) hx hb dL_law_1572 hl (by decide) rfl (fun ls hl => ?_)
  refine lv_aload_n hx hb dL_law_1574 rfl (lv_at hl 4 rfl) ?_
  refine z_calli [(qm, zO 10 83 (va_up (zc71 u v) 81 (.int 1)))] [(qo, zJ K 1 (fun _ => 0))] [1] [0] hP hD hS hA rfl rfl (by decide +kernel) (by decide +kernel) (by decide +kernel) 125 1863522 rfl rfl (fun hPc hDc hF => z_runV (As := []) (rest := []) ⟨hx, hb, hml, hown, hg⟩ (cX12_thrown_2 l K H.size qm (va_up (zc71 u v) 81 (.int 1)) zu_eq) kV_RL_104 hd_X12_thrown rfl rfl ⟨(Nat.le_of_ble_eq_true rfl), (Nat.le_of_ble_eq_true rfl)⟩ hK hS hZ hPc hDc hF 0 rfl rfl rfl hl.1 rfl (Nat.le_of_ble_eq_true rfl) dL_law_1575 ⟨(Nat.le_of_ble_eq_true rfl), (Nat.le_of_ble_eq_true rfl)⟩) (fun r9 u7 H locs w8 hP hD hS => ?_)
  subst w8
  have hP : va_P K.1 classes [(qo, zJ K 1 (fun _ => 0)), (qm, zO 10 83 (va_up (zc71 u v) 81 (.int 1)))] H := hP
  have hD : va_D A [(qo, zJ K 1 (fun _ => 0)), (qm, zO 10 83 (va_up (zc71 u v) 81 (.int 1)))] := hD
  refine lv_iload hx hb dL_law_1578 (lv_at hl 1 rfl) ?_
  refine lv_icmp_eq (tgt := 1585) hx hb dL_law_1580 (by decide) (fun _ => ?_) (fun c => absurd (by decide) c)
  refine lv_iload hx hb dL_law_1585 (lv_at hl 1 rfl) ?_
  refine lv_if_ne (tgt := 1602) hx hb dL_law_1587 (by decide) (fun _ => ?_) (fun c => absurd c (by decide))
  refine lv_goto (tgt := 2026) hx hb dL_law_1602 (by decide) ?_
  exact law_back ⟨hx, hb, hr, hml, hown, hg, hX, hbl, hlocks, hK, hZ, hl9, hAA, hA, hbA⟩ (Nat.le_of_ble_eq_true rfl) (Nat.le_of_ble_eq_true rfl) hS (lv_sub hl [2, 6] rfl)
set_option maxHeartbeats 4000000 in
set_option maxRecDepth 100000 in
theorem lawS_19_33 {p : Program} {l : Launch} {e : Env} {s : State} {m : MethodId} {below : List Frame} {meth : Method} {c : Code} {b : Nat} {xs : Nat → Int32} {K : zK} {A : Nat → Prop} {H : Heap} {locs : List Loc} {ls : Array Slot} (C : zC p l s m meth c b xs K A) (qx qm qo : Nat) (u v : Nat → Nat) (h0 : ¬ xs 6 = 0) (h1 : 0 ≤ (xs 5).toInt) (h2 : 601 ≤ (xs 5).toInt) (h3 : (xs 1).toInt < 0) (hP : va_P K.1 classes (lwW K qx qm qo u v) H) (hD : va_D A (lwW K qx qm qo u v)) (hS : va_S A s.heap H locs) (hl : lv_has ls 7 [(4, .int 0), (3, .ref qo), (2, .ref qm), (1, .ref qx), (0, .ref b)]) : W p l e room_1 s m #[Value.ref b] below meth c H locs 124 1863516 (lw_Z below #[Value.ref b] s) (F0 m 1471 ls []) := by
  obtain ⟨hx, hb, hr, hml, hown, hg, hX, hbl, hlocks, hK, hZ, hl9, hAA, hA, hbA⟩ := C
  have hP : va_P K.1 classes [(qx, zO 9 9 (zc0 u v)), (qm, zO 10 83 (zc71 u v)), (qo, zJ K 1 (fun _ => 0))] H := hP.sub [0, 71, 123] rfl
  have hD : va_D A [(qx, zO 9 9 (zc0 u v)), (qm, zO 10 83 (zc71 u v)), (qo, zJ K 1 (fun _ => 0))] := hD.sub [0, 71, 123] (by decide +kernel) rfl
  refine lv_aload_n hx hb dL_law_1471 rfl (lv_at hl 3 rfl) ?_
  refine lv_aload_n hx hb dL_law_1472 rfl (lv_at hl 4 rfl) ?_
  refine lv_iload hx hb dL_law_1473 (lv_at hl 0 rfl) ?_
  refine lv_iconst (v := 1) hx hb dL_law_1475 (by decide) ?_
  refine lv_iadd hx hb dL_law_1476 ?_
  refine z_cst (v := 1) (by decide +kernel) ?_
  refine z_sld (v := (xs 1)) (j := 1) hx hb hX hbl hbA hS rfl (Nat.le_of_ble_eq_true rfl) rfl dL_law_1477 ?_
  refine lv_aload_n hx hb dL_law_1478 rfl (lv_at hl 4 rfl) ?_
  refine lv_iload hx hb dL_law_1479 (lv_at hl 0 rfl) ?_
  refine lv_iconst (v := 2) hx hb dL_law_1481 (by decide) ?_
  refine lv_iadd hx hb dL_law_1482 ?_
  refine z_cst (v := 2) (by decide +kernel) ?_
  refine z_sld (v := (xs 2)) (j := 2) hx hb hX hbl hbA hS rfl (Nat.le_of_ble_eq_true rfl) rfl dL_law_1483 ?_
  refine lv_aload_n hx hb dL_law_1484 rfl (lv_at hl 4 rfl) ?_
  refine lv_iload hx hb dL_law_1485 (lv_at hl 0 rfl) ?_
  refine lv_iconst (v := 3) hx hb dL_law_1487 (by decide) ?_
  refine lv_iadd hx hb dL_law_1488 ?_
  refine z_cst (v := 3) (by decide +kernel) ?_
  refine z_sld (v := (xs 3)) (j := 3) hx hb hX hbl hbA hS rfl (Nat.le_of_ble_eq_true rfl) rfl dL_law_1489 ?_
  refine lv_aload_n hx hb dL_law_1490 rfl (lv_at hl 4 rfl) ?_
  refine lv_iload hx hb dL_law_1491 (lv_at hl 0 rfl) ?_
  refine lv_iconst (v := 4) hx hb dL_law_1493 (by decide) ?_
  refine lv_iadd hx hb dL_law_1494 ?_
  refine z_cst (v := 4) (by decide +kernel) ?_
  refine z_sld (v := (xs 4)) (j := 4) hx hb hX hbl hbA hS rfl (Nat.le_of_ble_eq_true rfl) rfl dL_law_1495 ?_
  refine lv_aload_n hx hb dL_law_1496 rfl (lv_at hl 4 rfl) ?_
  refine lv_iload hx hb dL_law_1497 (lv_at hl 0 rfl) ?_
  refine lv_iconst (v := 5) hx hb dL_law_1499 (by decide) ?_
  refine lv_iadd hx hb dL_law_1500 ?_
  refine z_cst (v := 5) (by decide +kernel) ?_
  refine z_sld (v := (xs 5)) (j := 5) hx hb hX hbl hbA hS rfl (Nat.le_of_ble_eq_true rfl) rfl dL_law_1501 ?_
  refine lv_aload_n hx hb dL_law_1502 rfl (lv_at hl 4 rfl) ?_
  refine lv_iload hx hb dL_law_1503 (lv_at hl 0 rfl) ?_
  refine lv_bipush (v := 6) hx hb dL_law_1505 (by decide) ?_
  refine lv_iadd hx hb dL_law_1507 ?_
  refine z_cst (v := 6) (by decide +kernel) ?_
  refine z_sld (v := (xs 6)) (j := 6) hx hb hX hbl hbA hS rfl (Nat.le_of_ble_eq_true rfl) rfl dL_law_1508 ?_
  refine lv_if_eq (tgt := 1516) hx hb dL_law_1509 (by decide) (fun c => absurd c h0) (fun _ => ?_)
  refine lv_iconst (v := 1) hx hb dL_law_1512 (by decide) ?_
  refine lv_goto (tgt := 1517) hx hb dL_law_1513 (by decide) ?_
  refine lv_aload_n hx hb dL_law_1517 rfl (lv_at hl 1 rfl) ?_
  refine z_hcalli [(qx, zO 9 9 (zc0 u v))] [(qm, zO 10 83 (zc71 u v)), (qo, zJ K 1 (fun _ => 0))] [0] [1, 2] hP hD hS hA rfl rfl (by decide +kernel) (by decide +kernel) (by decide +kernel) 125 1863522 rfl rfl (fun hPc hDc hF => z_xrunH (As := [.ref qx, .int (xs 1), .int (xs 2), .int (xs 3), .int (xs 4), .int (xs 5), .int 1, .ref qo]) (rest := []) ⟨hx, hb, hml, hown, hg⟩ (cL_run_30 l hl9 K H.size qx qo (zc0 u v) (xs 1) (xs 2) (xs 3) (xs 4) (xs 5) (by rw [Int32.lt_iff_toInt_lt, show (0 : Int32).toInt = 0 from by decide]; omega) (by rw [Int32.lt_iff_toInt_lt, show (601 : Int32).toInt = 601 from by decide]; omega)) kS_RL_166 hd_L_run rfl rfl ⟨(Nat.le_of_ble_eq_true rfl), (Nat.le_of_ble_eq_true rfl)⟩ hK hS hZ hPc hDc hF rfl hl.1 rfl (Nat.le_of_ble_eq_true rfl) dL_law_1518 ⟨(Nat.le_of_ble_eq_true rfl), (Nat.le_of_ble_eq_true rfl)⟩) (fun r3 u1 H locs w2 hP hD hS => ?_)
  subst w2
  have hP : va_P K.1 classes [(qm, zO 10 83 (zc71 u v)), (qo, zJ K 1 (fun _ => 0))] H := hP
  have hD : va_D A [(qm, zO 10 83 (zc71 u v)), (qo, zJ K 1 (fun _ => 0))] := hD
  refine lv_istore (lv' := [(5, .int 1), (4, .int 0), (3, .ref qo), (2, .ref qm), (1, .ref qx), (0, .ref b)]) hx hb dL_law_1521 hl (by decide) rfl (fun ls hl => ?_)
  refine lv_aload_n hx hb dL_law_1523 rfl (lv_at hl 3 rfl) ?_
  refine lv_aload_n hx hb dL_law_1524 rfl (lv_at hl 5 rfl) ?_
  refine lv_iload hx hb dL_law_1525 (lv_at hl 1 rfl) ?_
  refine lv_iconst (v := 1) hx hb dL_law_1527 (by decide) ?_
  refine lv_iadd hx hb dL_law_1528 ?_
  refine z_cst (v := 1) (by decide +kernel) ?_
  refine z_sld (v := (xs 1)) (j := 1) hx hb hX hbl hbA hS rfl (Nat.le_of_ble_eq_true rfl) rfl dL_law_1529 ?_
  refine lv_aload_n hx hb dL_law_1530 rfl (lv_at hl 5 rfl) ?_
  refine lv_iload hx hb dL_law_1531 (lv_at hl 1 rfl) ?_
  refine lv_iconst (v := 2) hx hb dL_law_1533 (by decide) ?_
  refine lv_iadd hx hb dL_law_1534 ?_
  refine z_cst (v := 2) (by decide +kernel) ?_
  refine z_sld (v := (xs 2)) (j := 2) hx hb hX hbl hbA hS rfl (Nat.le_of_ble_eq_true rfl) rfl dL_law_1535 ?_
  refine lv_aload_n hx hb dL_law_1536 rfl (lv_at hl 5 rfl) ?_
  refine lv_iload hx hb dL_law_1537 (lv_at hl 1 rfl) ?_
  refine lv_iconst (v := 3) hx hb dL_law_1539 (by decide) ?_
  refine lv_iadd hx hb dL_law_1540 ?_
  refine z_cst (v := 3) (by decide +kernel) ?_
  refine z_sld (v := (xs 3)) (j := 3) hx hb hX hbl hbA hS rfl (Nat.le_of_ble_eq_true rfl) rfl dL_law_1541 ?_
  refine lv_aload_n hx hb dL_law_1542 rfl (lv_at hl 5 rfl) ?_
  refine lv_iload hx hb dL_law_1543 (lv_at hl 1 rfl) ?_
  refine lv_iconst (v := 4) hx hb dL_law_1545 (by decide) ?_
  refine lv_iadd hx hb dL_law_1546 ?_
  refine z_cst (v := 4) (by decide +kernel) ?_
  refine z_sld (v := (xs 4)) (j := 4) hx hb hX hbl hbA hS rfl (Nat.le_of_ble_eq_true rfl) rfl dL_law_1547 ?_
  refine lv_aload_n hx hb dL_law_1548 rfl (lv_at hl 5 rfl) ?_
  refine lv_iload hx hb dL_law_1549 (lv_at hl 1 rfl) ?_
  refine lv_iconst (v := 5) hx hb dL_law_1551 (by decide) ?_
  refine lv_iadd hx hb dL_law_1552 ?_
  refine z_cst (v := 5) (by decide +kernel) ?_
  refine z_sld (v := (xs 5)) (j := 5) hx hb hX hbl hbA hS rfl (Nat.le_of_ble_eq_true rfl) rfl dL_law_1553 ?_
  refine lv_aload_n hx hb dL_law_1554 rfl (lv_at hl 5 rfl) ?_
  refine lv_iload hx hb dL_law_1555 (lv_at hl 1 rfl) ?_
  refine lv_bipush (v := 6) hx hb dL_law_1557 (by decide) ?_
  refine lv_iadd hx hb dL_law_1559 ?_
  refine z_cst (v := 6) (by decide +kernel) ?_
  refine z_sld (v := (xs 6)) (j := 6) hx hb hX hbl hbA hS rfl (Nat.le_of_ble_eq_true rfl) rfl dL_law_1560 ?_
  refine lv_if_eq (tgt := 1568) hx hb dL_law_1561 (by decide) (fun c => absurd c h0) (fun _ => ?_)
  refine lv_iconst (v := 1) hx hb dL_law_1564 (by decide) ?_
  refine lv_goto (tgt := 1569) hx hb dL_law_1565 (by decide) ?_
  refine z_calli [(qm, zO 10 83 (zc71 u v))] [(qo, zJ K 1 (fun _ => 0))] [0] [1] hP hD hS hA rfl rfl (by decide +kernel) (by decide +kernel) (by decide +kernel) 125 1863522 rfl rfl (fun hPc hDc hF => z_runV (As := [.int (xs 1), .int (xs 2), .int (xs 3), .int (xs 4), .int (xs 5), .int 1]) (rest := []) ⟨hx, hb, hml, hown, hg⟩ (cX12_run_34 l K H.size qm (zc71 u v) (xs 1) (xs 2) (xs 3) (xs 4) (xs 5) (by rw [Int32.lt_iff_toInt_lt, show (0 : Int32).toInt = 0 from by decide]; omega) (by rw [Int32.lt_iff_toInt_lt, show (600 : Int32).toInt = 600 from by decide]; omega) (by rw [Int32.lt_iff_toInt_lt, show (0 : Int32).toInt = 0 from by decide]; omega)) kV_RL_169 hd_X12_run rfl rfl ⟨(Nat.le_of_ble_eq_true rfl), (Nat.le_of_ble_eq_true rfl)⟩ hK hS hZ hPc hDc hF 0 rfl rfl rfl hl.1 rfl (Nat.le_of_ble_eq_true rfl) dL_law_1569 ⟨(Nat.le_of_ble_eq_true rfl), (Nat.le_of_ble_eq_true rfl)⟩) (fun r6 u4 H locs w5 hP hD hS => ?_)
  subst w5
  have hP : va_P K.1 classes [(qo, zJ K 1 (fun _ => 0)), (qm, zO 10 83 (va_up (zc71 u v) 81 (.int 1)))] H := hP
  have hD : va_D A [(qo, zJ K 1 (fun _ => 0)), (qm, zO 10 83 (va_up (zc71 u v) 81 (.int 1)))] := hD
  refine lv_istore (lv' := [(6, .int 0), (5, .int 1), (4, .int 0), (3, .ref qo), (2, .ref qm), (1, .ref qx), (0, .ref b)]) hx hb dL_law_1572 hl (by decide) rfl (fun ls hl => ?_)
  refine lv_aload_n hx hb dL_law_1574 rfl (lv_at hl 4 rfl) ?_
  refine z_calli [(qm, zO 10 83 (va_up (zc71 u v) 81 (.int 1)))] [(qo, zJ K 1 (fun _ => 0))] [1] [0] hP hD hS hA rfl rfl (by decide +kernel) (by decide +kernel) (by decide +kernel) 125 1863522 rfl rfl (fun hPc hDc hF => z_runV (As := []) (rest := []) ⟨hx, hb, hml, hown, hg⟩ (cX12_thrown_2 l K H.size qm (va_up (zc71 u v) 81 (.int 1)) zu_eq) kV_RL_104 hd_X12_thrown rfl rfl ⟨(Nat.le_of_ble_eq_true rfl), (Nat.le_of_ble_eq_true rfl)⟩ hK hS hZ hPc hDc hF 0 rfl rfl rfl hl.1 rfl (Nat.le_of_ble_eq_true rfl) dL_law_1575 ⟨(Nat.le_of_ble_eq_true rfl), (Nat.le_of_ble_eq_true rfl)⟩) (fun r9 u7 H locs w8 hP hD hS => ?_)
  subst w8
  have hP : va_P K.1 classes [(qo, zJ K 1 (fun _ => 0)), (qm, zO 10 83 (va_up (zc71 u v) 81 (.int 1)))] H := hP
  have hD : va_D A [(qo, zJ K 1 (fun _ => 0)), (qm, zO 10 83 (va_up (zc71 u v) 81 (.int 1)))] := hD
  refine lv_iload hx hb dL_law_1578 (lv_at hl 1 rfl) ?_
  refine lv_icmp_eq (tgt := 1585) hx hb dL_law_1580 (by decide) (fun _ => ?_) (fun c => absurd (by decide) c)
  refine lv_iload hx hb dL_law_1585 (lv_at hl 1 rfl) ?_
  refine lv_if_ne (tgt := 1602) hx hb dL_law_1587 (by decide) (fun _ => ?_) (fun c => absurd c (by decide))
  refine lv_goto (tgt := 2026) hx hb dL_law_1602 (by decide) ?_
  exact law_back ⟨hx, hb, hr, hml, hown, hg, hX, hbl, hlocks, hK, hZ, hl9, hAA, hA, hbA⟩ (Nat.le_of_ble_eq_true rfl) (Nat.le_of_ble_eq_true rfl) hS (lv_sub hl [2, 6] rfl)
set_option maxHeartbeats 4000000 in
set_option maxRecDepth 100000 in
theorem lawS_19_34 {p : Program} {l : Launch} {e : Env} {s : State} {m : MethodId} {below : List Frame} {meth : Method} {c : Code} {b : Nat} {xs : Nat → Int32} {K : zK} {A : Nat → Prop} {H : Heap} {locs : List Loc} {ls : Array Slot} (C : zC p l s m meth c b xs K A) (qx qm qo : Nat) (u v : Nat → Nat) (h0 : ¬ xs 6 = 0) (h1 : 0 ≤ (xs 5).toInt) (h2 : 601 ≤ (xs 5).toInt) (h3 : 0 ≤ (xs 1).toInt) (h4 : (xs 1).toInt < 8) (h5 : (xs 2).toInt < 0) (hP : va_P K.1 classes (lwW K qx qm qo u v) H) (hD : va_D A (lwW K qx qm qo u v)) (hS : va_S A s.heap H locs) (hl : lv_has ls 7 [(4, .int 0), (3, .ref qo), (2, .ref qm), (1, .ref qx), (0, .ref b)]) : W p l e room_1 s m #[Value.ref b] below meth c H locs 124 1863516 (lw_Z below #[Value.ref b] s) (F0 m 1471 ls []) := by
  obtain ⟨hx, hb, hr, hml, hown, hg, hX, hbl, hlocks, hK, hZ, hl9, hAA, hA, hbA⟩ := C
  have hP : va_P K.1 classes [(qx, zO 9 9 (zc0 u v)), (qm, zO 10 83 (zc71 u v)), (qo, zJ K 1 (fun _ => 0))] H := hP.sub [0, 71, 123] rfl
  have hD : va_D A [(qx, zO 9 9 (zc0 u v)), (qm, zO 10 83 (zc71 u v)), (qo, zJ K 1 (fun _ => 0))] := hD.sub [0, 71, 123] (by decide +kernel) rfl
  obtain ⟨t1, ht1, v1⟩ : ∃ j : Nat, j < 8 ∧ xs 1 = nI j := z_nat (n := 8) (by omega) (by omega) (by decide)
  refine lv_aload_n hx hb dL_law_1471 rfl (lv_at hl 3 rfl) ?_
  refine lv_aload_n hx hb dL_law_1472 rfl (lv_at hl 4 rfl) ?_
  refine lv_iload hx hb dL_law_1473 (lv_at hl 0 rfl) ?_
  refine lv_iconst (v := 1) hx hb dL_law_1475 (by decide) ?_
  refine lv_iadd hx hb dL_law_1476 ?_
  refine z_cst (v := 1) (by decide +kernel) ?_
  refine z_sld (v := (nI t1)) (j := 1) hx hb hX hbl hbA hS rfl (Nat.le_of_ble_eq_true rfl) v1 dL_law_1477 ?_
  refine lv_aload_n hx hb dL_law_1478 rfl (lv_at hl 4 rfl) ?_
  refine lv_iload hx hb dL_law_1479 (lv_at hl 0 rfl) ?_
  refine lv_iconst (v := 2) hx hb dL_law_1481 (by decide) ?_
  refine lv_iadd hx hb dL_law_1482 ?_
  refine z_cst (v := 2) (by decide +kernel) ?_
  refine z_sld (v := (xs 2)) (j := 2) hx hb hX hbl hbA hS rfl (Nat.le_of_ble_eq_true rfl) rfl dL_law_1483 ?_
  refine lv_aload_n hx hb dL_law_1484 rfl (lv_at hl 4 rfl) ?_
  refine lv_iload hx hb dL_law_1485 (lv_at hl 0 rfl) ?_
  refine lv_iconst (v := 3) hx hb dL_law_1487 (by decide) ?_
  refine lv_iadd hx hb dL_law_1488 ?_
  refine z_cst (v := 3) (by decide +kernel) ?_
  refine z_sld (v := (xs 3)) (j := 3) hx hb hX hbl hbA hS rfl (Nat.le_of_ble_eq_true rfl) rfl dL_law_1489 ?_
  refine lv_aload_n hx hb dL_law_1490 rfl (lv_at hl 4 rfl) ?_
  refine lv_iload hx hb dL_law_1491 (lv_at hl 0 rfl) ?_
  refine lv_iconst (v := 4) hx hb dL_law_1493 (by decide) ?_
  refine lv_iadd hx hb dL_law_1494 ?_
  refine z_cst (v := 4) (by decide +kernel) ?_
  refine z_sld (v := (xs 4)) (j := 4) hx hb hX hbl hbA hS rfl (Nat.le_of_ble_eq_true rfl) rfl dL_law_1495 ?_
  refine lv_aload_n hx hb dL_law_1496 rfl (lv_at hl 4 rfl) ?_
  refine lv_iload hx hb dL_law_1497 (lv_at hl 0 rfl) ?_
  refine lv_iconst (v := 5) hx hb dL_law_1499 (by decide) ?_
  refine lv_iadd hx hb dL_law_1500 ?_
  refine z_cst (v := 5) (by decide +kernel) ?_
  refine z_sld (v := (xs 5)) (j := 5) hx hb hX hbl hbA hS rfl (Nat.le_of_ble_eq_true rfl) rfl dL_law_1501 ?_
  refine lv_aload_n hx hb dL_law_1502 rfl (lv_at hl 4 rfl) ?_
  refine lv_iload hx hb dL_law_1503 (lv_at hl 0 rfl) ?_
  refine lv_bipush (v := 6) hx hb dL_law_1505 (by decide) ?_
  refine lv_iadd hx hb dL_law_1507 ?_
  refine z_cst (v := 6) (by decide +kernel) ?_
  refine z_sld (v := (xs 6)) (j := 6) hx hb hX hbl hbA hS rfl (Nat.le_of_ble_eq_true rfl) rfl dL_law_1508 ?_
  refine lv_if_eq (tgt := 1516) hx hb dL_law_1509 (by decide) (fun c => absurd c h0) (fun _ => ?_)
  refine lv_iconst (v := 1) hx hb dL_law_1512 (by decide) ?_
  refine lv_goto (tgt := 1517) hx hb dL_law_1513 (by decide) ?_
  refine lv_aload_n hx hb dL_law_1517 rfl (lv_at hl 1 rfl) ?_
  refine z_hcalli [(qx, zO 9 9 (zc0 u v))] [(qm, zO 10 83 (zc71 u v)), (qo, zJ K 1 (fun _ => 0))] [0] [1, 2] hP hD hS hA rfl rfl (by decide +kernel) (by decide +kernel) (by decide +kernel) 125 1863522 rfl rfl (fun hPc hDc hF => z_xrunH (As := [.ref qx, .int (nI t1), .int (xs 2), .int (xs 3), .int (xs 4), .int (xs 5), .int 1, .ref qo]) (rest := []) ⟨hx, hb, hml, hown, hg⟩ (cL_run_31 l hl9 K H.size qx qo (zc0 u v) t1 ht1 (xs 2) (xs 3) (xs 4) (xs 5) (by rw [Int32.lt_iff_toInt_lt, show (0 : Int32).toInt = 0 from by decide]; omega) (by rw [Int32.lt_iff_toInt_lt, show (601 : Int32).toInt = 601 from by decide]; omega)) kS_RL_166 hd_L_run rfl rfl ⟨(Nat.le_of_ble_eq_true rfl), (Nat.le_of_ble_eq_true rfl)⟩ hK hS hZ hPc hDc hF rfl hl.1 rfl (Nat.le_of_ble_eq_true rfl) dL_law_1518 ⟨(Nat.le_of_ble_eq_true rfl), (Nat.le_of_ble_eq_true rfl)⟩) (fun r3 u1 H locs w2 hP hD hS => ?_)
  subst w2
  have hP : va_P K.1 classes [(qm, zO 10 83 (zc71 u v)), (qo, zJ K 1 (fun _ => 0))] H := hP
  have hD : va_D A [(qm, zO 10 83 (zc71 u v)), (qo, zJ K 1 (fun _ => 0))] := hD
  refine lv_istore (lv' := [(5, .int 1), (4, .int 0), (3, .ref qo), (2, .ref qm), (1, .ref qx), (0, .ref b)]) hx hb dL_law_1521 hl (by decide) rfl (fun ls hl => ?_)
  refine lv_aload_n hx hb dL_law_1523 rfl (lv_at hl 3 rfl) ?_
  refine lv_aload_n hx hb dL_law_1524 rfl (lv_at hl 5 rfl) ?_
  refine lv_iload hx hb dL_law_1525 (lv_at hl 1 rfl) ?_
  refine lv_iconst (v := 1) hx hb dL_law_1527 (by decide) ?_
  refine lv_iadd hx hb dL_law_1528 ?_
  refine z_cst (v := 1) (by decide +kernel) ?_
  refine z_sld (v := (nI t1)) (j := 1) hx hb hX hbl hbA hS rfl (Nat.le_of_ble_eq_true rfl) v1 dL_law_1529 ?_
  refine lv_aload_n hx hb dL_law_1530 rfl (lv_at hl 5 rfl) ?_
  refine lv_iload hx hb dL_law_1531 (lv_at hl 1 rfl) ?_
  refine lv_iconst (v := 2) hx hb dL_law_1533 (by decide) ?_
  refine lv_iadd hx hb dL_law_1534 ?_
  refine z_cst (v := 2) (by decide +kernel) ?_
  refine z_sld (v := (xs 2)) (j := 2) hx hb hX hbl hbA hS rfl (Nat.le_of_ble_eq_true rfl) rfl dL_law_1535 ?_
  refine lv_aload_n hx hb dL_law_1536 rfl (lv_at hl 5 rfl) ?_
  refine lv_iload hx hb dL_law_1537 (lv_at hl 1 rfl) ?_
  refine lv_iconst (v := 3) hx hb dL_law_1539 (by decide) ?_
  refine lv_iadd hx hb dL_law_1540 ?_
  refine z_cst (v := 3) (by decide +kernel) ?_
  refine z_sld (v := (xs 3)) (j := 3) hx hb hX hbl hbA hS rfl (Nat.le_of_ble_eq_true rfl) rfl dL_law_1541 ?_
  refine lv_aload_n hx hb dL_law_1542 rfl (lv_at hl 5 rfl) ?_
  refine lv_iload hx hb dL_law_1543 (lv_at hl 1 rfl) ?_
  refine lv_iconst (v := 4) hx hb dL_law_1545 (by decide) ?_
  refine lv_iadd hx hb dL_law_1546 ?_
  refine z_cst (v := 4) (by decide +kernel) ?_
  refine z_sld (v := (xs 4)) (j := 4) hx hb hX hbl hbA hS rfl (Nat.le_of_ble_eq_true rfl) rfl dL_law_1547 ?_
  refine lv_aload_n hx hb dL_law_1548 rfl (lv_at hl 5 rfl) ?_
  refine lv_iload hx hb dL_law_1549 (lv_at hl 1 rfl) ?_
  refine lv_iconst (v := 5) hx hb dL_law_1551 (by decide) ?_
  refine lv_iadd hx hb dL_law_1552 ?_
  refine z_cst (v := 5) (by decide +kernel) ?_
  refine z_sld (v := (xs 5)) (j := 5) hx hb hX hbl hbA hS rfl (Nat.le_of_ble_eq_true rfl) rfl dL_law_1553 ?_
  refine lv_aload_n hx hb dL_law_1554 rfl (lv_at hl 5 rfl) ?_
  refine lv_iload hx hb dL_law_1555 (lv_at hl 1 rfl) ?_
  refine lv_bipush (v := 6) hx hb dL_law_1557 (by decide) ?_
  refine lv_iadd hx hb dL_law_1559 ?_
  refine z_cst (v := 6) (by decide +kernel) ?_
  refine z_sld (v := (xs 6)) (j := 6) hx hb hX hbl hbA hS rfl (Nat.le_of_ble_eq_true rfl) rfl dL_law_1560 ?_
  refine lv_if_eq (tgt := 1568) hx hb dL_law_1561 (by decide) (fun c => absurd c h0) (fun _ => ?_)
  refine lv_iconst (v := 1) hx hb dL_law_1564 (by decide) ?_
  refine lv_goto (tgt := 1569) hx hb dL_law_1565 (by decide) ?_
  refine z_calli [(qm, zO 10 83 (zc71 u v))] [(qo, zJ K 1 (fun _ => 0))] [0] [1] hP hD hS hA rfl rfl (by decide +kernel) (by decide +kernel) (by decide +kernel) 125 1863522 rfl rfl (fun hPc hDc hF => z_runV (As := [.int (nI t1), .int (xs 2), .int (xs 3), .int (xs 4), .int (xs 5), .int 1]) (rest := []) ⟨hx, hb, hml, hown, hg⟩ (cX12_run_35 l K H.size qm (zc71 u v) t1 ht1 (xs 2) (xs 3) (xs 4) (xs 5) (by rw [Int32.lt_iff_toInt_lt, show (0 : Int32).toInt = 0 from by decide]; omega) (by rw [Int32.lt_iff_toInt_lt, show (600 : Int32).toInt = 600 from by decide]; omega) (by rw [Int32.lt_iff_toInt_lt, show (0 : Int32).toInt = 0 from by decide]; omega)) kV_RL_169 hd_X12_run rfl rfl ⟨(Nat.le_of_ble_eq_true rfl), (Nat.le_of_ble_eq_true rfl)⟩ hK hS hZ hPc hDc hF 0 rfl rfl rfl hl.1 rfl (Nat.le_of_ble_eq_true rfl) dL_law_1569 ⟨(Nat.le_of_ble_eq_true rfl), (Nat.le_of_ble_eq_true rfl)⟩) (fun r6 u4 H locs w5 hP hD hS => ?_)
  subst w5
  have hP : va_P K.1 classes [(qo, zJ K 1 (fun _ => 0)), (qm, zO 10 83 (va_up (zc71 u v) 81 (.int 1)))] H := hP
  have hD : va_D A [(qo, zJ K 1 (fun _ => 0)), (qm, zO 10 83 (va_up (zc71 u v) 81 (.int 1)))] := hD
  refine lv_istore (lv' := [(6, .int 0), (5, .int 1), (4, .int 0), (3, .ref qo), (2, .ref qm), (1, .ref qx), (0, .ref b)]) hx hb dL_law_1572 hl (by decide) rfl (fun ls hl => ?_)
  refine lv_aload_n hx hb dL_law_1574 rfl (lv_at hl 4 rfl) ?_
  refine z_calli [(qm, zO 10 83 (va_up (zc71 u v) 81 (.int 1)))] [(qo, zJ K 1 (fun _ => 0))] [1] [0] hP hD hS hA rfl rfl (by decide +kernel) (by decide +kernel) (by decide +kernel) 125 1863522 rfl rfl (fun hPc hDc hF => z_runV (As := []) (rest := []) ⟨hx, hb, hml, hown, hg⟩ (cX12_thrown_2 l K H.size qm (va_up (zc71 u v) 81 (.int 1)) zu_eq) kV_RL_104 hd_X12_thrown rfl rfl ⟨(Nat.le_of_ble_eq_true rfl), (Nat.le_of_ble_eq_true rfl)⟩ hK hS hZ hPc hDc hF 0 rfl rfl rfl hl.1 rfl (Nat.le_of_ble_eq_true rfl) dL_law_1575 ⟨(Nat.le_of_ble_eq_true rfl), (Nat.le_of_ble_eq_true rfl)⟩) (fun r9 u7 H locs w8 hP hD hS => ?_)
  subst w8
  have hP : va_P K.1 classes [(qo, zJ K 1 (fun _ => 0)), (qm, zO 10 83 (va_up (zc71 u v) 81 (.int 1)))] H := hP
  have hD : va_D A [(qo, zJ K 1 (fun _ => 0)), (qm, zO 10 83 (va_up (zc71 u v) 81 (.int 1)))] := hD
  refine lv_iload hx hb dL_law_1578 (lv_at hl 1 rfl) ?_
  refine lv_icmp_eq (tgt := 1585) hx hb dL_law_1580 (by decide) (fun _ => ?_) (fun c => absurd (by decide) c)
  refine lv_iload hx hb dL_law_1585 (lv_at hl 1 rfl) ?_
  refine lv_if_ne (tgt := 1602) hx hb dL_law_1587 (by decide) (fun _ => ?_) (fun c => absurd c (by decide))
  refine lv_goto (tgt := 2026) hx hb dL_law_1602 (by decide) ?_
  exact law_back ⟨hx, hb, hr, hml, hown, hg, hX, hbl, hlocks, hK, hZ, hl9, hAA, hA, hbA⟩ (Nat.le_of_ble_eq_true rfl) (Nat.le_of_ble_eq_true rfl) hS (lv_sub hl [2, 6] rfl)
set_option maxHeartbeats 4000000 in
set_option maxRecDepth 100000 in
theorem lawS_19_35 {p : Program} {l : Launch} {e : Env} {s : State} {m : MethodId} {below : List Frame} {meth : Method} {c : Code} {b : Nat} {xs : Nat → Int32} {K : zK} {A : Nat → Prop} {H : Heap} {locs : List Loc} {ls : Array Slot} (C : zC p l s m meth c b xs K A) (qx qm qo : Nat) (u v : Nat → Nat) (h0 : ¬ xs 6 = 0) (h1 : 0 ≤ (xs 5).toInt) (h2 : 601 ≤ (xs 5).toInt) (h3 : 0 ≤ (xs 1).toInt) (h4 : (xs 1).toInt < 8) (h5 : 0 ≤ (xs 2).toInt) (h6 : (xs 2).toInt < 3) (hP : va_P K.1 classes (lwW K qx qm qo u v) H) (hD : va_D A (lwW K qx qm qo u v)) (hS : va_S A s.heap H locs) (hl : lv_has ls 7 [(4, .int 0), (3, .ref qo), (2, .ref qm), (1, .ref qx), (0, .ref b)]) : W p l e room_1 s m #[Value.ref b] below meth c H locs 124 1863516 (lw_Z below #[Value.ref b] s) (F0 m 1471 ls []) := by
  obtain ⟨hx, hb, hr, hml, hown, hg, hX, hbl, hlocks, hK, hZ, hl9, hAA, hA, hbA⟩ := C
  have hP : va_P K.1 classes [(qx, zO 9 9 (zc0 u v)), (qm, zO 10 83 (zc71 u v)), (qo, zJ K 1 (fun _ => 0))] H := hP.sub [0, 71, 123] rfl
  have hD : va_D A [(qx, zO 9 9 (zc0 u v)), (qm, zO 10 83 (zc71 u v)), (qo, zJ K 1 (fun _ => 0))] := hD.sub [0, 71, 123] (by decide +kernel) rfl
  obtain ⟨t1, ht1, v1⟩ : ∃ j : Nat, j < 8 ∧ xs 1 = nI j := z_nat (n := 8) (by omega) (by omega) (by decide)
  obtain ⟨t2, ht2, v2⟩ : ∃ j : Nat, j < 3 ∧ xs 2 = nI j := z_nat (n := 3) (by omega) (by omega) (by decide)
  refine lv_aload_n hx hb dL_law_1471 rfl (lv_at hl 3 rfl) ?_
  refine lv_aload_n hx hb dL_law_1472 rfl (lv_at hl 4 rfl) ?_
  refine lv_iload hx hb dL_law_1473 (lv_at hl 0 rfl) ?_
  refine lv_iconst (v := 1) hx hb dL_law_1475 (by decide) ?_
  refine lv_iadd hx hb dL_law_1476 ?_
  refine z_cst (v := 1) (by decide +kernel) ?_
  refine z_sld (v := (nI t1)) (j := 1) hx hb hX hbl hbA hS rfl (Nat.le_of_ble_eq_true rfl) v1 dL_law_1477 ?_
  refine lv_aload_n hx hb dL_law_1478 rfl (lv_at hl 4 rfl) ?_
  refine lv_iload hx hb dL_law_1479 (lv_at hl 0 rfl) ?_
  refine lv_iconst (v := 2) hx hb dL_law_1481 (by decide) ?_
  refine lv_iadd hx hb dL_law_1482 ?_
  refine z_cst (v := 2) (by decide +kernel) ?_
  refine z_sld (v := (nI t2)) (j := 2) hx hb hX hbl hbA hS rfl (Nat.le_of_ble_eq_true rfl) v2 dL_law_1483 ?_
  refine lv_aload_n hx hb dL_law_1484 rfl (lv_at hl 4 rfl) ?_
  refine lv_iload hx hb dL_law_1485 (lv_at hl 0 rfl) ?_
  refine lv_iconst (v := 3) hx hb dL_law_1487 (by decide) ?_
  refine lv_iadd hx hb dL_law_1488 ?_
  refine z_cst (v := 3) (by decide +kernel) ?_
  refine z_sld (v := (xs 3)) (j := 3) hx hb hX hbl hbA hS rfl (Nat.le_of_ble_eq_true rfl) rfl dL_law_1489 ?_
  refine lv_aload_n hx hb dL_law_1490 rfl (lv_at hl 4 rfl) ?_
  refine lv_iload hx hb dL_law_1491 (lv_at hl 0 rfl) ?_
  refine lv_iconst (v := 4) hx hb dL_law_1493 (by decide) ?_
  refine lv_iadd hx hb dL_law_1494 ?_
  refine z_cst (v := 4) (by decide +kernel) ?_
  refine z_sld (v := (xs 4)) (j := 4) hx hb hX hbl hbA hS rfl (Nat.le_of_ble_eq_true rfl) rfl dL_law_1495 ?_
  refine lv_aload_n hx hb dL_law_1496 rfl (lv_at hl 4 rfl) ?_
  refine lv_iload hx hb dL_law_1497 (lv_at hl 0 rfl) ?_
  refine lv_iconst (v := 5) hx hb dL_law_1499 (by decide) ?_
  refine lv_iadd hx hb dL_law_1500 ?_
  refine z_cst (v := 5) (by decide +kernel) ?_
  refine z_sld (v := (xs 5)) (j := 5) hx hb hX hbl hbA hS rfl (Nat.le_of_ble_eq_true rfl) rfl dL_law_1501 ?_
  refine lv_aload_n hx hb dL_law_1502 rfl (lv_at hl 4 rfl) ?_
  refine lv_iload hx hb dL_law_1503 (lv_at hl 0 rfl) ?_
  refine lv_bipush (v := 6) hx hb dL_law_1505 (by decide) ?_
  refine lv_iadd hx hb dL_law_1507 ?_
  refine z_cst (v := 6) (by decide +kernel) ?_
  refine z_sld (v := (xs 6)) (j := 6) hx hb hX hbl hbA hS rfl (Nat.le_of_ble_eq_true rfl) rfl dL_law_1508 ?_
  refine lv_if_eq (tgt := 1516) hx hb dL_law_1509 (by decide) (fun c => absurd c h0) (fun _ => ?_)
  refine lv_iconst (v := 1) hx hb dL_law_1512 (by decide) ?_
  refine lv_goto (tgt := 1517) hx hb dL_law_1513 (by decide) ?_
  refine lv_aload_n hx hb dL_law_1517 rfl (lv_at hl 1 rfl) ?_
  refine z_hcalli [(qx, zO 9 9 (zc0 u v))] [(qm, zO 10 83 (zc71 u v)), (qo, zJ K 1 (fun _ => 0))] [0] [1, 2] hP hD hS hA rfl rfl (by decide +kernel) (by decide +kernel) (by decide +kernel) 125 1863522 rfl rfl (fun hPc hDc hF => z_xrunH (As := [.ref qx, .int (nI t1), .int (nI t2), .int (xs 3), .int (xs 4), .int (xs 5), .int 1, .ref qo]) (rest := []) ⟨hx, hb, hml, hown, hg⟩ (cL_run_32 l hl9 K H.size qx qo (zc0 u v) t1 ht1 t2 ht2 (xs 3) (xs 4) (xs 5) (by rw [Int32.lt_iff_toInt_lt, show (0 : Int32).toInt = 0 from by decide]; omega) (by rw [Int32.lt_iff_toInt_lt, show (601 : Int32).toInt = 601 from by decide]; omega)) kS_RL_166 hd_L_run rfl rfl ⟨(Nat.le_of_ble_eq_true rfl), (Nat.le_of_ble_eq_true rfl)⟩ hK hS hZ hPc hDc hF rfl hl.1 rfl (Nat.le_of_ble_eq_true rfl) dL_law_1518 ⟨(Nat.le_of_ble_eq_true rfl), (Nat.le_of_ble_eq_true rfl)⟩) (fun r3 u1 H locs w2 hP hD hS => ?_)
  subst w2
  have hP : va_P K.1 classes [(qm, zO 10 83 (zc71 u v)), (qo, zJ K 1 (fun _ => 0))] H := hP
  have hD : va_D A [(qm, zO 10 83 (zc71 u v)), (qo, zJ K 1 (fun _ => 0))] := hD
  refine lv_istore (lv' := [(5, .int 1), (4, .int 0), (3, .ref qo), (2, .ref qm), (1, .ref qx), (0, .ref b)]) hx hb dL_law_1521 hl (by decide) rfl (fun ls hl => ?_)
  refine lv_aload_n hx hb dL_law_1523 rfl (lv_at hl 3 rfl) ?_
  refine lv_aload_n hx hb dL_law_1524 rfl (lv_at hl 5 rfl) ?_
  refine lv_iload hx hb dL_law_1525 (lv_at hl 1 rfl) ?_
  refine lv_iconst (v := 1) hx hb dL_law_1527 (by decide) ?_
  refine lv_iadd hx hb dL_law_1528 ?_
  refine z_cst (v := 1) (by decide +kernel) ?_
  refine z_sld (v := (nI t1)) (j := 1) hx hb hX hbl hbA hS rfl (Nat.le_of_ble_eq_true rfl) v1 dL_law_1529 ?_
  refine lv_aload_n hx hb dL_law_1530 rfl (lv_at hl 5 rfl) ?_
  refine lv_iload hx hb dL_law_1531 (lv_at hl 1 rfl) ?_
  refine lv_iconst (v := 2) hx hb dL_law_1533 (by decide) ?_
  refine lv_iadd hx hb dL_law_1534 ?_
  refine z_cst (v := 2) (by decide +kernel) ?_
  refine z_sld (v := (nI t2)) (j := 2) hx hb hX hbl hbA hS rfl (Nat.le_of_ble_eq_true rfl) v2 dL_law_1535 ?_
  refine lv_aload_n hx hb dL_law_1536 rfl (lv_at hl 5 rfl) ?_
  refine lv_iload hx hb dL_law_1537 (lv_at hl 1 rfl) ?_
  refine lv_iconst (v := 3) hx hb dL_law_1539 (by decide) ?_
  refine lv_iadd hx hb dL_law_1540 ?_
  refine z_cst (v := 3) (by decide +kernel) ?_
  refine z_sld (v := (xs 3)) (j := 3) hx hb hX hbl hbA hS rfl (Nat.le_of_ble_eq_true rfl) rfl dL_law_1541 ?_
  refine lv_aload_n hx hb dL_law_1542 rfl (lv_at hl 5 rfl) ?_
  refine lv_iload hx hb dL_law_1543 (lv_at hl 1 rfl) ?_
  refine lv_iconst (v := 4) hx hb dL_law_1545 (by decide) ?_
  refine lv_iadd hx hb dL_law_1546 ?_
  refine z_cst (v := 4) (by decide +kernel) ?_
  refine z_sld (v := (xs 4)) (j := 4) hx hb hX hbl hbA hS rfl (Nat.le_of_ble_eq_true rfl) rfl dL_law_1547 ?_
  refine lv_aload_n hx hb dL_law_1548 rfl (lv_at hl 5 rfl) ?_
  refine lv_iload hx hb dL_law_1549 (lv_at hl 1 rfl) ?_
  refine lv_iconst (v := 5) hx hb dL_law_1551 (by decide) ?_
  refine lv_iadd hx hb dL_law_1552 ?_
  refine z_cst (v := 5) (by decide +kernel) ?_
  refine z_sld (v := (xs 5)) (j := 5) hx hb hX hbl hbA hS rfl (Nat.le_of_ble_eq_true rfl) rfl dL_law_1553 ?_
  refine lv_aload_n hx hb dL_law_1554 rfl (lv_at hl 5 rfl) ?_
  refine lv_iload hx hb dL_law_1555 (lv_at hl 1 rfl) ?_
  refine lv_bipush (v := 6) hx hb dL_law_1557 (by decide) ?_
  refine lv_iadd hx hb dL_law_1559 ?_
  refine z_cst (v := 6) (by decide +kernel) ?_
  refine z_sld (v := (xs 6)) (j := 6) hx hb hX hbl hbA hS rfl (Nat.le_of_ble_eq_true rfl) rfl dL_law_1560 ?_
  refine lv_if_eq (tgt := 1568) hx hb dL_law_1561 (by decide) (fun c => absurd c h0) (fun _ => ?_)
  refine lv_iconst (v := 1) hx hb dL_law_1564 (by decide) ?_
  refine lv_goto (tgt := 1569) hx hb dL_law_1565 (by decide) ?_
  refine z_calli [(qm, zO 10 83 (zc71 u v))] [(qo, zJ K 1 (fun _ => 0))] [0] [1] hP hD hS hA rfl rfl (by decide +kernel) (by decide +kernel) (by decide +kernel) 125 1863522 rfl rfl (fun hPc hDc hF => z_runV (As := [.int (nI t1), .int (nI t2), .int (xs 3), .int (xs 4), .int (xs 5), .int 1]) (rest := []) ⟨hx, hb, hml, hown, hg⟩ (cX12_run_36 l K H.size qm (zc71 u v) t1 ht1 t2 ht2 (xs 3) (xs 4) (xs 5) (by rw [Int32.lt_iff_toInt_lt, show (0 : Int32).toInt = 0 from by decide]; omega) (by rw [Int32.lt_iff_toInt_lt, show (600 : Int32).toInt = 600 from by decide]; omega)) kV_RL_169 hd_X12_run rfl rfl ⟨(Nat.le_of_ble_eq_true rfl), (Nat.le_of_ble_eq_true rfl)⟩ hK hS hZ hPc hDc hF 0 rfl rfl rfl hl.1 rfl (Nat.le_of_ble_eq_true rfl) dL_law_1569 ⟨(Nat.le_of_ble_eq_true rfl), (Nat.le_of_ble_eq_true rfl)⟩) (fun r6 u4 H locs w5 hP hD hS => ?_)
  subst w5
  have hP : va_P K.1 classes [(qo, zJ K 1 (fun _ => 0)), (qm, zO 10 83 (va_up (zc71 u v) 81 (.int 1)))] H := hP
  have hD : va_D A [(qo, zJ K 1 (fun _ => 0)), (qm, zO 10 83 (va_up (zc71 u v) 81 (.int 1)))] := hD
  refine lv_istore (lv' := [(6, .int 0), (5, .int 1), (4, .int 0), (3, .ref qo), (2, .ref qm), (1, .ref qx), (0, .ref b)]) hx hb dL_law_1572 hl (by decide) rfl (fun ls hl => ?_)
  refine lv_aload_n hx hb dL_law_1574 rfl (lv_at hl 4 rfl) ?_
  refine z_calli [(qm, zO 10 83 (va_up (zc71 u v) 81 (.int 1)))] [(qo, zJ K 1 (fun _ => 0))] [1] [0] hP hD hS hA rfl rfl (by decide +kernel) (by decide +kernel) (by decide +kernel) 125 1863522 rfl rfl (fun hPc hDc hF => z_runV (As := []) (rest := []) ⟨hx, hb, hml, hown, hg⟩ (cX12_thrown_2 l K H.size qm (va_up (zc71 u v) 81 (.int 1)) zu_eq) kV_RL_104 hd_X12_thrown rfl rfl ⟨(Nat.le_of_ble_eq_true rfl), (Nat.le_of_ble_eq_true rfl)⟩ hK hS hZ hPc hDc hF 0 rfl rfl rfl hl.1 rfl (Nat.le_of_ble_eq_true rfl) dL_law_1575 ⟨(Nat.le_of_ble_eq_true rfl), (Nat.le_of_ble_eq_true rfl)⟩) (fun r9 u7 H locs w8 hP hD hS => ?_)
  subst w8
  have hP : va_P K.1 classes [(qo, zJ K 1 (fun _ => 0)), (qm, zO 10 83 (va_up (zc71 u v) 81 (.int 1)))] H := hP
  have hD : va_D A [(qo, zJ K 1 (fun _ => 0)), (qm, zO 10 83 (va_up (zc71 u v) 81 (.int 1)))] := hD
  refine lv_iload hx hb dL_law_1578 (lv_at hl 1 rfl) ?_
  refine lv_icmp_eq (tgt := 1585) hx hb dL_law_1580 (by decide) (fun _ => ?_) (fun c => absurd (by decide) c)
  refine lv_iload hx hb dL_law_1585 (lv_at hl 1 rfl) ?_
  refine lv_if_ne (tgt := 1602) hx hb dL_law_1587 (by decide) (fun _ => ?_) (fun c => absurd c (by decide))
  refine lv_goto (tgt := 2026) hx hb dL_law_1602 (by decide) ?_
  exact law_back ⟨hx, hb, hr, hml, hown, hg, hX, hbl, hlocks, hK, hZ, hl9, hAA, hA, hbA⟩ (Nat.le_of_ble_eq_true rfl) (Nat.le_of_ble_eq_true rfl) hS (lv_sub hl [2, 6] rfl)
set_option maxHeartbeats 4000000 in
set_option maxRecDepth 100000 in
theorem lawS_19_36 {p : Program} {l : Launch} {e : Env} {s : State} {m : MethodId} {below : List Frame} {meth : Method} {c : Code} {b : Nat} {xs : Nat → Int32} {K : zK} {A : Nat → Prop} {H : Heap} {locs : List Loc} {ls : Array Slot} (C : zC p l s m meth c b xs K A) (qx qm qo : Nat) (u v : Nat → Nat) (h0 : ¬ xs 6 = 0) (h1 : 0 ≤ (xs 5).toInt) (h2 : 601 ≤ (xs 5).toInt) (h3 : 0 ≤ (xs 1).toInt) (h4 : (xs 1).toInt < 8) (h5 : 0 ≤ (xs 2).toInt) (h6 : 3 ≤ (xs 2).toInt) (hP : va_P K.1 classes (lwW K qx qm qo u v) H) (hD : va_D A (lwW K qx qm qo u v)) (hS : va_S A s.heap H locs) (hl : lv_has ls 7 [(4, .int 0), (3, .ref qo), (2, .ref qm), (1, .ref qx), (0, .ref b)]) : W p l e room_1 s m #[Value.ref b] below meth c H locs 124 1863516 (lw_Z below #[Value.ref b] s) (F0 m 1471 ls []) := by
  obtain ⟨hx, hb, hr, hml, hown, hg, hX, hbl, hlocks, hK, hZ, hl9, hAA, hA, hbA⟩ := C
  have hP : va_P K.1 classes [(qx, zO 9 9 (zc0 u v)), (qm, zO 10 83 (zc71 u v)), (qo, zJ K 1 (fun _ => 0))] H := hP.sub [0, 71, 123] rfl
  have hD : va_D A [(qx, zO 9 9 (zc0 u v)), (qm, zO 10 83 (zc71 u v)), (qo, zJ K 1 (fun _ => 0))] := hD.sub [0, 71, 123] (by decide +kernel) rfl
  obtain ⟨t1, ht1, v1⟩ : ∃ j : Nat, j < 8 ∧ xs 1 = nI j := z_nat (n := 8) (by omega) (by omega) (by decide)
  refine lv_aload_n hx hb dL_law_1471 rfl (lv_at hl 3 rfl) ?_
  refine lv_aload_n hx hb dL_law_1472 rfl (lv_at hl 4 rfl) ?_
  refine lv_iload hx hb dL_law_1473 (lv_at hl 0 rfl) ?_
  refine lv_iconst (v := 1) hx hb dL_law_1475 (by decide) ?_
  refine lv_iadd hx hb dL_law_1476 ?_
  refine z_cst (v := 1) (by decide +kernel) ?_
  refine z_sld (v := (nI t1)) (j := 1) hx hb hX hbl hbA hS rfl (Nat.le_of_ble_eq_true rfl) v1 dL_law_1477 ?_
  refine lv_aload_n hx hb dL_law_1478 rfl (lv_at hl 4 rfl) ?_
  refine lv_iload hx hb dL_law_1479 (lv_at hl 0 rfl) ?_
  refine lv_iconst (v := 2) hx hb dL_law_1481 (by decide) ?_
  refine lv_iadd hx hb dL_law_1482 ?_
  refine z_cst (v := 2) (by decide +kernel) ?_
  refine z_sld (v := (xs 2)) (j := 2) hx hb hX hbl hbA hS rfl (Nat.le_of_ble_eq_true rfl) rfl dL_law_1483 ?_
  refine lv_aload_n hx hb dL_law_1484 rfl (lv_at hl 4 rfl) ?_
  refine lv_iload hx hb dL_law_1485 (lv_at hl 0 rfl) ?_
  refine lv_iconst (v := 3) hx hb dL_law_1487 (by decide) ?_
  refine lv_iadd hx hb dL_law_1488 ?_
  refine z_cst (v := 3) (by decide +kernel) ?_
  refine z_sld (v := (xs 3)) (j := 3) hx hb hX hbl hbA hS rfl (Nat.le_of_ble_eq_true rfl) rfl dL_law_1489 ?_
  refine lv_aload_n hx hb dL_law_1490 rfl (lv_at hl 4 rfl) ?_
  refine lv_iload hx hb dL_law_1491 (lv_at hl 0 rfl) ?_
  refine lv_iconst (v := 4) hx hb dL_law_1493 (by decide) ?_
  refine lv_iadd hx hb dL_law_1494 ?_
  refine z_cst (v := 4) (by decide +kernel) ?_
  refine z_sld (v := (xs 4)) (j := 4) hx hb hX hbl hbA hS rfl (Nat.le_of_ble_eq_true rfl) rfl dL_law_1495 ?_
  refine lv_aload_n hx hb dL_law_1496 rfl (lv_at hl 4 rfl) ?_
  refine lv_iload hx hb dL_law_1497 (lv_at hl 0 rfl) ?_
  refine lv_iconst (v := 5) hx hb dL_law_1499 (by decide) ?_
  refine lv_iadd hx hb dL_law_1500 ?_
  refine z_cst (v := 5) (by decide +kernel) ?_
  refine z_sld (v := (xs 5)) (j := 5) hx hb hX hbl hbA hS rfl (Nat.le_of_ble_eq_true rfl) rfl dL_law_1501 ?_
  refine lv_aload_n hx hb dL_law_1502 rfl (lv_at hl 4 rfl) ?_
  refine lv_iload hx hb dL_law_1503 (lv_at hl 0 rfl) ?_
  refine lv_bipush (v := 6) hx hb dL_law_1505 (by decide) ?_
  refine lv_iadd hx hb dL_law_1507 ?_
  refine z_cst (v := 6) (by decide +kernel) ?_
  refine z_sld (v := (xs 6)) (j := 6) hx hb hX hbl hbA hS rfl (Nat.le_of_ble_eq_true rfl) rfl dL_law_1508 ?_
  refine lv_if_eq (tgt := 1516) hx hb dL_law_1509 (by decide) (fun c => absurd c h0) (fun _ => ?_)
  refine lv_iconst (v := 1) hx hb dL_law_1512 (by decide) ?_
  refine lv_goto (tgt := 1517) hx hb dL_law_1513 (by decide) ?_
  refine lv_aload_n hx hb dL_law_1517 rfl (lv_at hl 1 rfl) ?_
  refine z_hcalli [(qx, zO 9 9 (zc0 u v))] [(qm, zO 10 83 (zc71 u v)), (qo, zJ K 1 (fun _ => 0))] [0] [1, 2] hP hD hS hA rfl rfl (by decide +kernel) (by decide +kernel) (by decide +kernel) 125 1863522 rfl rfl (fun hPc hDc hF => z_xrunH (As := [.ref qx, .int (nI t1), .int (xs 2), .int (xs 3), .int (xs 4), .int (xs 5), .int 1, .ref qo]) (rest := []) ⟨hx, hb, hml, hown, hg⟩ (cL_run_31 l hl9 K H.size qx qo (zc0 u v) t1 ht1 (xs 2) (xs 3) (xs 4) (xs 5) (by rw [Int32.lt_iff_toInt_lt, show (0 : Int32).toInt = 0 from by decide]; omega) (by rw [Int32.lt_iff_toInt_lt, show (601 : Int32).toInt = 601 from by decide]; omega)) kS_RL_166 hd_L_run rfl rfl ⟨(Nat.le_of_ble_eq_true rfl), (Nat.le_of_ble_eq_true rfl)⟩ hK hS hZ hPc hDc hF rfl hl.1 rfl (Nat.le_of_ble_eq_true rfl) dL_law_1518 ⟨(Nat.le_of_ble_eq_true rfl), (Nat.le_of_ble_eq_true rfl)⟩) (fun r3 u1 H locs w2 hP hD hS => ?_)
  subst w2
  have hP : va_P K.1 classes [(qm, zO 10 83 (zc71 u v)), (qo, zJ K 1 (fun _ => 0))] H := hP
  have hD : va_D A [(qm, zO 10 83 (zc71 u v)), (qo, zJ K 1 (fun _ => 0))] := hD
  refine lv_istore (lv' := [(5, .int 1), (4, .int 0), (3, .ref qo), (2, .ref qm), (1, .ref qx), (0, .ref b)]) hx hb dL_law_1521 hl (by decide) rfl (fun ls hl => ?_)
  refine lv_aload_n hx hb dL_law_1523 rfl (lv_at hl 3 rfl) ?_
  refine lv_aload_n hx hb dL_law_1524 rfl (lv_at hl 5 rfl) ?_
  refine lv_iload hx hb dL_law_1525 (lv_at hl 1 rfl) ?_
  refine lv_iconst (v := 1) hx hb dL_law_1527 (by decide) ?_
  refine lv_iadd hx hb dL_law_1528 ?_
  refine z_cst (v := 1) (by decide +kernel) ?_
  refine z_sld (v := (nI t1)) (j := 1) hx hb hX hbl hbA hS rfl (Nat.le_of_ble_eq_true rfl) v1 dL_law_1529 ?_
  refine lv_aload_n hx hb dL_law_1530 rfl (lv_at hl 5 rfl) ?_
  refine lv_iload hx hb dL_law_1531 (lv_at hl 1 rfl) ?_
  refine lv_iconst (v := 2) hx hb dL_law_1533 (by decide) ?_
  refine lv_iadd hx hb dL_law_1534 ?_
  refine z_cst (v := 2) (by decide +kernel) ?_
  refine z_sld (v := (xs 2)) (j := 2) hx hb hX hbl hbA hS rfl (Nat.le_of_ble_eq_true rfl) rfl dL_law_1535 ?_
  refine lv_aload_n hx hb dL_law_1536 rfl (lv_at hl 5 rfl) ?_
  refine lv_iload hx hb dL_law_1537 (lv_at hl 1 rfl) ?_
  refine lv_iconst (v := 3) hx hb dL_law_1539 (by decide) ?_
  refine lv_iadd hx hb dL_law_1540 ?_
  refine z_cst (v := 3) (by decide +kernel) ?_
  refine z_sld (v := (xs 3)) (j := 3) hx hb hX hbl hbA hS rfl (Nat.le_of_ble_eq_true rfl) rfl dL_law_1541 ?_
  refine lv_aload_n hx hb dL_law_1542 rfl (lv_at hl 5 rfl) ?_
  refine lv_iload hx hb dL_law_1543 (lv_at hl 1 rfl) ?_
  refine lv_iconst (v := 4) hx hb dL_law_1545 (by decide) ?_
  refine lv_iadd hx hb dL_law_1546 ?_
  refine z_cst (v := 4) (by decide +kernel) ?_
  refine z_sld (v := (xs 4)) (j := 4) hx hb hX hbl hbA hS rfl (Nat.le_of_ble_eq_true rfl) rfl dL_law_1547 ?_
  refine lv_aload_n hx hb dL_law_1548 rfl (lv_at hl 5 rfl) ?_
  refine lv_iload hx hb dL_law_1549 (lv_at hl 1 rfl) ?_
  refine lv_iconst (v := 5) hx hb dL_law_1551 (by decide) ?_
  refine lv_iadd hx hb dL_law_1552 ?_
  refine z_cst (v := 5) (by decide +kernel) ?_
  refine z_sld (v := (xs 5)) (j := 5) hx hb hX hbl hbA hS rfl (Nat.le_of_ble_eq_true rfl) rfl dL_law_1553 ?_
  refine lv_aload_n hx hb dL_law_1554 rfl (lv_at hl 5 rfl) ?_
  refine lv_iload hx hb dL_law_1555 (lv_at hl 1 rfl) ?_
  refine lv_bipush (v := 6) hx hb dL_law_1557 (by decide) ?_
  refine lv_iadd hx hb dL_law_1559 ?_
  refine z_cst (v := 6) (by decide +kernel) ?_
  refine z_sld (v := (xs 6)) (j := 6) hx hb hX hbl hbA hS rfl (Nat.le_of_ble_eq_true rfl) rfl dL_law_1560 ?_
  refine lv_if_eq (tgt := 1568) hx hb dL_law_1561 (by decide) (fun c => absurd c h0) (fun _ => ?_)
  refine lv_iconst (v := 1) hx hb dL_law_1564 (by decide) ?_
  refine lv_goto (tgt := 1569) hx hb dL_law_1565 (by decide) ?_
  refine z_calli [(qm, zO 10 83 (zc71 u v))] [(qo, zJ K 1 (fun _ => 0))] [0] [1] hP hD hS hA rfl rfl (by decide +kernel) (by decide +kernel) (by decide +kernel) 125 1863522 rfl rfl (fun hPc hDc hF => z_runV (As := [.int (nI t1), .int (xs 2), .int (xs 3), .int (xs 4), .int (xs 5), .int 1]) (rest := []) ⟨hx, hb, hml, hown, hg⟩ (cX12_run_37 l K H.size qm (zc71 u v) t1 ht1 (xs 2) (xs 3) (xs 4) (xs 5) (by rw [Int32.lt_iff_toInt_lt, show (0 : Int32).toInt = 0 from by decide]; omega) (by rw [Int32.lt_iff_toInt_lt, show (600 : Int32).toInt = 600 from by decide]; omega) (by rw [Int32.lt_iff_toInt_lt, show (0 : Int32).toInt = 0 from by decide]; omega) (by rw [Int32.lt_iff_toInt_lt, show (2 : Int32).toInt = 2 from by decide]; omega)) kV_RL_169 hd_X12_run rfl rfl ⟨(Nat.le_of_ble_eq_true rfl), (Nat.le_of_ble_eq_true rfl)⟩ hK hS hZ hPc hDc hF 0 rfl rfl rfl hl.1 rfl (Nat.le_of_ble_eq_true rfl) dL_law_1569 ⟨(Nat.le_of_ble_eq_true rfl), (Nat.le_of_ble_eq_true rfl)⟩) (fun r6 u4 H locs w5 hP hD hS => ?_)
  subst w5
  have hP : va_P K.1 classes [(qo, zJ K 1 (fun _ => 0)), (qm, zO 10 83 (va_up (zc71 u v) 81 (.int 1)))] H := hP
  have hD : va_D A [(qo, zJ K 1 (fun _ => 0)), (qm, zO 10 83 (va_up (zc71 u v) 81 (.int 1)))] := hD
  refine lv_istore (lv' := [(6, .int 0), (5, .int 1), (4, .int 0), (3, .ref qo), (2, .ref qm), (1, .ref qx), (0, .ref b)]) hx hb dL_law_1572 hl (by decide) rfl (fun ls hl => ?_)
  refine lv_aload_n hx hb dL_law_1574 rfl (lv_at hl 4 rfl) ?_
  refine z_calli [(qm, zO 10 83 (va_up (zc71 u v) 81 (.int 1)))] [(qo, zJ K 1 (fun _ => 0))] [1] [0] hP hD hS hA rfl rfl (by decide +kernel) (by decide +kernel) (by decide +kernel) 125 1863522 rfl rfl (fun hPc hDc hF => z_runV (As := []) (rest := []) ⟨hx, hb, hml, hown, hg⟩ (cX12_thrown_2 l K H.size qm (va_up (zc71 u v) 81 (.int 1)) zu_eq) kV_RL_104 hd_X12_thrown rfl rfl ⟨(Nat.le_of_ble_eq_true rfl), (Nat.le_of_ble_eq_true rfl)⟩ hK hS hZ hPc hDc hF 0 rfl rfl rfl hl.1 rfl (Nat.le_of_ble_eq_true rfl) dL_law_1575 ⟨(Nat.le_of_ble_eq_true rfl), (Nat.le_of_ble_eq_true rfl)⟩) (fun r9 u7 H locs w8 hP hD hS => ?_)
  subst w8
  have hP : va_P K.1 classes [(qo, zJ K 1 (fun _ => 0)), (qm, zO 10 83 (va_up (zc71 u v) 81 (.int 1)))] H := hP
  have hD : va_D A [(qo, zJ K 1 (fun _ => 0)), (qm, zO 10 83 (va_up (zc71 u v) 81 (.int 1)))] := hD
  refine lv_iload hx hb dL_law_1578 (lv_at hl 1 rfl) ?_
  refine lv_icmp_eq (tgt := 1585) hx hb dL_law_1580 (by decide) (fun _ => ?_) (fun c => absurd (by decide) c)
  refine lv_iload hx hb dL_law_1585 (lv_at hl 1 rfl) ?_
  refine lv_if_ne (tgt := 1602) hx hb dL_law_1587 (by decide) (fun _ => ?_) (fun c => absurd c (by decide))
  refine lv_goto (tgt := 2026) hx hb dL_law_1602 (by decide) ?_
  exact law_back ⟨hx, hb, hr, hml, hown, hg, hX, hbl, hlocks, hK, hZ, hl9, hAA, hA, hbA⟩ (Nat.le_of_ble_eq_true rfl) (Nat.le_of_ble_eq_true rfl) hS (lv_sub hl [2, 6] rfl)
set_option maxHeartbeats 4000000 in
set_option maxRecDepth 100000 in
theorem lawS_19_37 {p : Program} {l : Launch} {e : Env} {s : State} {m : MethodId} {below : List Frame} {meth : Method} {c : Code} {b : Nat} {xs : Nat → Int32} {K : zK} {A : Nat → Prop} {H : Heap} {locs : List Loc} {ls : Array Slot} (C : zC p l s m meth c b xs K A) (qx qm qo : Nat) (u v : Nat → Nat) (h0 : ¬ xs 6 = 0) (h1 : 0 ≤ (xs 5).toInt) (h2 : 601 ≤ (xs 5).toInt) (h3 : 0 ≤ (xs 1).toInt) (h4 : 8 ≤ (xs 1).toInt) (hP : va_P K.1 classes (lwW K qx qm qo u v) H) (hD : va_D A (lwW K qx qm qo u v)) (hS : va_S A s.heap H locs) (hl : lv_has ls 7 [(4, .int 0), (3, .ref qo), (2, .ref qm), (1, .ref qx), (0, .ref b)]) : W p l e room_1 s m #[Value.ref b] below meth c H locs 124 1863516 (lw_Z below #[Value.ref b] s) (F0 m 1471 ls []) := by
  obtain ⟨hx, hb, hr, hml, hown, hg, hX, hbl, hlocks, hK, hZ, hl9, hAA, hA, hbA⟩ := C
  have hP : va_P K.1 classes [(qx, zO 9 9 (zc0 u v)), (qm, zO 10 83 (zc71 u v)), (qo, zJ K 1 (fun _ => 0))] H := hP.sub [0, 71, 123] rfl
  have hD : va_D A [(qx, zO 9 9 (zc0 u v)), (qm, zO 10 83 (zc71 u v)), (qo, zJ K 1 (fun _ => 0))] := hD.sub [0, 71, 123] (by decide +kernel) rfl
  refine lv_aload_n hx hb dL_law_1471 rfl (lv_at hl 3 rfl) ?_
  refine lv_aload_n hx hb dL_law_1472 rfl (lv_at hl 4 rfl) ?_
  refine lv_iload hx hb dL_law_1473 (lv_at hl 0 rfl) ?_
  refine lv_iconst (v := 1) hx hb dL_law_1475 (by decide) ?_
  refine lv_iadd hx hb dL_law_1476 ?_
  refine z_cst (v := 1) (by decide +kernel) ?_
  refine z_sld (v := (xs 1)) (j := 1) hx hb hX hbl hbA hS rfl (Nat.le_of_ble_eq_true rfl) rfl dL_law_1477 ?_
  refine lv_aload_n hx hb dL_law_1478 rfl (lv_at hl 4 rfl) ?_
  refine lv_iload hx hb dL_law_1479 (lv_at hl 0 rfl) ?_
  refine lv_iconst (v := 2) hx hb dL_law_1481 (by decide) ?_
  refine lv_iadd hx hb dL_law_1482 ?_
  refine z_cst (v := 2) (by decide +kernel) ?_
  refine z_sld (v := (xs 2)) (j := 2) hx hb hX hbl hbA hS rfl (Nat.le_of_ble_eq_true rfl) rfl dL_law_1483 ?_
  refine lv_aload_n hx hb dL_law_1484 rfl (lv_at hl 4 rfl) ?_
  refine lv_iload hx hb dL_law_1485 (lv_at hl 0 rfl) ?_
  refine lv_iconst (v := 3) hx hb dL_law_1487 (by decide) ?_
  refine lv_iadd hx hb dL_law_1488 ?_
  refine z_cst (v := 3) (by decide +kernel) ?_
  refine z_sld (v := (xs 3)) (j := 3) hx hb hX hbl hbA hS rfl (Nat.le_of_ble_eq_true rfl) rfl dL_law_1489 ?_
  refine lv_aload_n hx hb dL_law_1490 rfl (lv_at hl 4 rfl) ?_
  refine lv_iload hx hb dL_law_1491 (lv_at hl 0 rfl) ?_
  refine lv_iconst (v := 4) hx hb dL_law_1493 (by decide) ?_
  refine lv_iadd hx hb dL_law_1494 ?_
  refine z_cst (v := 4) (by decide +kernel) ?_
  refine z_sld (v := (xs 4)) (j := 4) hx hb hX hbl hbA hS rfl (Nat.le_of_ble_eq_true rfl) rfl dL_law_1495 ?_
  refine lv_aload_n hx hb dL_law_1496 rfl (lv_at hl 4 rfl) ?_
  refine lv_iload hx hb dL_law_1497 (lv_at hl 0 rfl) ?_
  refine lv_iconst (v := 5) hx hb dL_law_1499 (by decide) ?_
  refine lv_iadd hx hb dL_law_1500 ?_
  refine z_cst (v := 5) (by decide +kernel) ?_
  refine z_sld (v := (xs 5)) (j := 5) hx hb hX hbl hbA hS rfl (Nat.le_of_ble_eq_true rfl) rfl dL_law_1501 ?_
  refine lv_aload_n hx hb dL_law_1502 rfl (lv_at hl 4 rfl) ?_
  refine lv_iload hx hb dL_law_1503 (lv_at hl 0 rfl) ?_
  refine lv_bipush (v := 6) hx hb dL_law_1505 (by decide) ?_
  refine lv_iadd hx hb dL_law_1507 ?_
  refine z_cst (v := 6) (by decide +kernel) ?_
  refine z_sld (v := (xs 6)) (j := 6) hx hb hX hbl hbA hS rfl (Nat.le_of_ble_eq_true rfl) rfl dL_law_1508 ?_
  refine lv_if_eq (tgt := 1516) hx hb dL_law_1509 (by decide) (fun c => absurd c h0) (fun _ => ?_)
  refine lv_iconst (v := 1) hx hb dL_law_1512 (by decide) ?_
  refine lv_goto (tgt := 1517) hx hb dL_law_1513 (by decide) ?_
  refine lv_aload_n hx hb dL_law_1517 rfl (lv_at hl 1 rfl) ?_
  refine z_hcalli [(qx, zO 9 9 (zc0 u v))] [(qm, zO 10 83 (zc71 u v)), (qo, zJ K 1 (fun _ => 0))] [0] [1, 2] hP hD hS hA rfl rfl (by decide +kernel) (by decide +kernel) (by decide +kernel) 125 1863522 rfl rfl (fun hPc hDc hF => z_xrunH (As := [.ref qx, .int (xs 1), .int (xs 2), .int (xs 3), .int (xs 4), .int (xs 5), .int 1, .ref qo]) (rest := []) ⟨hx, hb, hml, hown, hg⟩ (cL_run_30 l hl9 K H.size qx qo (zc0 u v) (xs 1) (xs 2) (xs 3) (xs 4) (xs 5) (by rw [Int32.lt_iff_toInt_lt, show (0 : Int32).toInt = 0 from by decide]; omega) (by rw [Int32.lt_iff_toInt_lt, show (601 : Int32).toInt = 601 from by decide]; omega)) kS_RL_166 hd_L_run rfl rfl ⟨(Nat.le_of_ble_eq_true rfl), (Nat.le_of_ble_eq_true rfl)⟩ hK hS hZ hPc hDc hF rfl hl.1 rfl (Nat.le_of_ble_eq_true rfl) dL_law_1518 ⟨(Nat.le_of_ble_eq_true rfl), (Nat.le_of_ble_eq_true rfl)⟩) (fun r3 u1 H locs w2 hP hD hS => ?_)
  subst w2
  have hP : va_P K.1 classes [(qm, zO 10 83 (zc71 u v)), (qo, zJ K 1 (fun _ => 0))] H := hP
  have hD : va_D A [(qm, zO 10 83 (zc71 u v)), (qo, zJ K 1 (fun _ => 0))] := hD
  refine lv_istore (lv' := [(5, .int 1), (4, .int 0), (3, .ref qo), (2, .ref qm), (1, .ref qx), (0, .ref b)]) hx hb dL_law_1521 hl (by decide) rfl (fun ls hl => ?_)
  refine lv_aload_n hx hb dL_law_1523 rfl (lv_at hl 3 rfl) ?_
  refine lv_aload_n hx hb dL_law_1524 rfl (lv_at hl 5 rfl) ?_
  refine lv_iload hx hb dL_law_1525 (lv_at hl 1 rfl) ?_
  refine lv_iconst (v := 1) hx hb dL_law_1527 (by decide) ?_
  refine lv_iadd hx hb dL_law_1528 ?_
  refine z_cst (v := 1) (by decide +kernel) ?_
  refine z_sld (v := (xs 1)) (j := 1) hx hb hX hbl hbA hS rfl (Nat.le_of_ble_eq_true rfl) rfl dL_law_1529 ?_
  refine lv_aload_n hx hb dL_law_1530 rfl (lv_at hl 5 rfl) ?_
  refine lv_iload hx hb dL_law_1531 (lv_at hl 1 rfl) ?_
  refine lv_iconst (v := 2) hx hb dL_law_1533 (by decide) ?_
  refine lv_iadd hx hb dL_law_1534 ?_
  refine z_cst (v := 2) (by decide +kernel) ?_
  refine z_sld (v := (xs 2)) (j := 2) hx hb hX hbl hbA hS rfl (Nat.le_of_ble_eq_true rfl) rfl dL_law_1535 ?_
  refine lv_aload_n hx hb dL_law_1536 rfl (lv_at hl 5 rfl) ?_
  refine lv_iload hx hb dL_law_1537 (lv_at hl 1 rfl) ?_
  refine lv_iconst (v := 3) hx hb dL_law_1539 (by decide) ?_
  refine lv_iadd hx hb dL_law_1540 ?_
  refine z_cst (v := 3) (by decide +kernel) ?_
  refine z_sld (v := (xs 3)) (j := 3) hx hb hX hbl hbA hS rfl (Nat.le_of_ble_eq_true rfl) rfl dL_law_1541 ?_
  refine lv_aload_n hx hb dL_law_1542 rfl (lv_at hl 5 rfl) ?_
  refine lv_iload hx hb dL_law_1543 (lv_at hl 1 rfl) ?_
  refine lv_iconst (v := 4) hx hb dL_law_1545 (by decide) ?_
  refine lv_iadd hx hb dL_law_1546 ?_
  refine z_cst (v := 4) (by decide +kernel) ?_
  refine z_sld (v := (xs 4)) (j := 4) hx hb hX hbl hbA hS rfl (Nat.le_of_ble_eq_true rfl) rfl dL_law_1547 ?_
  refine lv_aload_n hx hb dL_law_1548 rfl (lv_at hl 5 rfl) ?_
  refine lv_iload hx hb dL_law_1549 (lv_at hl 1 rfl) ?_
  refine lv_iconst (v := 5) hx hb dL_law_1551 (by decide) ?_
  refine lv_iadd hx hb dL_law_1552 ?_
  refine z_cst (v := 5) (by decide +kernel) ?_
  refine z_sld (v := (xs 5)) (j := 5) hx hb hX hbl hbA hS rfl (Nat.le_of_ble_eq_true rfl) rfl dL_law_1553 ?_
  refine lv_aload_n hx hb dL_law_1554 rfl (lv_at hl 5 rfl) ?_
  refine lv_iload hx hb dL_law_1555 (lv_at hl 1 rfl) ?_
  refine lv_bipush (v := 6) hx hb dL_law_1557 (by decide) ?_
  refine lv_iadd hx hb dL_law_1559 ?_
  refine z_cst (v := 6) (by decide +kernel) ?_
  refine z_sld (v := (xs 6)) (j := 6) hx hb hX hbl hbA hS rfl (Nat.le_of_ble_eq_true rfl) rfl dL_law_1560 ?_
  refine lv_if_eq (tgt := 1568) hx hb dL_law_1561 (by decide) (fun c => absurd c h0) (fun _ => ?_)
  refine lv_iconst (v := 1) hx hb dL_law_1564 (by decide) ?_
  refine lv_goto (tgt := 1569) hx hb dL_law_1565 (by decide) ?_
  refine z_calli [(qm, zO 10 83 (zc71 u v))] [(qo, zJ K 1 (fun _ => 0))] [0] [1] hP hD hS hA rfl rfl (by decide +kernel) (by decide +kernel) (by decide +kernel) 125 1863522 rfl rfl (fun hPc hDc hF => z_runV (As := [.int (xs 1), .int (xs 2), .int (xs 3), .int (xs 4), .int (xs 5), .int 1]) (rest := []) ⟨hx, hb, hml, hown, hg⟩ (cX12_run_38 l K H.size qm (zc71 u v) (xs 1) (xs 2) (xs 3) (xs 4) (xs 5) (by rw [Int32.lt_iff_toInt_lt, show (0 : Int32).toInt = 0 from by decide]; omega) (by rw [Int32.lt_iff_toInt_lt, show (600 : Int32).toInt = 600 from by decide]; omega) (by rw [Int32.lt_iff_toInt_lt, show (0 : Int32).toInt = 0 from by decide]; omega) (by rw [Int32.lt_iff_toInt_lt, show (7 : Int32).toInt = 7 from by decide]; omega)) kV_RL_169 hd_X12_run rfl rfl ⟨(Nat.le_of_ble_eq_true rfl), (Nat.le_of_ble_eq_true rfl)⟩ hK hS hZ hPc hDc hF 0 rfl rfl rfl hl.1 rfl (Nat.le_of_ble_eq_true rfl) dL_law_1569 ⟨(Nat.le_of_ble_eq_true rfl), (Nat.le_of_ble_eq_true rfl)⟩) (fun r6 u4 H locs w5 hP hD hS => ?_)
  subst w5
  have hP : va_P K.1 classes [(qo, zJ K 1 (fun _ => 0)), (qm, zO 10 83 (va_up (zc71 u v) 81 (.int 1)))] H := hP
  have hD : va_D A [(qo, zJ K 1 (fun _ => 0)), (qm, zO 10 83 (va_up (zc71 u v) 81 (.int 1)))] := hD
  refine lv_istore (lv' := [(6, .int 0), (5, .int 1), (4, .int 0), (3, .ref qo), (2, .ref qm), (1, .ref qx), (0, .ref b)]) hx hb dL_law_1572 hl (by decide) rfl (fun ls hl => ?_)
  refine lv_aload_n hx hb dL_law_1574 rfl (lv_at hl 4 rfl) ?_
  refine z_calli [(qm, zO 10 83 (va_up (zc71 u v) 81 (.int 1)))] [(qo, zJ K 1 (fun _ => 0))] [1] [0] hP hD hS hA rfl rfl (by decide +kernel) (by decide +kernel) (by decide +kernel) 125 1863522 rfl rfl (fun hPc hDc hF => z_runV (As := []) (rest := []) ⟨hx, hb, hml, hown, hg⟩ (cX12_thrown_2 l K H.size qm (va_up (zc71 u v) 81 (.int 1)) zu_eq) kV_RL_104 hd_X12_thrown rfl rfl ⟨(Nat.le_of_ble_eq_true rfl), (Nat.le_of_ble_eq_true rfl)⟩ hK hS hZ hPc hDc hF 0 rfl rfl rfl hl.1 rfl (Nat.le_of_ble_eq_true rfl) dL_law_1575 ⟨(Nat.le_of_ble_eq_true rfl), (Nat.le_of_ble_eq_true rfl)⟩) (fun r9 u7 H locs w8 hP hD hS => ?_)
  subst w8
  have hP : va_P K.1 classes [(qo, zJ K 1 (fun _ => 0)), (qm, zO 10 83 (va_up (zc71 u v) 81 (.int 1)))] H := hP
  have hD : va_D A [(qo, zJ K 1 (fun _ => 0)), (qm, zO 10 83 (va_up (zc71 u v) 81 (.int 1)))] := hD
  refine lv_iload hx hb dL_law_1578 (lv_at hl 1 rfl) ?_
  refine lv_icmp_eq (tgt := 1585) hx hb dL_law_1580 (by decide) (fun _ => ?_) (fun c => absurd (by decide) c)
  refine lv_iload hx hb dL_law_1585 (lv_at hl 1 rfl) ?_
  refine lv_if_ne (tgt := 1602) hx hb dL_law_1587 (by decide) (fun _ => ?_) (fun c => absurd c (by decide))
  refine lv_goto (tgt := 2026) hx hb dL_law_1602 (by decide) ?_
  exact law_back ⟨hx, hb, hr, hml, hown, hg, hX, hbl, hlocks, hK, hZ, hl9, hAA, hA, hbA⟩ (Nat.le_of_ble_eq_true rfl) (Nat.le_of_ble_eq_true rfl) hS (lv_sub hl [2, 6] rfl)
theorem lawC_19 {p : Program} {l : Launch} {e : Env} {s : State} {m : MethodId} {below : List Frame} {meth : Method} {c : Code} {b : Nat} {xs : Nat → Int32} {K : zK} {A : Nat → Prop} {H : Heap} {locs : List Loc} {ls : Array Slot} (C : zC p l s m meth c b xs K A) (qx qm qo : Nat) (u v : Nat → Nat) (hP : va_P K.1 classes (lwW K qx qm qo u v) H) (hD : va_D A (lwW K qx qm qo u v)) (hS : va_S A s.heap H locs) (hl : lv_has ls 7 [(4, .int 0), (3, .ref qo), (2, .ref qm), (1, .ref qx), (0, .ref b)]) : W p l e room_1 s m #[Value.ref b] below meth c H locs 124 1863516 (lw_Z below #[Value.ref b] s) (F0 m 1471 ls []) := by
  rcases Classical.em (xs 6 = 0) with h0 | h0
  · rcases z_split (xs 5) (0) with h1 | h1
    · rcases z_split (xs 1) (0) with h2 | h2
      · exact lawS_19_0 C qx qm qo u v h0 h1 h2 hP hD hS hl
      · rcases z_split (xs 1) (8) with h3 | h3
        · rcases z_split (xs 2) (0) with h4 | h4
          · exact lawS_19_1 C qx qm qo u v h0 h1 h2 h3 h4 hP hD hS hl
          · rcases z_split (xs 2) (3) with h5 | h5
            · exact lawS_19_2 C qx qm qo u v h0 h1 h2 h3 h4 h5 hP hD hS hl
            · exact lawS_19_3 C qx qm qo u v h0 h1 h2 h3 h4 h5 hP hD hS hl
        · exact lawS_19_4 C qx qm qo u v h0 h1 h2 h3 hP hD hS hl
    · rcases z_split (xs 5) (601) with h2 | h2
      · rcases z_split (xs 1) (0) with h3 | h3
        · exact lawS_19_5 C qx qm qo u v h0 h1 h2 h3 hP hD hS hl
        · rcases z_split (xs 1) (8) with h4 | h4
          · rcases z_split (xs 2) (0) with h5 | h5
            · exact lawS_19_6 C qx qm qo u v h0 h1 h2 h3 h4 h5 hP hD hS hl
            · rcases z_split (xs 2) (3) with h6 | h6
              · rcases Classical.em (xs 5 = 1) with h7 | h7
                · rcases z_split (xs 2) (1) with h8 | h8
                  · exact lawS_19_7 C qx qm qo u v h0 h1 h2 h3 h4 h5 h6 h7 h8 hP hD hS hl
                  · rcases z_split (xs 2) (2) with h9 | h9
                    · exact lawS_19_8 C qx qm qo u v h0 h1 h2 h3 h4 h5 h6 h7 h8 h9 hP hD hS hl
                    · exact lawS_19_9 C qx qm qo u v h0 h1 h2 h3 h4 h5 h6 h7 h8 h9 hP hD hS hl
                · rcases z_split (xs 2) (1) with h8 | h8
                  · exact lawS_19_10 C qx qm qo u v h0 h1 h2 h3 h4 h5 h6 h7 h8 hP hD hS hl
                  · rcases z_split (xs 2) (2) with h9 | h9
                    · rcases Classical.em (xs 5 = 2) with h10 | h10
                      · exact lawS_19_11 C qx qm qo u v h0 h1 h2 h3 h4 h5 h6 h7 h8 h9 h10 hP hD hS hl
                      · exact lawS_19_12 C qx qm qo u v h0 h1 h2 h3 h4 h5 h6 h7 h8 h9 h10 hP hD hS hl
                    · rcases Classical.em (xs 5 = 2) with h10 | h10
                      · exact lawS_19_13 C qx qm qo u v h0 h1 h2 h3 h4 h5 h6 h7 h8 h9 h10 hP hD hS hl
                      · rcases Classical.em (xs 5 = 3) with h11 | h11
                        · exact lawS_19_14 C qx qm qo u v h0 h1 h2 h3 h4 h5 h6 h7 h8 h9 h10 h11 hP hD hS hl
                        · exact lawS_19_15 C qx qm qo u v h0 h1 h2 h3 h4 h5 h6 h7 h8 h9 h10 h11 hP hD hS hl
              · exact lawS_19_16 C qx qm qo u v h0 h1 h2 h3 h4 h5 h6 hP hD hS hl
          · exact lawS_19_17 C qx qm qo u v h0 h1 h2 h3 h4 hP hD hS hl
      · rcases z_split (xs 1) (0) with h3 | h3
        · exact lawS_19_18 C qx qm qo u v h0 h1 h2 h3 hP hD hS hl
        · rcases z_split (xs 1) (8) with h4 | h4
          · rcases z_split (xs 2) (0) with h5 | h5
            · exact lawS_19_19 C qx qm qo u v h0 h1 h2 h3 h4 h5 hP hD hS hl
            · rcases z_split (xs 2) (3) with h6 | h6
              · exact lawS_19_20 C qx qm qo u v h0 h1 h2 h3 h4 h5 h6 hP hD hS hl
              · exact lawS_19_21 C qx qm qo u v h0 h1 h2 h3 h4 h5 h6 hP hD hS hl
          · exact lawS_19_22 C qx qm qo u v h0 h1 h2 h3 h4 hP hD hS hl
  · rcases z_split (xs 5) (0) with h1 | h1
    · rcases z_split (xs 1) (0) with h2 | h2
      · exact lawS_19_23 C qx qm qo u v h0 h1 h2 hP hD hS hl
      · rcases z_split (xs 1) (8) with h3 | h3
        · rcases z_split (xs 2) (0) with h4 | h4
          · exact lawS_19_24 C qx qm qo u v h0 h1 h2 h3 h4 hP hD hS hl
          · rcases z_split (xs 2) (3) with h5 | h5
            · exact lawS_19_25 C qx qm qo u v h0 h1 h2 h3 h4 h5 hP hD hS hl
            · exact lawS_19_26 C qx qm qo u v h0 h1 h2 h3 h4 h5 hP hD hS hl
        · exact lawS_19_27 C qx qm qo u v h0 h1 h2 h3 hP hD hS hl
    · rcases z_split (xs 5) (601) with h2 | h2
      · rcases z_split (xs 1) (0) with h3 | h3
        · exact lawS_19_28 C qx qm qo u v h0 h1 h2 h3 hP hD hS hl
        · rcases z_split (xs 1) (8) with h4 | h4
          · rcases z_split (xs 2) (0) with h5 | h5
            · exact lawS_19_29 C qx qm qo u v h0 h1 h2 h3 h4 h5 hP hD hS hl
            · rcases z_split (xs 2) (3) with h6 | h6
              · exact lawS_19_30 C qx qm qo u v h0 h1 h2 h3 h4 h5 h6 hP hD hS hl
              · exact lawS_19_31 C qx qm qo u v h0 h1 h2 h3 h4 h5 h6 hP hD hS hl
          · exact lawS_19_32 C qx qm qo u v h0 h1 h2 h3 h4 hP hD hS hl
      · rcases z_split (xs 1) (0) with h3 | h3
        · exact lawS_19_33 C qx qm qo u v h0 h1 h2 h3 hP hD hS hl
        · rcases z_split (xs 1) (8) with h4 | h4
          · rcases z_split (xs 2) (0) with h5 | h5
            · exact lawS_19_34 C qx qm qo u v h0 h1 h2 h3 h4 h5 hP hD hS hl
            · rcases z_split (xs 2) (3) with h6 | h6
              · exact lawS_19_35 C qx qm qo u v h0 h1 h2 h3 h4 h5 h6 hP hD hS hl
              · exact lawS_19_36 C qx qm qo u v h0 h1 h2 h3 h4 h5 h6 hP hD hS hl
          · exact lawS_19_37 C qx qm qo u v h0 h1 h2 h3 h4 hP hD hS hl
