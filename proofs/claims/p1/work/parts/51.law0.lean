/-! the law, case by case (printed by wip/p1/lawgen.py) -/
set_option maxHeartbeats 4000000 in
set_option maxRecDepth 100000 in
theorem lawS_0_0 {p : Program} {l : Launch} {e : Env} {s : State} {m : MethodId} {below : List Frame} {meth : Method} {c : Code} {b : Nat} {xs : Nat → Int32} {K : zK} {A : Nat → Prop} {H : Heap} {locs : List Loc} {ls : Array Slot} (C : zC p l s m meth c b xs K A) (qx qm qo : Nat) (u v : Nat → Nat) (hP : va_P K.1 classes (lwW K qx qm qo u v) H) (hD : va_D A (lwW K qx qm qo u v)) (hS : va_S A s.heap H locs) (hl : lv_has ls 7 [(4, .int 0), (3, .ref qo), (2, .ref qm), (1, .ref qx), (0, .ref b)]) : W p l e room_1 s m #[Value.ref b] below meth c H locs 124 1863516 (lw_Z below #[Value.ref b] s) (F0 m 160 ls []) := by
  obtain ⟨hx, hb, hr, hml, hown, hg, hX, hbl, hlocks, hK, hZ, hl9, hAA, hA, hbA⟩ := C
  have hP : va_P K.1 classes [(qx, zO 9 9 (zc0 u v)), ((u 0), zO 7 6 (zc1 u v)), ((u 1), zI K 200 (fun _ => 0)), ((u 2), zI K 200 (fun _ => 0)), ((u 3), zI K 200 (fun _ => 0)), ((u 4), zI K 200 (fun _ => 0)), ((u 5), zI K 600 (fun _ => 0)), ((u 6), zI K 200 (fun _ => 0)), ((u 7), zI K 200 (fun _ => 0)), (qm, zO 10 83 (zc71 u v)), ((v 0), zI K 200 (fun _ => 0)), ((v 1), zI K 200 (fun _ => 0)), ((v 2), zI K 200 (fun _ => 0)), ((v 3), zI K 200 (fun _ => 0)), ((v 4), zI K 200 (fun _ => 0)), ((v 5), zI K 600 (fun _ => 0)), ((v 6), zI K 200 (fun _ => 0)), (qo, zJ K 1 (fun _ => 0))] H := hP.sub [0, 1, 2, 3, 4, 5, 6, 7, 8, 71, 72, 73, 74, 75, 76, 77, 78, 123] rfl
  have hD : va_D A [(qx, zO 9 9 (zc0 u v)), ((u 0), zO 7 6 (zc1 u v)), ((u 1), zI K 200 (fun _ => 0)), ((u 2), zI K 200 (fun _ => 0)), ((u 3), zI K 200 (fun _ => 0)), ((u 4), zI K 200 (fun _ => 0)), ((u 5), zI K 600 (fun _ => 0)), ((u 6), zI K 200 (fun _ => 0)), ((u 7), zI K 200 (fun _ => 0)), (qm, zO 10 83 (zc71 u v)), ((v 0), zI K 200 (fun _ => 0)), ((v 1), zI K 200 (fun _ => 0)), ((v 2), zI K 200 (fun _ => 0)), ((v 3), zI K 200 (fun _ => 0)), ((v 4), zI K 200 (fun _ => 0)), ((v 5), zI K 600 (fun _ => 0)), ((v 6), zI K 200 (fun _ => 0)), (qo, zJ K 1 (fun _ => 0))] := hD.sub [0, 1, 2, 3, 4, 5, 6, 7, 8, 71, 72, 73, 74, 75, 76, 77, 78, 123] (by decide +kernel) rfl
  refine lv_aload_n hx hb dL_law_160 rfl (lv_at hl 3 rfl) ?_
  refine lv_aload_n hx hb dL_law_161 rfl (lv_at hl 4 rfl) ?_
  refine lv_iload hx hb dL_law_162 (lv_at hl 0 rfl) ?_
  refine lv_iconst (v := 1) hx hb dL_law_164 (by decide) ?_
  refine lv_iadd hx hb dL_law_165 ?_
  refine z_cst (v := 1) (by decide +kernel) ?_
  refine z_sld (v := (xs 1)) (j := 1) hx hb hX hbl hbA hS rfl (Nat.le_of_ble_eq_true rfl) rfl dL_law_166 ?_
  refine lv_aload_n hx hb dL_law_167 rfl (lv_at hl 1 rfl) ?_
  refine z_hcalli [(qx, zO 9 9 (zc0 u v)), ((u 0), zO 7 6 (zc1 u v)), ((u 1), zI K 200 (fun _ => 0)), ((u 2), zI K 200 (fun _ => 0)), ((u 3), zI K 200 (fun _ => 0)), ((u 4), zI K 200 (fun _ => 0)), ((u 5), zI K 600 (fun _ => 0)), ((u 6), zI K 200 (fun _ => 0)), ((u 7), zI K 200 (fun _ => 0)), (qo, zJ K 1 (fun _ => 0))] [(qm, zO 10 83 (zc71 u v)), ((v 0), zI K 200 (fun _ => 0)), ((v 1), zI K 200 (fun _ => 0)), ((v 2), zI K 200 (fun _ => 0)), ((v 3), zI K 200 (fun _ => 0)), ((v 4), zI K 200 (fun _ => 0)), ((v 5), zI K 600 (fun _ => 0)), ((v 6), zI K 200 (fun _ => 0))] [0, 1, 2, 3, 4, 5, 6, 7, 8, 17] [9, 10, 11, 12, 13, 14, 15, 16] hP hD hS hA rfl rfl (by decide +kernel) (by decide +kernel) (by decide +kernel) 124 1863516 rfl rfl (fun hPc hDc hF => z_xrunH (As := [.ref qx, .int (xs 1), .ref qo]) (rest := []) ⟨hx, hb, hml, hown, hg⟩ (cL_num_1 l hl9 K H.size qx qo (u 0) (u 1) (u 2) (u 3) (u 4) (u 5) (u 6) (u 7) (zc0 u v) (zc1 u v) (fun _ => 0) (fun _ => 0) (fun _ => 0) (fun _ => 0) (fun _ => 0) (fun _ => 0) (fun _ => 0) (fun _ => 0) (xs 1) (zc0_0 u v) (zc1_0 u v) (zc1_5 u v) (zc1_1 u v) (zc1_2 u v) (zc1_3 u v) (zc1_4 u v) (zc0_1 u v) (zc0_2 u v)) kS_RL_98 hd_L_num rfl rfl ⟨(Nat.le_of_ble_eq_true rfl), (Nat.le_of_ble_eq_true rfl)⟩ hK hS hZ hPc hDc hF rfl hl.1 rfl (Nat.le_of_ble_eq_true rfl) dL_law_168 ⟨(Nat.le_of_ble_eq_true rfl), (Nat.le_of_ble_eq_true rfl)⟩) (fun r3 u1 H locs w2 hP hD hS => ?_)
  subst w2
  have hP : va_P K.1 classes [(qm, zO 10 83 (zc71 u v)), ((v 0), zI K 200 (fun _ => 0)), ((v 1), zI K 200 (fun _ => 0)), ((v 2), zI K 200 (fun _ => 0)), ((v 3), zI K 200 (fun _ => 0)), ((v 4), zI K 200 (fun _ => 0)), ((v 5), zI K 600 (fun _ => 0)), ((v 6), zI K 200 (fun _ => 0)), (qo, zJ K 1 (va_up (fun _ => 0) 0 0))] H := hP
  have hD : va_D A [(qm, zO 10 83 (zc71 u v)), ((v 0), zI K 200 (fun _ => 0)), ((v 1), zI K 200 (fun _ => 0)), ((v 2), zI K 200 (fun _ => 0)), ((v 3), zI K 200 (fun _ => 0)), ((v 4), zI K 200 (fun _ => 0)), ((v 5), zI K 600 (fun _ => 0)), ((v 6), zI K 200 (fun _ => 0)), (qo, zJ K 1 (va_up (fun _ => 0) 0 0))] := hD
  refine lv_istore (lv' := [(5, .int 0), (4, .int 0), (3, .ref qo), (2, .ref qm), (1, .ref qx), (0, .ref b)]) hx hb dL_law_171 hl (by decide) rfl (fun ls hl => ?_)
  refine lv_aload_n hx hb dL_law_173 rfl (lv_at hl 3 rfl) ?_
  refine lv_aload_n hx hb dL_law_174 rfl (lv_at hl 5 rfl) ?_
  refine lv_iload hx hb dL_law_175 (lv_at hl 1 rfl) ?_
  refine lv_iconst (v := 1) hx hb dL_law_177 (by decide) ?_
  refine lv_iadd hx hb dL_law_178 ?_
  refine z_cst (v := 1) (by decide +kernel) ?_
  refine z_sld (v := (xs 1)) (j := 1) hx hb hX hbl hbA hS rfl (Nat.le_of_ble_eq_true rfl) rfl dL_law_179 ?_
  refine z_calli [(qm, zO 10 83 (zc71 u v)), ((v 0), zI K 200 (fun _ => 0)), ((v 1), zI K 200 (fun _ => 0)), ((v 2), zI K 200 (fun _ => 0)), ((v 3), zI K 200 (fun _ => 0)), ((v 5), zI K 600 (fun _ => 0)), ((v 4), zI K 200 (fun _ => 0)), ((v 6), zI K 200 (fun _ => 0))] [(qo, zJ K 1 (va_up (fun _ => 0) 0 0))] [0, 1, 2, 3, 4, 6, 5, 7] [8] hP hD hS hA rfl rfl (by decide +kernel) (by decide +kernel) (by decide +kernel) 124 1863516 rfl rfl (fun hPc hDc hF => z_runV (As := [.int (xs 1)]) (rest := []) ⟨hx, hb, hml, hown, hg⟩ (cX12_num_1 l K H.size qm (v 0) (v 1) (v 2) (v 3) (v 5) (v 4) (v 6) (zc71 u v) (fun _ => 0) (fun _ => 0) (fun _ => 0) (fun _ => 0) (fun _ => 0) (fun _ => 0) (fun _ => 0) (xs 1) (zc71_0 u v) (zc71_1 u v) (zc71_2 u v) (zc71_3 u v) (zc71_4 u v) (zc71_6 u v) (zc71_5 u v) (zc71_7 u v)) kV_RL_103 hd_X12_num rfl rfl ⟨(Nat.le_of_ble_eq_true rfl), (Nat.le_of_ble_eq_true rfl)⟩ hK hS hZ hPc hDc hF 0 rfl rfl rfl hl.1 rfl (Nat.le_of_ble_eq_true rfl) dL_law_180 ⟨(Nat.le_of_ble_eq_true rfl), (Nat.le_of_ble_eq_true rfl)⟩) (fun r6 u4 H locs w5 hP hD hS => ?_)
  subst w5
  have hP : va_P K.1 classes [(qo, zJ K 1 (va_up (fun _ => 0) 0 0)), (qm, zO 10 83 (va_up (va_up (zc71 u v) 81 (.int 0)) 0 (.int 1)))] H := hP
  have hD : va_D A [(qo, zJ K 1 (va_up (fun _ => 0) 0 0)), (qm, zO 10 83 (va_up (va_up (zc71 u v) 81 (.int 0)) 0 (.int 1)))] := hD
  refine lv_istore (lv' := [(6, .int 0), (5, .int 0), (4, .int 0), (3, .ref qo), (2, .ref qm), (1, .ref qx), (0, .ref b)]) hx hb dL_law_183 hl (by decide) rfl (fun ls hl => ?_)
  refine lv_aload_n hx hb dL_law_185 rfl (lv_at hl 4 rfl) ?_
  refine z_calli [(qm, zO 10 83 (va_up (va_up (zc71 u v) 81 (.int 0)) 0 (.int 1)))] [(qo, zJ K 1 (va_up (fun _ => 0) 0 0))] [1] [0] hP hD hS hA rfl rfl (by decide +kernel) (by decide +kernel) (by decide +kernel) 124 1863516 rfl rfl (fun hPc hDc hF => z_runV (As := []) (rest := []) ⟨hx, hb, hml, hown, hg⟩ (cX12_thrown_1 l K H.size qm (va_up (va_up (zc71 u v) 81 (.int 0)) 0 (.int 1)) (zu_ne (by decide) zu_eq)) kV_RL_104 hd_X12_thrown rfl rfl ⟨(Nat.le_of_ble_eq_true rfl), (Nat.le_of_ble_eq_true rfl)⟩ hK hS hZ hPc hDc hF 0 rfl rfl rfl hl.1 rfl (Nat.le_of_ble_eq_true rfl) dL_law_186 ⟨(Nat.le_of_ble_eq_true rfl), (Nat.le_of_ble_eq_true rfl)⟩) (fun r9 u7 H locs w8 hP hD hS => ?_)
  subst w8
  have hP : va_P K.1 classes [(qo, zJ K 1 (va_up (fun _ => 0) 0 0)), (qm, zO 10 83 (va_up (va_up (zc71 u v) 81 (.int 0)) 0 (.int 1)))] H := hP
  have hD : va_D A [(qo, zJ K 1 (va_up (fun _ => 0) 0 0)), (qm, zO 10 83 (va_up (va_up (zc71 u v) 81 (.int 0)) 0 (.int 1)))] := hD
  refine lv_iload hx hb dL_law_189 (lv_at hl 1 rfl) ?_
  refine lv_icmp_eq (tgt := 196) hx hb dL_law_191 (by decide) (fun _ => ?_) (fun c => absurd (by decide) c)
  refine lv_iload hx hb dL_law_196 (lv_at hl 1 rfl) ?_
  refine lv_if_ne (tgt := 213) hx hb dL_law_198 (by decide) (fun c => absurd (by decide) c) (fun _ => ?_)
  refine lv_aload_n hx hb dL_law_201 rfl (lv_at hl 3 rfl) ?_
  refine lv_iconst (v := 0) hx hb dL_law_202 (by decide) ?_
  refine z_lald (v := 0) (j := 0) hx hb hK hP 0 rfl rfl (Nat.le_of_ble_eq_true rfl) (Nat.le_of_ble_eq_true rfl) zu_eq dL_law_203 ?_
  refine lv_iload hx hb dL_law_204 (lv_at hl 0 rfl) ?_
  refine lv_i2l hx hb dL_law_206 rfl ?_
  refine z_cstl (v := 0) (by decide +kernel) ?_
  refine W.lcmp hx hb dL_law_207 ?_
  refine z_cst (v := 0) (by decide +kernel) ?_
  refine lv_if_eq (tgt := 213) hx hb dL_law_208 (by decide) (fun _ => ?_) (fun c => absurd (by decide) c)
  refine lv_goto (tgt := 2026) hx hb dL_law_213 (by decide) ?_
  exact law_back ⟨hx, hb, hr, hml, hown, hg, hX, hbl, hlocks, hK, hZ, hl9, hAA, hA, hbA⟩ (Nat.le_of_ble_eq_true rfl) (Nat.le_of_ble_eq_true rfl) hS (lv_sub hl [2, 6] rfl)
theorem lawC_0 {p : Program} {l : Launch} {e : Env} {s : State} {m : MethodId} {below : List Frame} {meth : Method} {c : Code} {b : Nat} {xs : Nat → Int32} {K : zK} {A : Nat → Prop} {H : Heap} {locs : List Loc} {ls : Array Slot} (C : zC p l s m meth c b xs K A) (qx qm qo : Nat) (u v : Nat → Nat) (hP : va_P K.1 classes (lwW K qx qm qo u v) H) (hD : va_D A (lwW K qx qm qo u v)) (hS : va_S A s.heap H locs) (hl : lv_has ls 7 [(4, .int 0), (3, .ref qo), (2, .ref qm), (1, .ref qx), (0, .ref b)]) : W p l e room_1 s m #[Value.ref b] below meth c H locs 124 1863516 (lw_Z below #[Value.ref b] s) (F0 m 160 ls []) := by
  exact lawS_0_0 C qx qm qo u v hP hD hS hl
set_option maxHeartbeats 4000000 in
set_option maxRecDepth 100000 in
theorem lawS_1_0 {p : Program} {l : Launch} {e : Env} {s : State} {m : MethodId} {below : List Frame} {meth : Method} {c : Code} {b : Nat} {xs : Nat → Int32} {K : zK} {A : Nat → Prop} {H : Heap} {locs : List Loc} {ls : Array Slot} (C : zC p l s m meth c b xs K A) (qx qm qo : Nat) (u v : Nat → Nat) (h0 : (xs 1).toInt < 0) (hP : va_P K.1 classes (lwW K qx qm qo u v) H) (hD : va_D A (lwW K qx qm qo u v)) (hS : va_S A s.heap H locs) (hl : lv_has ls 7 [(4, .int 0), (3, .ref qo), (2, .ref qm), (1, .ref qx), (0, .ref b)]) : W p l e room_1 s m #[Value.ref b] below meth c H locs 124 1863516 (lw_Z below #[Value.ref b] s) (F0 m 216 ls []) := by
  obtain ⟨hx, hb, hr, hml, hown, hg, hX, hbl, hlocks, hK, hZ, hl9, hAA, hA, hbA⟩ := C
  have hP : va_P K.1 classes [(qx, zO 9 9 (zc0 u v)), (qm, zO 10 83 (zc71 u v)), (qo, zJ K 1 (fun _ => 0))] H := hP.sub [0, 71, 123] rfl
  have hD : va_D A [(qx, zO 9 9 (zc0 u v)), (qm, zO 10 83 (zc71 u v)), (qo, zJ K 1 (fun _ => 0))] := hD.sub [0, 71, 123] (by decide +kernel) rfl
  refine lv_aload_n hx hb dL_law_216 rfl (lv_at hl 3 rfl) ?_
  refine lv_aload_n hx hb dL_law_217 rfl (lv_at hl 4 rfl) ?_
  refine lv_iload hx hb dL_law_218 (lv_at hl 0 rfl) ?_
  refine lv_iconst (v := 1) hx hb dL_law_220 (by decide) ?_
  refine lv_iadd hx hb dL_law_221 ?_
  refine z_cst (v := 1) (by decide +kernel) ?_
  refine z_sld (v := (xs 1)) (j := 1) hx hb hX hbl hbA hS rfl (Nat.le_of_ble_eq_true rfl) rfl dL_law_222 ?_
  refine lv_aload_n hx hb dL_law_223 rfl (lv_at hl 1 rfl) ?_
  refine z_hcalli [(qx, zO 9 9 (zc0 u v))] [(qm, zO 10 83 (zc71 u v)), (qo, zJ K 1 (fun _ => 0))] [0] [1, 2] hP hD hS hA rfl rfl (by decide +kernel) (by decide +kernel) (by decide +kernel) 125 1863522 rfl rfl (fun hPc hDc hF => z_xrunH (As := [.ref qx, .int (xs 1), .ref qo]) (rest := []) ⟨hx, hb, hml, hown, hg⟩ (cL_var_1 l hl9 K H.size qx qo (zc0 u v) (xs 1) (by rw [Int32.lt_iff_toInt_lt, show (0 : Int32).toInt = 0 from by decide]; omega)) kS_RL_108 hd_L_var rfl rfl ⟨(Nat.le_of_ble_eq_true rfl), (Nat.le_of_ble_eq_true rfl)⟩ hK hS hZ hPc hDc hF rfl hl.1 rfl (Nat.le_of_ble_eq_true rfl) dL_law_224 ⟨(Nat.le_of_ble_eq_true rfl), (Nat.le_of_ble_eq_true rfl)⟩) (fun r3 u1 H locs w2 hP hD hS => ?_)
  subst w2
  have hP : va_P K.1 classes [(qm, zO 10 83 (zc71 u v)), (qo, zJ K 1 (fun _ => 0))] H := hP
  have hD : va_D A [(qm, zO 10 83 (zc71 u v)), (qo, zJ K 1 (fun _ => 0))] := hD
  refine lv_istore (lv' := [(5, .int 1), (4, .int 0), (3, .ref qo), (2, .ref qm), (1, .ref qx), (0, .ref b)]) hx hb dL_law_227 hl (by decide) rfl (fun ls hl => ?_)
  refine lv_aload_n hx hb dL_law_229 rfl (lv_at hl 3 rfl) ?_
  refine lv_aload_n hx hb dL_law_230 rfl (lv_at hl 5 rfl) ?_
  refine lv_iload hx hb dL_law_231 (lv_at hl 1 rfl) ?_
  refine lv_iconst (v := 1) hx hb dL_law_233 (by decide) ?_
  refine lv_iadd hx hb dL_law_234 ?_
  refine z_cst (v := 1) (by decide +kernel) ?_
  refine z_sld (v := (xs 1)) (j := 1) hx hb hX hbl hbA hS rfl (Nat.le_of_ble_eq_true rfl) rfl dL_law_235 ?_
  refine z_calli [(qm, zO 10 83 (zc71 u v))] [(qo, zJ K 1 (fun _ => 0))] [0] [1] hP hD hS hA rfl rfl (by decide +kernel) (by decide +kernel) (by decide +kernel) 125 1863522 rfl rfl (fun hPc hDc hF => z_runV (As := [.int (xs 1)]) (rest := []) ⟨hx, hb, hml, hown, hg⟩ (cX12_var_1 l K H.size qm (zc71 u v) (xs 1) (by rw [Int32.lt_iff_toInt_lt, show (0 : Int32).toInt = 0 from by decide]; omega)) kV_RL_110 hd_X12_var rfl rfl ⟨(Nat.le_of_ble_eq_true rfl), (Nat.le_of_ble_eq_true rfl)⟩ hK hS hZ hPc hDc hF 0 rfl rfl rfl hl.1 rfl (Nat.le_of_ble_eq_true rfl) dL_law_236 ⟨(Nat.le_of_ble_eq_true rfl), (Nat.le_of_ble_eq_true rfl)⟩) (fun r6 u4 H locs w5 hP hD hS => ?_)
  subst w5
  have hP : va_P K.1 classes [(qo, zJ K 1 (fun _ => 0)), (qm, zO 10 83 (va_up (zc71 u v) 81 (.int 1)))] H := hP
  have hD : va_D A [(qo, zJ K 1 (fun _ => 0)), (qm, zO 10 83 (va_up (zc71 u v) 81 (.int 1)))] := hD
  refine lv_istore (lv' := [(6, .int 0), (5, .int 1), (4, .int 0), (3, .ref qo), (2, .ref qm), (1, .ref qx), (0, .ref b)]) hx hb dL_law_239 hl (by decide) rfl (fun ls hl => ?_)
  refine lv_aload_n hx hb dL_law_241 rfl (lv_at hl 4 rfl) ?_
  refine z_calli [(qm, zO 10 83 (va_up (zc71 u v) 81 (.int 1)))] [(qo, zJ K 1 (fun _ => 0))] [1] [0] hP hD hS hA rfl rfl (by decide +kernel) (by decide +kernel) (by decide +kernel) 125 1863522 rfl rfl (fun hPc hDc hF => z_runV (As := []) (rest := []) ⟨hx, hb, hml, hown, hg⟩ (cX12_thrown_2 l K H.size qm (va_up (zc71 u v) 81 (.int 1)) zu_eq) kV_RL_104 hd_X12_thrown rfl rfl ⟨(Nat.le_of_ble_eq_true rfl), (Nat.le_of_ble_eq_true rfl)⟩ hK hS hZ hPc hDc hF 0 rfl rfl rfl hl.1 rfl (Nat.le_of_ble_eq_true rfl) dL_law_242 ⟨(Nat.le_of_ble_eq_true rfl), (Nat.le_of_ble_eq_true rfl)⟩) (fun r9 u7 H locs w8 hP hD hS => ?_)
  subst w8
  have hP : va_P K.1 classes [(qo, zJ K 1 (fun _ => 0)), (qm, zO 10 83 (va_up (zc71 u v) 81 (.int 1)))] H := hP
  have hD : va_D A [(qo, zJ K 1 (fun _ => 0)), (qm, zO 10 83 (va_up (zc71 u v) 81 (.int 1)))] := hD
  refine lv_iload hx hb dL_law_245 (lv_at hl 1 rfl) ?_
  refine lv_icmp_eq (tgt := 252) hx hb dL_law_247 (by decide) (fun _ => ?_) (fun c => absurd (by decide) c)
  refine lv_iload hx hb dL_law_252 (lv_at hl 1 rfl) ?_
  refine lv_if_ne (tgt := 269) hx hb dL_law_254 (by decide) (fun _ => ?_) (fun c => absurd c (by decide))
  refine lv_goto (tgt := 2026) hx hb dL_law_269 (by decide) ?_
  exact law_back ⟨hx, hb, hr, hml, hown, hg, hX, hbl, hlocks, hK, hZ, hl9, hAA, hA, hbA⟩ (Nat.le_of_ble_eq_true rfl) (Nat.le_of_ble_eq_true rfl) hS (lv_sub hl [2, 6] rfl)
set_option maxHeartbeats 4000000 in
set_option maxRecDepth 100000 in
theorem lawS_1_1 {p : Program} {l : Launch} {e : Env} {s : State} {m : MethodId} {below : List Frame} {meth : Method} {c : Code} {b : Nat} {xs : Nat → Int32} {K : zK} {A : Nat → Prop} {H : Heap} {locs : List Loc} {ls : Array Slot} (C : zC p l s m meth c b xs K A) (qx qm qo : Nat) (u v : Nat → Nat) (h0 : 0 ≤ (xs 1).toInt) (h1 : (xs 1).toInt < 16) (hP : va_P K.1 classes (lwW K qx qm qo u v) H) (hD : va_D A (lwW K qx qm qo u v)) (hS : va_S A s.heap H locs) (hl : lv_has ls 7 [(4, .int 0), (3, .ref qo), (2, .ref qm), (1, .ref qx), (0, .ref b)]) : W p l e room_1 s m #[Value.ref b] below meth c H locs 124 1863516 (lw_Z below #[Value.ref b] s) (F0 m 216 ls []) := by
  obtain ⟨hx, hb, hr, hml, hown, hg, hX, hbl, hlocks, hK, hZ, hl9, hAA, hA, hbA⟩ := C
  have hP : va_P K.1 classes [(qx, zO 9 9 (zc0 u v)), ((u 0), zO 7 6 (zc1 u v)), ((u 1), zI K 200 (fun _ => 0)), ((u 2), zI K 200 (fun _ => 0)), ((u 3), zI K 200 (fun _ => 0)), ((u 4), zI K 200 (fun _ => 0)), ((u 5), zI K 600 (fun _ => 0)), ((u 6), zI K 200 (fun _ => 0)), ((u 7), zI K 200 (fun _ => 0)), (qm, zO 10 83 (zc71 u v)), ((v 0), zI K 200 (fun _ => 0)), ((v 1), zI K 200 (fun _ => 0)), ((v 2), zI K 200 (fun _ => 0)), ((v 3), zI K 200 (fun _ => 0)), ((v 4), zI K 200 (fun _ => 0)), ((v 5), zI K 600 (fun _ => 0)), ((v 6), zI K 200 (fun _ => 0)), (qo, zJ K 1 (fun _ => 0))] H := hP.sub [0, 1, 2, 3, 4, 5, 6, 7, 8, 71, 72, 73, 74, 75, 76, 77, 78, 123] rfl
  have hD : va_D A [(qx, zO 9 9 (zc0 u v)), ((u 0), zO 7 6 (zc1 u v)), ((u 1), zI K 200 (fun _ => 0)), ((u 2), zI K 200 (fun _ => 0)), ((u 3), zI K 200 (fun _ => 0)), ((u 4), zI K 200 (fun _ => 0)), ((u 5), zI K 600 (fun _ => 0)), ((u 6), zI K 200 (fun _ => 0)), ((u 7), zI K 200 (fun _ => 0)), (qm, zO 10 83 (zc71 u v)), ((v 0), zI K 200 (fun _ => 0)), ((v 1), zI K 200 (fun _ => 0)), ((v 2), zI K 200 (fun _ => 0)), ((v 3), zI K 200 (fun _ => 0)), ((v 4), zI K 200 (fun _ => 0)), ((v 5), zI K 600 (fun _ => 0)), ((v 6), zI K 200 (fun _ => 0)), (qo, zJ K 1 (fun _ => 0))] := hD.sub [0, 1, 2, 3, 4, 5, 6, 7, 8, 71, 72, 73, 74, 75, 76, 77, 78, 123] (by decide +kernel) rfl
  obtain ⟨t1, ht1, v1⟩ : ∃ j : Nat, j < 16 ∧ xs 1 = nI j := z_nat (n := 16) (by omega) (by omega) (by decide)
  refine lv_aload_n hx hb dL_law_216 rfl (lv_at hl 3 rfl) ?_
  refine lv_aload_n hx hb dL_law_217 rfl (lv_at hl 4 rfl) ?_
  refine lv_iload hx hb dL_law_218 (lv_at hl 0 rfl) ?_
  refine lv_iconst (v := 1) hx hb dL_law_220 (by decide) ?_
  refine lv_iadd hx hb dL_law_221 ?_
  refine z_cst (v := 1) (by decide +kernel) ?_
  refine z_sld (v := (nI t1)) (j := 1) hx hb hX hbl hbA hS rfl (Nat.le_of_ble_eq_true rfl) v1 dL_law_222 ?_
  refine lv_aload_n hx hb dL_law_223 rfl (lv_at hl 1 rfl) ?_
  refine z_hcalli [(qx, zO 9 9 (zc0 u v)), ((u 0), zO 7 6 (zc1 u v)), ((u 1), zI K 200 (fun _ => 0)), ((u 2), zI K 200 (fun _ => 0)), ((u 3), zI K 200 (fun _ => 0)), ((u 4), zI K 200 (fun _ => 0)), ((u 5), zI K 600 (fun _ => 0)), ((u 6), zI K 200 (fun _ => 0)), ((u 7), zI K 200 (fun _ => 0)), (qo, zJ K 1 (fun _ => 0))] [(qm, zO 10 83 (zc71 u v)), ((v 0), zI K 200 (fun _ => 0)), ((v 1), zI K 200 (fun _ => 0)), ((v 2), zI K 200 (fun _ => 0)), ((v 3), zI K 200 (fun _ => 0)), ((v 4), zI K 200 (fun _ => 0)), ((v 5), zI K 600 (fun _ => 0)), ((v 6), zI K 200 (fun _ => 0))] [0, 1, 2, 3, 4, 5, 6, 7, 8, 17] [9, 10, 11, 12, 13, 14, 15, 16] hP hD hS hA rfl rfl (by decide +kernel) (by decide +kernel) (by decide +kernel) 124 1863516 rfl rfl (fun hPc hDc hF => z_xrunH (As := [.ref qx, .int (nI t1), .ref qo]) (rest := []) ⟨hx, hb, hml, hown, hg⟩ (cL_var_2 l hl9 K H.size qx qo (u 0) (u 1) (u 2) (u 3) (u 4) (u 5) (u 6) (u 7) (zc0 u v) (zc1 u v) (fun _ => 0) (fun _ => 0) (fun _ => 0) (fun _ => 0) (fun _ => 0) (fun _ => 0) (fun _ => 0) (fun _ => 0) t1 ht1 (zc0_0 u v) (zc1_0 u v) (zc1_5 u v) (zc1_1 u v) (zc1_2 u v) (zc1_3 u v) (zc1_4 u v) (zc0_1 u v) (zc0_2 u v)) kS_RL_108 hd_L_var rfl rfl ⟨(Nat.le_of_ble_eq_true rfl), (Nat.le_of_ble_eq_true rfl)⟩ hK hS hZ hPc hDc hF rfl hl.1 rfl (Nat.le_of_ble_eq_true rfl) dL_law_224 ⟨(Nat.le_of_ble_eq_true rfl), (Nat.le_of_ble_eq_true rfl)⟩) (fun r3 u1 H locs w2 hP hD hS => ?_)
  subst w2
  have hP : va_P K.1 classes [(qm, zO 10 83 (zc71 u v)), ((v 0), zI K 200 (fun _ => 0)), ((v 1), zI K 200 (fun _ => 0)), ((v 2), zI K 200 (fun _ => 0)), ((v 3), zI K 200 (fun _ => 0)), ((v 4), zI K 200 (fun _ => 0)), ((v 5), zI K 600 (fun _ => 0)), ((v 6), zI K 200 (fun _ => 0)), (qo, zJ K 1 (va_up (fun _ => 0) 0 0))] H := hP
  have hD : va_D A [(qm, zO 10 83 (zc71 u v)), ((v 0), zI K 200 (fun _ => 0)), ((v 1), zI K 200 (fun _ => 0)), ((v 2), zI K 200 (fun _ => 0)), ((v 3), zI K 200 (fun _ => 0)), ((v 4), zI K 200 (fun _ => 0)), ((v 5), zI K 600 (fun _ => 0)), ((v 6), zI K 200 (fun _ => 0)), (qo, zJ K 1 (va_up (fun _ => 0) 0 0))] := hD
  refine lv_istore (lv' := [(5, .int 0), (4, .int 0), (3, .ref qo), (2, .ref qm), (1, .ref qx), (0, .ref b)]) hx hb dL_law_227 hl (by decide) rfl (fun ls hl => ?_)
  refine lv_aload_n hx hb dL_law_229 rfl (lv_at hl 3 rfl) ?_
  refine lv_aload_n hx hb dL_law_230 rfl (lv_at hl 5 rfl) ?_
  refine lv_iload hx hb dL_law_231 (lv_at hl 1 rfl) ?_
  refine lv_iconst (v := 1) hx hb dL_law_233 (by decide) ?_
  refine lv_iadd hx hb dL_law_234 ?_
  refine z_cst (v := 1) (by decide +kernel) ?_
  refine z_sld (v := (nI t1)) (j := 1) hx hb hX hbl hbA hS rfl (Nat.le_of_ble_eq_true rfl) v1 dL_law_235 ?_
  refine z_calli [(qm, zO 10 83 (zc71 u v)), ((v 0), zI K 200 (fun _ => 0)), ((v 1), zI K 200 (fun _ => 0)), ((v 2), zI K 200 (fun _ => 0)), ((v 3), zI K 200 (fun _ => 0)), ((v 5), zI K 600 (fun _ => 0)), ((v 4), zI K 200 (fun _ => 0)), ((v 6), zI K 200 (fun _ => 0))] [(qo, zJ K 1 (va_up (fun _ => 0) 0 0))] [0, 1, 2, 3, 4, 6, 5, 7] [8] hP hD hS hA rfl rfl (by decide +kernel) (by decide +kernel) (by decide +kernel) 124 1863516 rfl rfl (fun hPc hDc hF => z_runV (As := [.int (nI t1)]) (rest := []) ⟨hx, hb, hml, hown, hg⟩ (cX12_var_2 l K H.size qm (v 0) (v 1) (v 2) (v 3) (v 5) (v 4) (v 6) (zc71 u v) (fun _ => 0) (fun _ => 0) (fun _ => 0) (fun _ => 0) (fun _ => 0) (fun _ => 0) (fun _ => 0) t1 ht1 (zc71_0 u v) (zc71_1 u v) (zc71_2 u v) (zc71_3 u v) (zc71_4 u v) (zc71_6 u v) (zc71_5 u v) (zc71_7 u v)) kV_RL_110 hd_X12_var rfl rfl ⟨(Nat.le_of_ble_eq_true rfl), (Nat.le_of_ble_eq_true rfl)⟩ hK hS hZ hPc hDc hF 0 rfl rfl rfl hl.1 rfl (Nat.le_of_ble_eq_true rfl) dL_law_236 ⟨(Nat.le_of_ble_eq_true rfl), (Nat.le_of_ble_eq_true rfl)⟩) (fun r6 u4 H locs w5 hP hD hS => ?_)
  subst w5
  have hP : va_P K.1 classes [(qo, zJ K 1 (va_up (fun _ => 0) 0 0)), (qm, zO 10 83 (va_up (va_up (zc71 u v) 81 (.int 0)) 0 (.int 1)))] H := hP
  have hD : va_D A [(qo, zJ K 1 (va_up (fun _ => 0) 0 0)), (qm, zO 10 83 (va_up (va_up (zc71 u v) 81 (.int 0)) 0 (.int 1)))] := hD
  refine lv_istore (lv' := [(6, .int 0), (5, .int 0), (4, .int 0), (3, .ref qo), (2, .ref qm), (1, .ref qx), (0, .ref b)]) hx hb dL_law_239 hl (by decide) rfl (fun ls hl => ?_)
  refine lv_aload_n hx hb dL_law_241 rfl (lv_at hl 4 rfl) ?_
  refine z_calli [(qm, zO 10 83 (va_up (va_up (zc71 u v) 81 (.int 0)) 0 (.int 1)))] [(qo, zJ K 1 (va_up (fun _ => 0) 0 0))] [1] [0] hP hD hS hA rfl rfl (by decide +kernel) (by decide +kernel) (by decide +kernel) 124 1863516 rfl rfl (fun hPc hDc hF => z_runV (As := []) (rest := []) ⟨hx, hb, hml, hown, hg⟩ (cX12_thrown_1 l K H.size qm (va_up (va_up (zc71 u v) 81 (.int 0)) 0 (.int 1)) (zu_ne (by decide) zu_eq)) kV_RL_104 hd_X12_thrown rfl rfl ⟨(Nat.le_of_ble_eq_true rfl), (Nat.le_of_ble_eq_true rfl)⟩ hK hS hZ hPc hDc hF 0 rfl rfl rfl hl.1 rfl (Nat.le_of_ble_eq_true rfl) dL_law_242 ⟨(Nat.le_of_ble_eq_true rfl), (Nat.le_of_ble_eq_true rfl)⟩) (fun r9 u7 H locs w8 hP hD hS => ?_)
  subst w8
  have hP : va_P K.1 classes [(qo, zJ K 1 (va_up (fun _ => 0) 0 0)), (qm, zO 10 83 (va_up (va_up (zc71 u v) 81 (.int 0)) 0 (.int 1)))] H := hP
  have hD : va_D A [(qo, zJ K 1 (va_up (fun _ => 0) 0 0)), (qm, zO 10 83 (va_up (va_up (zc71 u v) 81 (.int 0)) 0 (.int 1)))] := hD
  refine lv_iload hx hb dL_law_245 (lv_at hl 1 rfl) ?_
  refine lv_icmp_eq (tgt := 252) hx hb dL_law_247 (by decide) (fun _ => ?_) (fun c => absurd (by decide) c)
  refine lv_iload hx hb dL_law_252 (lv_at hl 1 rfl) ?_
  refine lv_if_ne (tgt := 269) hx hb dL_law_254 (by decide) (fun c => absurd (by decide) c) (fun _ => ?_)
  refine lv_aload_n hx hb dL_law_257 rfl (lv_at hl 3 rfl) ?_
  refine lv_iconst (v := 0) hx hb dL_law_258 (by decide) ?_
  refine z_lald (v := 0) (j := 0) hx hb hK hP 0 rfl rfl (Nat.le_of_ble_eq_true rfl) (Nat.le_of_ble_eq_true rfl) zu_eq dL_law_259 ?_
  refine lv_iload hx hb dL_law_260 (lv_at hl 0 rfl) ?_
  refine lv_i2l hx hb dL_law_262 rfl ?_
  refine z_cstl (v := 0) (by decide +kernel) ?_
  refine W.lcmp hx hb dL_law_263 ?_
  refine z_cst (v := 0) (by decide +kernel) ?_
  refine lv_if_eq (tgt := 269) hx hb dL_law_264 (by decide) (fun _ => ?_) (fun c => absurd (by decide) c)
  refine lv_goto (tgt := 2026) hx hb dL_law_269 (by decide) ?_
  exact law_back ⟨hx, hb, hr, hml, hown, hg, hX, hbl, hlocks, hK, hZ, hl9, hAA, hA, hbA⟩ (Nat.le_of_ble_eq_true rfl) (Nat.le_of_ble_eq_true rfl) hS (lv_sub hl [2, 6] rfl)
set_option maxHeartbeats 4000000 in
set_option maxRecDepth 100000 in
theorem lawS_1_2 {p : Program} {l : Launch} {e : Env} {s : State} {m : MethodId} {below : List Frame} {meth : Method} {c : Code} {b : Nat} {xs : Nat → Int32} {K : zK} {A : Nat → Prop} {H : Heap} {locs : List Loc} {ls : Array Slot} (C : zC p l s m meth c b xs K A) (qx qm qo : Nat) (u v : Nat → Nat) (h0 : 0 ≤ (xs 1).toInt) (h1 : 16 ≤ (xs 1).toInt) (hP : va_P K.1 classes (lwW K qx qm qo u v) H) (hD : va_D A (lwW K qx qm qo u v)) (hS : va_S A s.heap H locs) (hl : lv_has ls 7 [(4, .int 0), (3, .ref qo), (2, .ref qm), (1, .ref qx), (0, .ref b)]) : W p l e room_1 s m #[Value.ref b] below meth c H locs 124 1863516 (lw_Z below #[Value.ref b] s) (F0 m 216 ls []) := by
  obtain ⟨hx, hb, hr, hml, hown, hg, hX, hbl, hlocks, hK, hZ, hl9, hAA, hA, hbA⟩ := C
  have hP : va_P K.1 classes [(qx, zO 9 9 (zc0 u v)), (qm, zO 10 83 (zc71 u v)), (qo, zJ K 1 (fun _ => 0))] H := hP.sub [0, 71, 123] rfl
  have hD : va_D A [(qx, zO 9 9 (zc0 u v)), (qm, zO 10 83 (zc71 u v)), (qo, zJ K 1 (fun _ => 0))] := hD.sub [0, 71, 123] (by decide +kernel) rfl
  refine lv_aload_n hx hb dL_law_216 rfl (lv_at hl 3 rfl) ?_
  refine lv_aload_n hx hb dL_law_217 rfl (lv_at hl 4 rfl) ?_
  refine lv_iload hx hb dL_law_218 (lv_at hl 0 rfl) ?_
  refine lv_iconst (v := 1) hx hb dL_law_220 (by decide) ?_
  refine lv_iadd hx hb dL_law_221 ?_
  refine z_cst (v := 1) (by decide +kernel) ?_
  refine z_sld (v := (xs 1)) (j := 1) hx hb hX hbl hbA hS rfl (Nat.le_of_ble_eq_true rfl) rfl dL_law_222 ?_
  refine lv_aload_n hx hb dL_law_223 rfl (lv_at hl 1 rfl) ?_
  refine z_hcalli [(qx, zO 9 9 (zc0 u v))] [(qm, zO 10 83 (zc71 u v)), (qo, zJ K 1 (fun _ => 0))] [0] [1, 2] hP hD hS hA rfl rfl (by decide +kernel) (by decide +kernel) (by decide +kernel) 125 1863522 rfl rfl (fun hPc hDc hF => z_xrunH (As := [.ref qx, .int (xs 1), .ref qo]) (rest := []) ⟨hx, hb, hml, hown, hg⟩ (cL_var_3 l hl9 K H.size qx qo (zc0 u v) (xs 1) (by rw [Int32.lt_iff_toInt_lt, show (0 : Int32).toInt = 0 from by decide]; omega) (by rw [Int32.lt_iff_toInt_lt, show (16 : Int32).toInt = 16 from by decide]; omega)) kS_RL_108 hd_L_var rfl rfl ⟨(Nat.le_of_ble_eq_true rfl), (Nat.le_of_ble_eq_true rfl)⟩ hK hS hZ hPc hDc hF rfl hl.1 rfl (Nat.le_of_ble_eq_true rfl) dL_law_224 ⟨(Nat.le_of_ble_eq_true rfl), (Nat.le_of_ble_eq_true rfl)⟩) (fun r3 u1 H locs w2 hP hD hS => ?_)
  subst w2
  have hP : va_P K.1 classes [(qm, zO 10 83 (zc71 u v)), (qo, zJ K 1 (fun _ => 0))] H := hP
  have hD : va_D A [(qm, zO 10 83 (zc71 u v)), (qo, zJ K 1 (fun _ => 0))] := hD
  refine lv_istore (lv' := [(5, .int 1), (4, .int 0), (3, .ref qo), (2, .ref qm), (1, .ref qx), (0, .ref b)]) hx hb dL_law_227 hl (by decide) rfl (fun ls hl => ?_)
  refine lv_aload_n hx hb dL_law_229 rfl (lv_at hl 3 rfl) ?_
  refine lv_aload_n hx hb dL_law_230 rfl (lv_at hl 5 rfl) ?_
  refine lv_iload hx hb dL_law_231 (lv_at hl 1 rfl) ?_
  refine lv_iconst (v := 1) hx hb dL_law_233 (by decide) ?_
  refine lv_iadd hx hb dL_law_234 ?_
  refine z_cst (v := 1) (by decide +kernel) ?_
  refine z_sld (v := (xs 1)) (j := 1) hx hb hX hbl hbA hS rfl (Nat.le_of_ble_eq_true rfl) rfl dL_law_235 ?_
  refine z_calli [(qm, zO 10 83 (zc71 u v))] [(qo, zJ K 1 (fun _ => 0))] [0] [1] hP hD hS hA rfl rfl (by decide +kernel) (by decide +kernel) (by decide +kernel) 125 1863522 rfl rfl (fun hPc hDc hF => z_runV (As := [.int (xs 1)]) (rest := []) ⟨hx, hb, hml, hown, hg⟩ (cX12_var_3 l K H.size qm (zc71 u v) (xs 1) (by rw [Int32.lt_iff_toInt_lt, show (0 : Int32).toInt = 0 from by decide]; omega) (by rw [Int32.lt_iff_toInt_lt, show (15 : Int32).toInt = 15 from by decide]; omega)) kV_RL_110 hd_X12_var rfl rfl ⟨(Nat.le_of_ble_eq_true rfl), (Nat.le_of_ble_eq_true rfl)⟩ hK hS hZ hPc hDc hF 0 rfl rfl rfl hl.1 rfl (Nat.le_of_ble_eq_true rfl) dL_law_236 ⟨(Nat.le_of_ble_eq_true rfl), (Nat.le_of_ble_eq_true rfl)⟩) (fun r6 u4 H locs w5 hP hD hS => ?_)
  subst w5
  have hP : va_P K.1 classes [(qo, zJ K 1 (fun _ => 0)), (qm, zO 10 83 (va_up (zc71 u v) 81 (.int 1)))] H := hP
  have hD : va_D A [(qo, zJ K 1 (fun _ => 0)), (qm, zO 10 83 (va_up (zc71 u v) 81 (.int 1)))] := hD
  refine lv_istore (lv' := [(6, .int 0), (5, .int 1), (4, .int 0), (3, .ref qo), (2, .ref qm), (1, .ref qx), (0, .ref b)]) hx hb dL_law_239 hl (by decide) rfl (fun ls hl => ?_)
  refine lv_aload_n hx hb dL_law_241 rfl (lv_at hl 4 rfl) ?_
  refine z_calli [(qm, zO 10 83 (va_up (zc71 u v) 81 (.int 1)))] [(qo, zJ K 1 (fun _ => 0))] [1] [0] hP hD hS hA rfl rfl (by decide +kernel) (by decide +kernel) (by decide +kernel) 125 1863522 rfl rfl (fun hPc hDc hF => z_runV (As := []) (rest := []) ⟨hx, hb, hml, hown, hg⟩ (cX12_thrown_2 l K H.size qm (va_up (zc71 u v) 81 (.int 1)) zu_eq) kV_RL_104 hd_X12_thrown rfl rfl ⟨(Nat.le_of_ble_eq_true rfl), (Nat.le_of_ble_eq_true rfl)⟩ hK hS hZ hPc hDc hF 0 rfl rfl rfl hl.1 rfl (Nat.le_of_ble_eq_true rfl) dL_law_242 ⟨(Nat.le_of_ble_eq_true rfl), (Nat.le_of_ble_eq_true rfl)⟩) (fun r9 u7 H locs w8 hP hD hS => ?_)
  subst w8
  have hP : va_P K.1 classes [(qo, zJ K 1 (fun _ => 0)), (qm, zO 10 83 (va_up (zc71 u v) 81 (.int 1)))] H := hP
  have hD : va_D A [(qo, zJ K 1 (fun _ => 0)), (qm, zO 10 83 (va_up (zc71 u v) 81 (.int 1)))] := hD
  refine lv_iload hx hb dL_law_245 (lv_at hl 1 rfl) ?_
  refine lv_icmp_eq (tgt := 252) hx hb dL_law_247 (by decide) (fun _ => ?_) (fun c => absurd (by decide) c)
  refine lv_iload hx hb dL_law_252 (lv_at hl 1 rfl) ?_
  refine lv_if_ne (tgt := 269) hx hb dL_law_254 (by decide) (fun _ => ?_) (fun c => absurd c (by decide))
  refine lv_goto (tgt := 2026) hx hb dL_law_269 (by decide) ?_
  exact law_back ⟨hx, hb, hr, hml, hown, hg, hX, hbl, hlocks, hK, hZ, hl9, hAA, hA, hbA⟩ (Nat.le_of_ble_eq_true rfl) (Nat.le_of_ble_eq_true rfl) hS (lv_sub hl [2, 6] rfl)
theorem lawC_1 {p : Program} {l : Launch} {e : Env} {s : State} {m : MethodId} {below : List Frame} {meth : Method} {c : Code} {b : Nat} {xs : Nat → Int32} {K : zK} {A : Nat → Prop} {H : Heap} {locs : List Loc} {ls : Array Slot} (C : zC p l s m meth c b xs K A) (qx qm qo : Nat) (u v : Nat → Nat) (hP : va_P K.1 classes (lwW K qx qm qo u v) H) (hD : va_D A (lwW K qx qm qo u v)) (hS : va_S A s.heap H locs) (hl : lv_has ls 7 [(4, .int 0), (3, .ref qo), (2, .ref qm), (1, .ref qx), (0, .ref b)]) : W p l e room_1 s m #[Value.ref b] below meth c H locs 124 1863516 (lw_Z below #[Value.ref b] s) (F0 m 216 ls []) := by
  rcases z_split (xs 1) (0) with h0 | h0
  · exact lawS_1_0 C qx qm qo u v h0 hP hD hS hl
  · rcases z_split (xs 1) (16) with h1 | h1
    · exact lawS_1_1 C qx qm qo u v h0 h1 hP hD hS hl
    · exact lawS_1_2 C qx qm qo u v h0 h1 hP hD hS hl
set_option maxHeartbeats 4000000 in
set_option maxRecDepth 100000 in
theorem lawS_2_0 {p : Program} {l : Launch} {e : Env} {s : State} {m : MethodId} {below : List Frame} {meth : Method} {c : Code} {b : Nat} {xs : Nat → Int32} {K : zK} {A : Nat → Prop} {H : Heap} {locs : List Loc} {ls : Array Slot} (C : zC p l s m meth c b xs K A) (qx qm qo : Nat) (u v : Nat → Nat) (h0 : (xs 1).toInt < 0) (hP : va_P K.1 classes (lwW K qx qm qo u v) H) (hD : va_D A (lwW K qx qm qo u v)) (hS : va_S A s.heap H locs) (hl : lv_has ls 7 [(4, .int 0), (3, .ref qo), (2, .ref qm), (1, .ref qx), (0, .ref b)]) : W p l e room_1 s m #[Value.ref b] below meth c H locs 124 1863516 (lw_Z below #[Value.ref b] s) (F0 m 272 ls []) := by
  obtain ⟨hx, hb, hr, hml, hown, hg, hX, hbl, hlocks, hK, hZ, hl9, hAA, hA, hbA⟩ := C
  have hP : va_P K.1 classes [(qx, zO 9 9 (zc0 u v)), (qm, zO 10 83 (zc71 u v)), (qo, zJ K 1 (fun _ => 0))] H := hP.sub [0, 71, 123] rfl
  have hD : va_D A [(qx, zO 9 9 (zc0 u v)), (qm, zO 10 83 (zc71 u v)), (qo, zJ K 1 (fun _ => 0))] := hD.sub [0, 71, 123] (by decide +kernel) rfl
  refine lv_aload_n hx hb dL_law_272 rfl (lv_at hl 3 rfl) ?_
  refine lv_aload_n hx hb dL_law_273 rfl (lv_at hl 4 rfl) ?_
  refine lv_iload hx hb dL_law_274 (lv_at hl 0 rfl) ?_
  refine lv_iconst (v := 1) hx hb dL_law_276 (by decide) ?_
  refine lv_iadd hx hb dL_law_277 ?_
  refine z_cst (v := 1) (by decide +kernel) ?_
  refine z_sld (v := (xs 1)) (j := 1) hx hb hX hbl hbA hS rfl (Nat.le_of_ble_eq_true rfl) rfl dL_law_278 ?_
  refine lv_aload_n hx hb dL_law_279 rfl (lv_at hl 1 rfl) ?_
  refine z_hcalli [(qx, zO 9 9 (zc0 u v))] [(qm, zO 10 83 (zc71 u v)), (qo, zJ K 1 (fun _ => 0))] [0] [1, 2] hP hD hS hA rfl rfl (by decide +kernel) (by decide +kernel) (by decide +kernel) 125 1863522 rfl rfl (fun hPc hDc hF => z_xrunH (As := [.ref qx, .int (xs 1), .ref qo]) (rest := []) ⟨hx, hb, hml, hown, hg⟩ (cL_global_1 l hl9 K H.size qx qo (zc0 u v) (xs 1) (by rw [Int32.lt_iff_toInt_lt, show (0 : Int32).toInt = 0 from by decide]; omega)) kS_RL_111 hd_L_global rfl rfl ⟨(Nat.le_of_ble_eq_true rfl), (Nat.le_of_ble_eq_true rfl)⟩ hK hS hZ hPc hDc hF rfl hl.1 rfl (Nat.le_of_ble_eq_true rfl) dL_law_280 ⟨(Nat.le_of_ble_eq_true rfl), (Nat.le_of_ble_eq_true rfl)⟩) (fun r3 u1 H locs w2 hP hD hS => ?_)
  subst w2
  have hP : va_P K.1 classes [(qm, zO 10 83 (zc71 u v)), (qo, zJ K 1 (fun _ => 0))] H := hP
  have hD : va_D A [(qm, zO 10 83 (zc71 u v)), (qo, zJ K 1 (fun _ => 0))] := hD
  refine lv_istore (lv' := [(5, .int 1), (4, .int 0), (3, .ref qo), (2, .ref qm), (1, .ref qx), (0, .ref b)]) hx hb dL_law_283 hl (by decide) rfl (fun ls hl => ?_)
  refine lv_aload_n hx hb dL_law_285 rfl (lv_at hl 3 rfl) ?_
  refine lv_aload_n hx hb dL_law_286 rfl (lv_at hl 5 rfl) ?_
  refine lv_iload hx hb dL_law_287 (lv_at hl 1 rfl) ?_
  refine lv_iconst (v := 1) hx hb dL_law_289 (by decide) ?_
  refine lv_iadd hx hb dL_law_290 ?_
  refine z_cst (v := 1) (by decide +kernel) ?_
  refine z_sld (v := (xs 1)) (j := 1) hx hb hX hbl hbA hS rfl (Nat.le_of_ble_eq_true rfl) rfl dL_law_291 ?_
  refine z_calli [(qm, zO 10 83 (zc71 u v))] [(qo, zJ K 1 (fun _ => 0))] [0] [1] hP hD hS hA rfl rfl (by decide +kernel) (by decide +kernel) (by decide +kernel) 125 1863522 rfl rfl (fun hPc hDc hF => z_runV (As := [.int (xs 1)]) (rest := []) ⟨hx, hb, hml, hown, hg⟩ (cX12_global_1 l K H.size qm (zc71 u v) (xs 1) (by rw [Int32.lt_iff_toInt_lt, show (0 : Int32).toInt = 0 from by decide]; omega)) kV_RL_113 hd_X12_global rfl rfl ⟨(Nat.le_of_ble_eq_true rfl), (Nat.le_of_ble_eq_true rfl)⟩ hK hS hZ hPc hDc hF 0 rfl rfl rfl hl.1 rfl (Nat.le_of_ble_eq_true rfl) dL_law_292 ⟨(Nat.le_of_ble_eq_true rfl), (Nat.le_of_ble_eq_true rfl)⟩) (fun r6 u4 H locs w5 hP hD hS => ?_)
  subst w5
  have hP : va_P K.1 classes [(qo, zJ K 1 (fun _ => 0)), (qm, zO 10 83 (va_up (zc71 u v) 81 (.int 1)))] H := hP
  have hD : va_D A [(qo, zJ K 1 (fun _ => 0)), (qm, zO 10 83 (va_up (zc71 u v) 81 (.int 1)))] := hD
  refine lv_istore (lv' := [(6, .int 0), (5, .int 1), (4, .int 0), (3, .ref qo), (2, .ref qm), (1, .ref qx), (0, .ref b)]) hx hb dL_law_295 hl (by decide) rfl (fun ls hl => ?_)
  refine lv_aload_n hx hb dL_law_297 rfl (lv_at hl 4 rfl) ?_
  refine z_calli [(qm, zO 10 83 (va_up (zc71 u v) 81 (.int 1)))] [(qo, zJ K 1 (fun _ => 0))] [1] [0] hP hD hS hA rfl rfl (by decide +kernel) (by decide +kernel) (by decide +kernel) 125 1863522 rfl rfl (fun hPc hDc hF => z_runV (As := []) (rest := []) ⟨hx, hb, hml, hown, hg⟩ (cX12_thrown_2 l K H.size qm (va_up (zc71 u v) 81 (.int 1)) zu_eq) kV_RL_104 hd_X12_thrown rfl rfl ⟨(Nat.le_of_ble_eq_true rfl), (Nat.le_of_ble_eq_true rfl)⟩ hK hS hZ hPc hDc hF 0 rfl rfl rfl hl.1 rfl (Nat.le_of_ble_eq_true rfl) dL_law_298 ⟨(Nat.le_of_ble_eq_true rfl), (Nat.le_of_ble_eq_true rfl)⟩) (fun r9 u7 H locs w8 hP hD hS => ?_)
  subst w8
  have hP : va_P K.1 classes [(qo, zJ K 1 (fun _ => 0)), (qm, zO 10 83 (va_up (zc71 u v) 81 (.int 1)))] H := hP
  have hD : va_D A [(qo, zJ K 1 (fun _ => 0)), (qm, zO 10 83 (va_up (zc71 u v) 81 (.int 1)))] := hD
  refine lv_iload hx hb dL_law_301 (lv_at hl 1 rfl) ?_
  refine lv_icmp_eq (tgt := 308) hx hb dL_law_303 (by decide) (fun _ => ?_) (fun c => absurd (by decide) c)
  refine lv_iload hx hb dL_law_308 (lv_at hl 1 rfl) ?_
  refine lv_if_ne (tgt := 325) hx hb dL_law_310 (by decide) (fun _ => ?_) (fun c => absurd c (by decide))
  refine lv_goto (tgt := 2026) hx hb dL_law_325 (by decide) ?_
  exact law_back ⟨hx, hb, hr, hml, hown, hg, hX, hbl, hlocks, hK, hZ, hl9, hAA, hA, hbA⟩ (Nat.le_of_ble_eq_true rfl) (Nat.le_of_ble_eq_true rfl) hS (lv_sub hl [2, 6] rfl)
set_option maxHeartbeats 4000000 in
set_option maxRecDepth 100000 in
theorem lawS_2_1 {p : Program} {l : Launch} {e : Env} {s : State} {m : MethodId} {below : List Frame} {meth : Method} {c : Code} {b : Nat} {xs : Nat → Int32} {K : zK} {A : Nat → Prop} {H : Heap} {locs : List Loc} {ls : Array Slot} (C : zC p l s m meth c b xs K A) (qx qm qo : Nat) (u v : Nat → Nat) (h0 : 0 ≤ (xs 1).toInt) (h1 : (xs 1).toInt < 8) (hP : va_P K.1 classes (lwW K qx qm qo u v) H) (hD : va_D A (lwW K qx qm qo u v)) (hS : va_S A s.heap H locs) (hl : lv_has ls 7 [(4, .int 0), (3, .ref qo), (2, .ref qm), (1, .ref qx), (0, .ref b)]) : W p l e room_1 s m #[Value.ref b] below meth c H locs 124 1863516 (lw_Z below #[Value.ref b] s) (F0 m 272 ls []) := by
  obtain ⟨hx, hb, hr, hml, hown, hg, hX, hbl, hlocks, hK, hZ, hl9, hAA, hA, hbA⟩ := C
  have hP : va_P K.1 classes [(qx, zO 9 9 (zc0 u v)), ((u 0), zO 7 6 (zc1 u v)), ((u 1), zI K 200 (fun _ => 0)), ((u 2), zI K 200 (fun _ => 0)), ((u 3), zI K 200 (fun _ => 0)), ((u 4), zI K 200 (fun _ => 0)), ((u 5), zI K 600 (fun _ => 0)), ((u 6), zI K 200 (fun _ => 0)), ((u 7), zI K 200 (fun _ => 0)), (qm, zO 10 83 (zc71 u v)), ((v 0), zI K 200 (fun _ => 0)), ((v 1), zI K 200 (fun _ => 0)), ((v 2), zI K 200 (fun _ => 0)), ((v 3), zI K 200 (fun _ => 0)), ((v 4), zI K 200 (fun _ => 0)), ((v 5), zI K 600 (fun _ => 0)), ((v 6), zI K 200 (fun _ => 0)), (qo, zJ K 1 (fun _ => 0))] H := hP.sub [0, 1, 2, 3, 4, 5, 6, 7, 8, 71, 72, 73, 74, 75, 76, 77, 78, 123] rfl
  have hD : va_D A [(qx, zO 9 9 (zc0 u v)), ((u 0), zO 7 6 (zc1 u v)), ((u 1), zI K 200 (fun _ => 0)), ((u 2), zI K 200 (fun _ => 0)), ((u 3), zI K 200 (fun _ => 0)), ((u 4), zI K 200 (fun _ => 0)), ((u 5), zI K 600 (fun _ => 0)), ((u 6), zI K 200 (fun _ => 0)), ((u 7), zI K 200 (fun _ => 0)), (qm, zO 10 83 (zc71 u v)), ((v 0), zI K 200 (fun _ => 0)), ((v 1), zI K 200 (fun _ => 0)), ((v 2), zI K 200 (fun _ => 0)), ((v 3), zI K 200 (fun _ => 0)), ((v 4), zI K 200 (fun _ => 0)), ((v 5), zI K 600 (fun _ => 0)), ((v 6), zI K 200 (fun _ => 0)), (qo, zJ K 1 (fun _ => 0))] := hD.sub [0, 1, 2, 3, 4, 5, 6, 7, 8, 71, 72, 73, 74, 75, 76, 77, 78, 123] (by decide +kernel) rfl
  obtain ⟨t1, ht1, v1⟩ : ∃ j : Nat, j < 8 ∧ xs 1 = nI j := z_nat (n := 8) (by omega) (by omega) (by decide)
  refine lv_aload_n hx hb dL_law_272 rfl (lv_at hl 3 rfl) ?_
  refine lv_aload_n hx hb dL_law_273 rfl (lv_at hl 4 rfl) ?_
  refine lv_iload hx hb dL_law_274 (lv_at hl 0 rfl) ?_
  refine lv_iconst (v := 1) hx hb dL_law_276 (by decide) ?_
  refine lv_iadd hx hb dL_law_277 ?_
  refine z_cst (v := 1) (by decide +kernel) ?_
  refine z_sld (v := (nI t1)) (j := 1) hx hb hX hbl hbA hS rfl (Nat.le_of_ble_eq_true rfl) v1 dL_law_278 ?_
  refine lv_aload_n hx hb dL_law_279 rfl (lv_at hl 1 rfl) ?_
  refine z_hcalli [(qx, zO 9 9 (zc0 u v)), ((u 0), zO 7 6 (zc1 u v)), ((u 1), zI K 200 (fun _ => 0)), ((u 2), zI K 200 (fun _ => 0)), ((u 3), zI K 200 (fun _ => 0)), ((u 4), zI K 200 (fun _ => 0)), ((u 5), zI K 600 (fun _ => 0)), ((u 6), zI K 200 (fun _ => 0)), ((u 7), zI K 200 (fun _ => 0)), (qo, zJ K 1 (fun _ => 0))] [(qm, zO 10 83 (zc71 u v)), ((v 0), zI K 200 (fun _ => 0)), ((v 1), zI K 200 (fun _ => 0)), ((v 2), zI K 200 (fun _ => 0)), ((v 3), zI K 200 (fun _ => 0)), ((v 4), zI K 200 (fun _ => 0)), ((v 5), zI K 600 (fun _ => 0)), ((v 6), zI K 200 (fun _ => 0))] [0, 1, 2, 3, 4, 5, 6, 7, 8, 17] [9, 10, 11, 12, 13, 14, 15, 16] hP hD hS hA rfl rfl (by decide +kernel) (by decide +kernel) (by decide +kernel) 124 1863516 rfl rfl (fun hPc hDc hF => z_xrunH (As := [.ref qx, .int (nI t1), .ref qo]) (rest := []) ⟨hx, hb, hml, hown, hg⟩ (cL_global_2 l hl9 K H.size qx qo (u 0) (u 1) (u 2) (u 3) (u 4) (u 5) (u 6) (u 7) (zc0 u v) (zc1 u v) (fun _ => 0) (fun _ => 0) (fun _ => 0) (fun _ => 0) (fun _ => 0) (fun _ => 0) (fun _ => 0) (fun _ => 0) t1 ht1 (zc0_0 u v) (zc1_0 u v) (zc1_5 u v) (zc1_1 u v) (zc1_2 u v) (zc1_3 u v) (zc1_4 u v) (zc0_1 u v) (zc0_2 u v)) kS_RL_111 hd_L_global rfl rfl ⟨(Nat.le_of_ble_eq_true rfl), (Nat.le_of_ble_eq_true rfl)⟩ hK hS hZ hPc hDc hF rfl hl.1 rfl (Nat.le_of_ble_eq_true rfl) dL_law_280 ⟨(Nat.le_of_ble_eq_true rfl), (Nat.le_of_ble_eq_true rfl)⟩) (fun r3 u1 H locs w2 hP hD hS => ?_)
  subst w2
  have hP : va_P K.1 classes [(qm, zO 10 83 (zc71 u v)), ((v 0), zI K 200 (fun _ => 0)), ((v 1), zI K 200 (fun _ => 0)), ((v 2), zI K 200 (fun _ => 0)), ((v 3), zI K 200 (fun _ => 0)), ((v 4), zI K 200 (fun _ => 0)), ((v 5), zI K 600 (fun _ => 0)), ((v 6), zI K 200 (fun _ => 0)), (qo, zJ K 1 (va_up (fun _ => 0) 0 0))] H := hP
  have hD : va_D A [(qm, zO 10 83 (zc71 u v)), ((v 0), zI K 200 (fun _ => 0)), ((v 1), zI K 200 (fun _ => 0)), ((v 2), zI K 200 (fun _ => 0)), ((v 3), zI K 200 (fun _ => 0)), ((v 4), zI K 200 (fun _ => 0)), ((v 5), zI K 600 (fun _ => 0)), ((v 6), zI K 200 (fun _ => 0)), (qo, zJ K 1 (va_up (fun _ => 0) 0 0))] := hD
  refine lv_istore (lv' := [(5, .int 0), (4, .int 0), (3, .ref qo), (2, .ref qm), (1, .ref qx), (0, .ref b)]) hx hb dL_law_283 hl (by decide) rfl (fun ls hl => ?_)
  refine lv_aload_n hx hb dL_law_285 rfl (lv_at hl 3 rfl) ?_
  refine lv_aload_n hx hb dL_law_286 rfl (lv_at hl 5 rfl) ?_
  refine lv_iload hx hb dL_law_287 (lv_at hl 1 rfl) ?_
  refine lv_iconst (v := 1) hx hb dL_law_289 (by decide) ?_
  refine lv_iadd hx hb dL_law_290 ?_
  refine z_cst (v := 1) (by decide +kernel) ?_
  refine z_sld (v := (nI t1)) (j := 1) hx hb hX hbl hbA hS rfl (Nat.le_of_ble_eq_true rfl) v1 dL_law_291 ?_
  refine z_calli [(qm, zO 10 83 (zc71 u v)), ((v 0), zI K 200 (fun _ => 0)), ((v 1), zI K 200 (fun _ => 0)), ((v 2), zI K 200 (fun _ => 0)), ((v 3), zI K 200 (fun _ => 0)), ((v 5), zI K 600 (fun _ => 0)), ((v 4), zI K 200 (fun _ => 0)), ((v 6), zI K 200 (fun _ => 0))] [(qo, zJ K 1 (va_up (fun _ => 0) 0 0))] [0, 1, 2, 3, 4, 6, 5, 7] [8] hP hD hS hA rfl rfl (by decide +kernel) (by decide +kernel) (by decide +kernel) 124 1863516 rfl rfl (fun hPc hDc hF => z_runV (As := [.int (nI t1)]) (rest := []) ⟨hx, hb, hml, hown, hg⟩ (cX12_global_2 l K H.size qm (v 0) (v 1) (v 2) (v 3) (v 5) (v 4) (v 6) (zc71 u v) (fun _ => 0) (fun _ => 0) (fun _ => 0) (fun _ => 0) (fun _ => 0) (fun _ => 0) (fun _ => 0) t1 ht1 (zc71_0 u v) (zc71_1 u v) (zc71_2 u v) (zc71_3 u v) (zc71_4 u v) (zc71_6 u v) (zc71_5 u v) (zc71_7 u v)) kV_RL_113 hd_X12_global rfl rfl ⟨(Nat.le_of_ble_eq_true rfl), (Nat.le_of_ble_eq_true rfl)⟩ hK hS hZ hPc hDc hF 0 rfl rfl rfl hl.1 rfl (Nat.le_of_ble_eq_true rfl) dL_law_292 ⟨(Nat.le_of_ble_eq_true rfl), (Nat.le_of_ble_eq_true rfl)⟩) (fun r6 u4 H locs w5 hP hD hS => ?_)
  subst w5
  have hP : va_P K.1 classes [(qo, zJ K 1 (va_up (fun _ => 0) 0 0)), (qm, zO 10 83 (va_up (va_up (zc71 u v) 81 (.int 0)) 0 (.int 1)))] H := hP
  have hD : va_D A [(qo, zJ K 1 (va_up (fun _ => 0) 0 0)), (qm, zO 10 83 (va_up (va_up (zc71 u v) 81 (.int 0)) 0 (.int 1)))] := hD
  refine lv_istore (lv' := [(6, .int 0), (5, .int 0), (4, .int 0), (3, .ref qo), (2, .ref qm), (1, .ref qx), (0, .ref b)]) hx hb dL_law_295 hl (by decide) rfl (fun ls hl => ?_)
  refine lv_aload_n hx hb dL_law_297 rfl (lv_at hl 4 rfl) ?_
  refine z_calli [(qm, zO 10 83 (va_up (va_up (zc71 u v) 81 (.int 0)) 0 (.int 1)))] [(qo, zJ K 1 (va_up (fun _ => 0) 0 0))] [1] [0] hP hD hS hA rfl rfl (by decide +kernel) (by decide +kernel) (by decide +kernel) 124 1863516 rfl rfl (fun hPc hDc hF => z_runV (As := []) (rest := []) ⟨hx, hb, hml, hown, hg⟩ (cX12_thrown_1 l K H.size qm (va_up (va_up (zc71 u v) 81 (.int 0)) 0 (.int 1)) (zu_ne (by decide) zu_eq)) kV_RL_104 hd_X12_thrown rfl rfl ⟨(Nat.le_of_ble_eq_true rfl), (Nat.le_of_ble_eq_true rfl)⟩ hK hS hZ hPc hDc hF 0 rfl rfl rfl hl.1 rfl (Nat.le_of_ble_eq_true rfl) dL_law_298 ⟨(Nat.le_of_ble_eq_true rfl), (Nat.le_of_ble_eq_true rfl)⟩) (fun r9 u7 H locs w8 hP hD hS => ?_)
  subst w8
  have hP : va_P K.1 classes [(qo, zJ K 1 (va_up (fun _ => 0) 0 0)), (qm, zO 10 83 (va_up (va_up (zc71 u v) 81 (.int 0)) 0 (.int 1)))] H := hP
  have hD : va_D A [(qo, zJ K 1 (va_up (fun _ => 0) 0 0)), (qm, zO 10 83 (va_up (va_up (zc71 u v) 81 (.int 0)) 0 (.int 1)))] := hD
  refine lv_iload hx hb dL_law_301 (lv_at hl 1 rfl) ?_
  refine lv_icmp_eq (tgt := 308) hx hb dL_law_303 (by decide) (fun _ => ?_) (fun c => absurd (by decide) c)
  refine lv_iload hx hb dL_law_308 (lv_at hl 1 rfl) ?_
  refine lv_if_ne (tgt := 325) hx hb dL_law_310 (by decide) (fun c => absurd (by decide) c) (fun _ => ?_)
  refine lv_aload_n hx hb dL_law_313 rfl (lv_at hl 3 rfl) ?_
  refine lv_iconst (v := 0) hx hb dL_law_314 (by decide) ?_
  refine z_lald (v := 0) (j := 0) hx hb hK hP 0 rfl rfl (Nat.le_of_ble_eq_true rfl) (Nat.le_of_ble_eq_true rfl) zu_eq dL_law_315 ?_
  refine lv_iload hx hb dL_law_316 (lv_at hl 0 rfl) ?_
  refine lv_i2l hx hb dL_law_318 rfl ?_
  refine z_cstl (v := 0) (by decide +kernel) ?_
  refine W.lcmp hx hb dL_law_319 ?_
  refine z_cst (v := 0) (by decide +kernel) ?_
  refine lv_if_eq (tgt := 325) hx hb dL_law_320 (by decide) (fun _ => ?_) (fun c => absurd (by decide) c)
  refine lv_goto (tgt := 2026) hx hb dL_law_325 (by decide) ?_
  exact law_back ⟨hx, hb, hr, hml, hown, hg, hX, hbl, hlocks, hK, hZ, hl9, hAA, hA, hbA⟩ (Nat.le_of_ble_eq_true rfl) (Nat.le_of_ble_eq_true rfl) hS (lv_sub hl [2, 6] rfl)
set_option maxHeartbeats 4000000 in
set_option maxRecDepth 100000 in
theorem lawS_2_2 {p : Program} {l : Launch} {e : Env} {s : State} {m : MethodId} {below : List Frame} {meth : Method} {c : Code} {b : Nat} {xs : Nat → Int32} {K : zK} {A : Nat → Prop} {H : Heap} {locs : List Loc} {ls : Array Slot} (C : zC p l s m meth c b xs K A) (qx qm qo : Nat) (u v : Nat → Nat) (h0 : 0 ≤ (xs 1).toInt) (h1 : 8 ≤ (xs 1).toInt) (hP : va_P K.1 classes (lwW K qx qm qo u v) H) (hD : va_D A (lwW K qx qm qo u v)) (hS : va_S A s.heap H locs) (hl : lv_has ls 7 [(4, .int 0), (3, .ref qo), (2, .ref qm), (1, .ref qx), (0, .ref b)]) : W p l e room_1 s m #[Value.ref b] below meth c H locs 124 1863516 (lw_Z below #[Value.ref b] s) (F0 m 272 ls []) := by
  obtain ⟨hx, hb, hr, hml, hown, hg, hX, hbl, hlocks, hK, hZ, hl9, hAA, hA, hbA⟩ := C
  have hP : va_P K.1 classes [(qx, zO 9 9 (zc0 u v)), (qm, zO 10 83 (zc71 u v)), (qo, zJ K 1 (fun _ => 0))] H := hP.sub [0, 71, 123] rfl
  have hD : va_D A [(qx, zO 9 9 (zc0 u v)), (qm, zO 10 83 (zc71 u v)), (qo, zJ K 1 (fun _ => 0))] := hD.sub [0, 71, 123] (by decide +kernel) rfl
  refine lv_aload_n hx hb dL_law_272 rfl (lv_at hl 3 rfl) ?_
  refine lv_aload_n hx hb dL_law_273 rfl (lv_at hl 4 rfl) ?_
  refine lv_iload hx hb dL_law_274 (lv_at hl 0 rfl) ?_
  refine lv_iconst (v := 1) hx hb dL_law_276 (by decide) ?_
  refine lv_iadd hx hb dL_law_277 ?_
  refine z_cst (v := 1) (by decide +kernel) ?_
  refine z_sld (v := (xs 1)) (j := 1) hx hb hX hbl hbA hS rfl (Nat.le_of_ble_eq_true rfl) rfl dL_law_278 ?_
  refine lv_aload_n hx hb dL_law_279 rfl (lv_at hl 1 rfl) ?_
  refine z_hcalli [(qx, zO 9 9 (zc0 u v))] [(qm, zO 10 83 (zc71 u v)), (qo, zJ K 1 (fun _ => 0))] [0] [1, 2] hP hD hS hA rfl rfl (by decide +kernel) (by decide +kernel) (by decide +kernel) 125 1863522 rfl rfl (fun hPc hDc hF => z_xrunH (As := [.ref qx, .int (xs 1), .ref qo]) (rest := []) ⟨hx, hb, hml, hown, hg⟩ (cL_global_3 l hl9 K H.size qx qo (zc0 u v) (xs 1) (by rw [Int32.lt_iff_toInt_lt, show (0 : Int32).toInt = 0 from by decide]; omega) (by rw [Int32.lt_iff_toInt_lt, show (8 : Int32).toInt = 8 from by decide]; omega)) kS_RL_111 hd_L_global rfl rfl ⟨(Nat.le_of_ble_eq_true rfl), (Nat.le_of_ble_eq_true rfl)⟩ hK hS hZ hPc hDc hF rfl hl.1 rfl (Nat.le_of_ble_eq_true rfl) dL_law_280 ⟨(Nat.le_of_ble_eq_true rfl), (Nat.le_of_ble_eq_true rfl)⟩) (fun r3 u1 H locs w2 hP hD hS => ?_)
  subst w2
  have hP : va_P K.1 classes [(qm, zO 10 83 (zc71 u v)), (qo, zJ K 1 (fun _ => 0))] H := hP
  have hD : va_D A [(qm, zO 10 83 (zc71 u v)), (qo, zJ K 1 (fun _ => 0))] := hD
  refine lv_istore (lv' := [(5, .int 1), (4, .int 0), (3, .ref qo), (2, .ref qm), (1, .ref qx), (0, .ref b)]) hx hb dL_law_283 hl (by decide) rfl (fun ls hl => ?_)
  refine lv_aload_n hx hb dL_law_285 rfl (lv_at hl 3 rfl) ?_
  refine lv_aload_n hx hb dL_law_286 rfl (lv_at hl 5 rfl) ?_
  refine lv_iload hx hb dL_law_287 (lv_at hl 1 rfl) ?_
  refine lv_iconst (v := 1) hx hb dL_law_289 (by decide) ?_
  refine lv_iadd hx hb dL_law_290 ?_
  refine z_cst (v := 1) (by decide +kernel) ?_
  refine z_sld (v := (xs 1)) (j := 1) hx hb hX hbl hbA hS rfl (Nat.le_of_ble_eq_true rfl) rfl dL_law_291 ?_
  refine z_calli [(qm, zO 10 83 (zc71 u v))] [(qo, zJ K 1 (fun _ => 0))] [0] [1] hP hD hS hA rfl rfl (by decide +kernel) (by decide +kernel) (by decide +kernel) 125 1863522 rfl rfl (fun hPc hDc hF => z_runV (As := [.int (xs 1)]) (rest := []) ⟨hx, hb, hml, hown, hg⟩ (cX12_global_3 l K H.size qm (zc71 u v) (xs 1) (by rw [Int32.lt_iff_toInt_lt, show (0 : Int32).toInt = 0 from by decide]; omega) (by rw [Int32.lt_iff_toInt_lt, show (7 : Int32).toInt = 7 from by decide]; omega)) kV_RL_113 hd_X12_global rfl rfl ⟨(Nat.le_of_ble_eq_true rfl), (Nat.le_of_ble_eq_true rfl)⟩ hK hS hZ hPc hDc hF 0 rfl rfl rfl hl.1 rfl (Nat.le_of_ble_eq_true rfl) dL_law_292 ⟨(Nat.le_of_ble_eq_true rfl), (Nat.le_of_ble_eq_true rfl)⟩) (fun r6 u4 H locs w5 hP hD hS => ?_)
  subst w5
  have hP : va_P K.1 classes [(qo, zJ K 1 (fun _ => 0)), (qm, zO 10 83 (va_up (zc71 u v) 81 (.int 1)))] H := hP
  have hD : va_D A [(qo, zJ K 1 (fun _ => 0)), (qm, zO 10 83 (va_up (zc71 u v) 81 (.int 1)))] := hD
  refine lv_istore (lv' := [(6, .int 0), (5, .int 1), (4, .int 0), (3, .ref qo), (2, .ref qm), (1, .ref qx), (0, .ref b)]) hx hb dL_law_295 hl (by decide) rfl (fun ls hl => ?_)
  refine lv_aload_n hx hb dL_law_297 rfl (lv_at hl 4 rfl) ?_
  refine z_calli [(qm, zO 10 83 (va_up (zc71 u v) 81 (.int 1)))] [(qo, zJ K 1 (fun _ => 0))] [1] [0] hP hD hS hA rfl rfl (by decide +kernel) (by decide +kernel) (by decide +kernel) 125 1863522 rfl rfl (fun hPc hDc hF => z_runV (As := []) (rest := []) ⟨hx, hb, hml, hown, hg⟩ (cX12_thrown_2 l K H.size qm (va_up (zc71 u v) 81 (.int 1)) zu_eq) kV_RL_104 hd_X12_thrown rfl rfl ⟨(Nat.le_of_ble_eq_true rfl), (Nat.le_of_ble_eq_true rfl)⟩ hK hS hZ hPc hDc hF 0 rfl rfl rfl hl.1 rfl (Nat.le_of_ble_eq_true rfl) dL_law_298 ⟨(Nat.le_of_ble_eq_true rfl), (Nat.le_of_ble_eq_true rfl)⟩) (fun r9 u7 H locs w8 hP hD hS => ?_)
  subst w8
  have hP : va_P K.1 classes [(qo, zJ K 1 (fun _ => 0)), (qm, zO 10 83 (va_up (zc71 u v) 81 (.int 1)))] H := hP
  have hD : va_D A [(qo, zJ K 1 (fun _ => 0)), (qm, zO 10 83 (va_up (zc71 u v) 81 (.int 1)))] := hD
  refine lv_iload hx hb dL_law_301 (lv_at hl 1 rfl) ?_
  refine lv_icmp_eq (tgt := 308) hx hb dL_law_303 (by decide) (fun _ => ?_) (fun c => absurd (by decide) c)
  refine lv_iload hx hb dL_law_308 (lv_at hl 1 rfl) ?_
  refine lv_if_ne (tgt := 325) hx hb dL_law_310 (by decide) (fun _ => ?_) (fun c => absurd c (by decide))
  refine lv_goto (tgt := 2026) hx hb dL_law_325 (by decide) ?_
  exact law_back ⟨hx, hb, hr, hml, hown, hg, hX, hbl, hlocks, hK, hZ, hl9, hAA, hA, hbA⟩ (Nat.le_of_ble_eq_true rfl) (Nat.le_of_ble_eq_true rfl) hS (lv_sub hl [2, 6] rfl)
theorem lawC_2 {p : Program} {l : Launch} {e : Env} {s : State} {m : MethodId} {below : List Frame} {meth : Method} {c : Code} {b : Nat} {xs : Nat → Int32} {K : zK} {A : Nat → Prop} {H : Heap} {locs : List Loc} {ls : Array Slot} (C : zC p l s m meth c b xs K A) (qx qm qo : Nat) (u v : Nat → Nat) (hP : va_P K.1 classes (lwW K qx qm qo u v) H) (hD : va_D A (lwW K qx qm qo u v)) (hS : va_S A s.heap H locs) (hl : lv_has ls 7 [(4, .int 0), (3, .ref qo), (2, .ref qm), (1, .ref qx), (0, .ref b)]) : W p l e room_1 s m #[Value.ref b] below meth c H locs 124 1863516 (lw_Z below #[Value.ref b] s) (F0 m 272 ls []) := by
  rcases z_split (xs 1) (0) with h0 | h0
  · exact lawS_2_0 C qx qm qo u v h0 hP hD hS hl
  · rcases z_split (xs 1) (8) with h1 | h1
    · exact lawS_2_1 C qx qm qo u v h0 h1 hP hD hS hl
    · exact lawS_2_2 C qx qm qo u v h0 h1 hP hD hS hl
set_option maxHeartbeats 4000000 in
set_option maxRecDepth 100000 in
theorem lawS_3_0 {p : Program} {l : Launch} {e : Env} {s : State} {m : MethodId} {below : List Frame} {meth : Method} {c : Code} {b : Nat} {xs : Nat → Int32} {K : zK} {A : Nat → Prop} {H : Heap} {locs : List Loc} {ls : Array Slot} (C : zC p l s m meth c b xs K A) (qx qm qo : Nat) (u v : Nat → Nat) (h0 : (xs 2).toInt < 0) (h1 : (xs 1).toInt < 0) (hP : va_P K.1 classes (lwW K qx qm qo u v) H) (hD : va_D A (lwW K qx qm qo u v)) (hS : va_S A s.heap H locs) (hl : lv_has ls 7 [(4, .int 0), (3, .ref qo), (2, .ref qm), (1, .ref qx), (0, .ref b)]) : W p l e room_1 s m #[Value.ref b] below meth c H locs 124 1863516 (lw_Z below #[Value.ref b] s) (F0 m 328 ls []) := by
  obtain ⟨hx, hb, hr, hml, hown, hg, hX, hbl, hlocks, hK, hZ, hl9, hAA, hA, hbA⟩ := C
  have hP : va_P K.1 classes [(qx, zO 9 9 (zc0 u v)), ((u 0), zO 7 6 (zc1 u v)), (qm, zO 10 83 (zc71 u v)), (qo, zJ K 1 (fun _ => 0))] H := hP.sub [0, 1, 71, 123] rfl
  have hD : va_D A [(qx, zO 9 9 (zc0 u v)), ((u 0), zO 7 6 (zc1 u v)), (qm, zO 10 83 (zc71 u v)), (qo, zJ K 1 (fun _ => 0))] := hD.sub [0, 1, 71, 123] (by decide +kernel) rfl
  refine lv_aload_n hx hb dL_law_328 rfl (lv_at hl 3 rfl) ?_
  refine lv_aload_n hx hb dL_law_329 rfl (lv_at hl 4 rfl) ?_
  refine lv_iload hx hb dL_law_330 (lv_at hl 0 rfl) ?_
  refine lv_iconst (v := 1) hx hb dL_law_332 (by decide) ?_
  refine lv_iadd hx hb dL_law_333 ?_
  refine z_cst (v := 1) (by decide +kernel) ?_
  refine z_sld (v := (xs 1)) (j := 1) hx hb hX hbl hbA hS rfl (Nat.le_of_ble_eq_true rfl) rfl dL_law_334 ?_
  refine lv_aload_n hx hb dL_law_335 rfl (lv_at hl 4 rfl) ?_
  refine lv_iload hx hb dL_law_336 (lv_at hl 0 rfl) ?_
  refine lv_iconst (v := 2) hx hb dL_law_338 (by decide) ?_
  refine lv_iadd hx hb dL_law_339 ?_
  refine z_cst (v := 2) (by decide +kernel) ?_
  refine z_sld (v := (xs 2)) (j := 2) hx hb hX hbl hbA hS rfl (Nat.le_of_ble_eq_true rfl) rfl dL_law_340 ?_
  refine lv_aload_n hx hb dL_law_341 rfl (lv_at hl 1 rfl) ?_
  refine z_hcalli [(qx, zO 9 9 (zc0 u v)), ((u 0), zO 7 6 (zc1 u v))] [(qm, zO 10 83 (zc71 u v)), (qo, zJ K 1 (fun _ => 0))] [0, 1] [2, 3] hP hD hS hA rfl rfl (by decide +kernel) (by decide +kernel) (by decide +kernel) 125 1863522 rfl rfl (fun hPc hDc hF => z_xrunH (As := [.ref qx, .int (xs 1), .int (xs 2), .ref qo]) (rest := []) ⟨hx, hb, hml, hown, hg⟩ (cL_lam_1 l hl9 K H.size qx qo (u 0) (zc0 u v) (zc1 u v) (xs 1) (xs 2) (zc0_0 u v) (by rw [Int32.lt_iff_toInt_lt, show (0 : Int32).toInt = 0 from by decide]; omega)) kS_RL_114 hd_L_lam rfl rfl ⟨(Nat.le_of_ble_eq_true rfl), (Nat.le_of_ble_eq_true rfl)⟩ hK hS hZ hPc hDc hF rfl hl.1 rfl (Nat.le_of_ble_eq_true rfl) dL_law_342 ⟨(Nat.le_of_ble_eq_true rfl), (Nat.le_of_ble_eq_true rfl)⟩) (fun r3 u1 H locs w2 hP hD hS => ?_)
  subst w2
  have hP : va_P K.1 classes [(qm, zO 10 83 (zc71 u v)), (qo, zJ K 1 (fun _ => 0))] H := hP
  have hD : va_D A [(qm, zO 10 83 (zc71 u v)), (qo, zJ K 1 (fun _ => 0))] := hD
  refine lv_istore (lv' := [(5, .int 1), (4, .int 0), (3, .ref qo), (2, .ref qm), (1, .ref qx), (0, .ref b)]) hx hb dL_law_345 hl (by decide) rfl (fun ls hl => ?_)
  refine lv_aload_n hx hb dL_law_347 rfl (lv_at hl 3 rfl) ?_
  refine lv_aload_n hx hb dL_law_348 rfl (lv_at hl 5 rfl) ?_
  refine lv_iload hx hb dL_law_349 (lv_at hl 1 rfl) ?_
  refine lv_iconst (v := 1) hx hb dL_law_351 (by decide) ?_
  refine lv_iadd hx hb dL_law_352 ?_
  refine z_cst (v := 1) (by decide +kernel) ?_
  refine z_sld (v := (xs 1)) (j := 1) hx hb hX hbl hbA hS rfl (Nat.le_of_ble_eq_true rfl) rfl dL_law_353 ?_
  refine lv_aload_n hx hb dL_law_354 rfl (lv_at hl 5 rfl) ?_
  refine lv_iload hx hb dL_law_355 (lv_at hl 1 rfl) ?_
  refine lv_iconst (v := 2) hx hb dL_law_357 (by decide) ?_
  refine lv_iadd hx hb dL_law_358 ?_
  refine z_cst (v := 2) (by decide +kernel) ?_
  refine z_sld (v := (xs 2)) (j := 2) hx hb hX hbl hbA hS rfl (Nat.le_of_ble_eq_true rfl) rfl dL_law_359 ?_
  refine z_calli [(qm, zO 10 83 (zc71 u v))] [(qo, zJ K 1 (fun _ => 0))] [0] [1] hP hD hS hA rfl rfl (by decide +kernel) (by decide +kernel) (by decide +kernel) 125 1863522 rfl rfl (fun hPc hDc hF => z_runV (As := [.int (xs 1), .int (xs 2)]) (rest := []) ⟨hx, hb, hml, hown, hg⟩ (cX12_lam_1 l K H.size qm (zc71 u v) (xs 1) (xs 2) (zc71_0 u v) (by rw [Int32.lt_iff_toInt_lt, show (0 : Int32).toInt = 0 from by decide]; omega) (by rw [Int32.lt_iff_toInt_lt, show (0 : Int32).toInt = 0 from by decide]; omega)) kV_RL_117 hd_X12_lam rfl rfl ⟨(Nat.le_of_ble_eq_true rfl), (Nat.le_of_ble_eq_true rfl)⟩ hK hS hZ hPc hDc hF 0 rfl rfl rfl hl.1 rfl (Nat.le_of_ble_eq_true rfl) dL_law_360 ⟨(Nat.le_of_ble_eq_true rfl), (Nat.le_of_ble_eq_true rfl)⟩) (fun r6 u4 H locs w5 hP hD hS => ?_)
  subst w5
  have hP : va_P K.1 classes [(qo, zJ K 1 (fun _ => 0)), (qm, zO 10 83 (va_up (zc71 u v) 81 (.int 1)))] H := hP
  have hD : va_D A [(qo, zJ K 1 (fun _ => 0)), (qm, zO 10 83 (va_up (zc71 u v) 81 (.int 1)))] := hD
  refine lv_istore (lv' := [(6, .int 0), (5, .int 1), (4, .int 0), (3, .ref qo), (2, .ref qm), (1, .ref qx), (0, .ref b)]) hx hb dL_law_363 hl (by decide) rfl (fun ls hl => ?_)
  refine lv_aload_n hx hb dL_law_365 rfl (lv_at hl 4 rfl) ?_
  refine z_calli [(qm, zO 10 83 (va_up (zc71 u v) 81 (.int 1)))] [(qo, zJ K 1 (fun _ => 0))] [1] [0] hP hD hS hA rfl rfl (by decide +kernel) (by decide +kernel) (by decide +kernel) 125 1863522 rfl rfl (fun hPc hDc hF => z_runV (As := []) (rest := []) ⟨hx, hb, hml, hown, hg⟩ (cX12_thrown_2 l K H.size qm (va_up (zc71 u v) 81 (.int 1)) zu_eq) kV_RL_104 hd_X12_thrown rfl rfl ⟨(Nat.le_of_ble_eq_true rfl), (Nat.le_of_ble_eq_true rfl)⟩ hK hS hZ hPc hDc hF 0 rfl rfl rfl hl.1 rfl (Nat.le_of_ble_eq_true rfl) dL_law_366 ⟨(Nat.le_of_ble_eq_true rfl), (Nat.le_of_ble_eq_true rfl)⟩) (fun r9 u7 H locs w8 hP hD hS => ?_)
  subst w8
  have hP : va_P K.1 classes [(qo, zJ K 1 (fun _ => 0)), (qm, zO 10 83 (va_up (zc71 u v) 81 (.int 1)))] H := hP
  have hD : va_D A [(qo, zJ K 1 (fun _ => 0)), (qm, zO 10 83 (va_up (zc71 u v) 81 (.int 1)))] := hD
  refine lv_iload hx hb dL_law_369 (lv_at hl 1 rfl) ?_
  refine lv_icmp_eq (tgt := 376) hx hb dL_law_371 (by decide) (fun _ => ?_) (fun c => absurd (by decide) c)
  refine lv_iload hx hb dL_law_376 (lv_at hl 1 rfl) ?_
  refine lv_if_ne (tgt := 393) hx hb dL_law_378 (by decide) (fun _ => ?_) (fun c => absurd c (by decide))
  refine lv_goto (tgt := 2026) hx hb dL_law_393 (by decide) ?_
  exact law_back ⟨hx, hb, hr, hml, hown, hg, hX, hbl, hlocks, hK, hZ, hl9, hAA, hA, hbA⟩ (Nat.le_of_ble_eq_true rfl) (Nat.le_of_ble_eq_true rfl) hS (lv_sub hl [2, 6] rfl)
set_option maxHeartbeats 4000000 in
set_option maxRecDepth 100000 in
theorem lawS_3_1 {p : Program} {l : Launch} {e : Env} {s : State} {m : MethodId} {below : List Frame} {meth : Method} {c : Code} {b : Nat} {xs : Nat → Int32} {K : zK} {A : Nat → Prop} {H : Heap} {locs : List Loc} {ls : Array Slot} (C : zC p l s m meth c b xs K A) (qx qm qo : Nat) (u v : Nat → Nat) (h0 : (xs 2).toInt < 0) (h1 : 0 ≤ (xs 1).toInt) (h2 : (xs 1).toInt < 16) (hP : va_P K.1 classes (lwW K qx qm qo u v) H) (hD : va_D A (lwW K qx qm qo u v)) (hS : va_S A s.heap H locs) (hl : lv_has ls 7 [(4, .int 0), (3, .ref qo), (2, .ref qm), (1, .ref qx), (0, .ref b)]) : W p l e room_1 s m #[Value.ref b] below meth c H locs 124 1863516 (lw_Z below #[Value.ref b] s) (F0 m 328 ls []) := by
  obtain ⟨hx, hb, hr, hml, hown, hg, hX, hbl, hlocks, hK, hZ, hl9, hAA, hA, hbA⟩ := C
  have hP : va_P K.1 classes [(qx, zO 9 9 (zc0 u v)), ((u 0), zO 7 6 (zc1 u v)), (qm, zO 10 83 (zc71 u v)), (qo, zJ K 1 (fun _ => 0))] H := hP.sub [0, 1, 71, 123] rfl
  have hD : va_D A [(qx, zO 9 9 (zc0 u v)), ((u 0), zO 7 6 (zc1 u v)), (qm, zO 10 83 (zc71 u v)), (qo, zJ K 1 (fun _ => 0))] := hD.sub [0, 1, 71, 123] (by decide +kernel) rfl
  obtain ⟨t1, ht1, v1⟩ : ∃ j : Nat, j < 16 ∧ xs 1 = nI j := z_nat (n := 16) (by omega) (by omega) (by decide)
  refine lv_aload_n hx hb dL_law_328 rfl (lv_at hl 3 rfl) ?_
  refine lv_aload_n hx hb dL_law_329 rfl (lv_at hl 4 rfl) ?_
  refine lv_iload hx hb dL_law_330 (lv_at hl 0 rfl) ?_
  refine lv_iconst (v := 1) hx hb dL_law_332 (by decide) ?_
  refine lv_iadd hx hb dL_law_333 ?_
  refine z_cst (v := 1) (by decide +kernel) ?_
  refine z_sld (v := (nI t1)) (j := 1) hx hb hX hbl hbA hS rfl (Nat.le_of_ble_eq_true rfl) v1 dL_law_334 ?_
  refine lv_aload_n hx hb dL_law_335 rfl (lv_at hl 4 rfl) ?_
  refine lv_iload hx hb dL_law_336 (lv_at hl 0 rfl) ?_
  refine lv_iconst (v := 2) hx hb dL_law_338 (by decide) ?_
  refine lv_iadd hx hb dL_law_339 ?_
  refine z_cst (v := 2) (by decide +kernel) ?_
  refine z_sld (v := (xs 2)) (j := 2) hx hb hX hbl hbA hS rfl (Nat.le_of_ble_eq_true rfl) rfl dL_law_340 ?_
  refine lv_aload_n hx hb dL_law_341 rfl (lv_at hl 1 rfl) ?_
  refine z_hcalli [(qx, zO 9 9 (zc0 u v)), ((u 0), zO 7 6 (zc1 u v))] [(qm, zO 10 83 (zc71 u v)), (qo, zJ K 1 (fun _ => 0))] [0, 1] [2, 3] hP hD hS hA rfl rfl (by decide +kernel) (by decide +kernel) (by decide +kernel) 125 1863522 rfl rfl (fun hPc hDc hF => z_xrunH (As := [.ref qx, .int (nI t1), .int (xs 2), .ref qo]) (rest := []) ⟨hx, hb, hml, hown, hg⟩ (cL_lam_2 l hl9 K H.size qx qo (u 0) (zc0 u v) (zc1 u v) t1 ht1 (xs 2) (zc0_0 u v) (by rw [Int32.lt_iff_toInt_lt, show (0 : Int32).toInt = 0 from by decide]; omega)) kS_RL_114 hd_L_lam rfl rfl ⟨(Nat.le_of_ble_eq_true rfl), (Nat.le_of_ble_eq_true rfl)⟩ hK hS hZ hPc hDc hF rfl hl.1 rfl (Nat.le_of_ble_eq_true rfl) dL_law_342 ⟨(Nat.le_of_ble_eq_true rfl), (Nat.le_of_ble_eq_true rfl)⟩) (fun r3 u1 H locs w2 hP hD hS => ?_)
  subst w2
  have hP : va_P K.1 classes [(qm, zO 10 83 (zc71 u v)), (qo, zJ K 1 (fun _ => 0))] H := hP
  have hD : va_D A [(qm, zO 10 83 (zc71 u v)), (qo, zJ K 1 (fun _ => 0))] := hD
  refine lv_istore (lv' := [(5, .int 1), (4, .int 0), (3, .ref qo), (2, .ref qm), (1, .ref qx), (0, .ref b)]) hx hb dL_law_345 hl (by decide) rfl (fun ls hl => ?_)
  refine lv_aload_n hx hb dL_law_347 rfl (lv_at hl 3 rfl) ?_
  refine lv_aload_n hx hb dL_law_348 rfl (lv_at hl 5 rfl) ?_
  refine lv_iload hx hb dL_law_349 (lv_at hl 1 rfl) ?_
  refine lv_iconst (v := 1) hx hb dL_law_351 (by decide) ?_
  refine lv_iadd hx hb dL_law_352 ?_
  refine z_cst (v := 1) (by decide +kernel) ?_
  refine z_sld (v := (nI t1)) (j := 1) hx hb hX hbl hbA hS rfl (Nat.le_of_ble_eq_true rfl) v1 dL_law_353 ?_
  refine lv_aload_n hx hb dL_law_354 rfl (lv_at hl 5 rfl) ?_
  refine lv_iload hx hb dL_law_355 (lv_at hl 1 rfl) ?_
  refine lv_iconst (v := 2) hx hb dL_law_357 (by decide) ?_
  refine lv_iadd hx hb dL_law_358 ?_
  refine z_cst (v := 2) (by decide +kernel) ?_
  refine z_sld (v := (xs 2)) (j := 2) hx hb hX hbl hbA hS rfl (Nat.le_of_ble_eq_true rfl) rfl dL_law_359 ?_
  refine z_calli [(qm, zO 10 83 (zc71 u v))] [(qo, zJ K 1 (fun _ => 0))] [0] [1] hP hD hS hA rfl rfl (by decide +kernel) (by decide +kernel) (by decide +kernel) 125 1863522 rfl rfl (fun hPc hDc hF => z_runV (As := [.int (nI t1), .int (xs 2)]) (rest := []) ⟨hx, hb, hml, hown, hg⟩ (cX12_lam_2 l K H.size qm (zc71 u v) t1 ht1 (xs 2) (zc71_0 u v) (by rw [Int32.lt_iff_toInt_lt, show (0 : Int32).toInt = 0 from by decide]; omega)) kV_RL_117 hd_X12_lam rfl rfl ⟨(Nat.le_of_ble_eq_true rfl), (Nat.le_of_ble_eq_true rfl)⟩ hK hS hZ hPc hDc hF 0 rfl rfl rfl hl.1 rfl (Nat.le_of_ble_eq_true rfl) dL_law_360 ⟨(Nat.le_of_ble_eq_true rfl), (Nat.le_of_ble_eq_true rfl)⟩) (fun r6 u4 H locs w5 hP hD hS => ?_)
  subst w5
  have hP : va_P K.1 classes [(qo, zJ K 1 (fun _ => 0)), (qm, zO 10 83 (va_up (zc71 u v) 81 (.int 1)))] H := hP
  have hD : va_D A [(qo, zJ K 1 (fun _ => 0)), (qm, zO 10 83 (va_up (zc71 u v) 81 (.int 1)))] := hD
  refine lv_istore (lv' := [(6, .int 0), (5, .int 1), (4, .int 0), (3, .ref qo), (2, .ref qm), (1, .ref qx), (0, .ref b)]) hx hb dL_law_363 hl (by decide) rfl (fun ls hl => ?_)
  refine lv_aload_n hx hb dL_law_365 rfl (lv_at hl 4 rfl) ?_
  refine z_calli [(qm, zO 10 83 (va_up (zc71 u v) 81 (.int 1)))] [(qo, zJ K 1 (fun _ => 0))] [1] [0] hP hD hS hA rfl rfl (by decide +kernel) (by decide +kernel) (by decide +kernel) 125 1863522 rfl rfl (fun hPc hDc hF => z_runV (As := []) (rest := []) ⟨hx, hb, hml, hown, hg⟩ (cX12_thrown_2 l K H.size qm (va_up (zc71 u v) 81 (.int 1)) zu_eq) kV_RL_104 hd_X12_thrown rfl rfl ⟨(Nat.le_of_ble_eq_true rfl), (Nat.le_of_ble_eq_true rfl)⟩ hK hS hZ hPc hDc hF 0 rfl rfl rfl hl.1 rfl (Nat.le_of_ble_eq_true rfl) dL_law_366 ⟨(Nat.le_of_ble_eq_true rfl), (Nat.le_of_ble_eq_true rfl)⟩) (fun r9 u7 H locs w8 hP hD hS => ?_)
  subst w8
  have hP : va_P K.1 classes [(qo, zJ K 1 (fun _ => 0)), (qm, zO 10 83 (va_up (zc71 u v) 81 (.int 1)))] H := hP
  have hD : va_D A [(qo, zJ K 1 (fun _ => 0)), (qm, zO 10 83 (va_up (zc71 u v) 81 (.int 1)))] := hD
  refine lv_iload hx hb dL_law_369 (lv_at hl 1 rfl) ?_
  refine lv_icmp_eq (tgt := 376) hx hb dL_law_371 (by decide) (fun _ => ?_) (fun c => absurd (by decide) c)
  refine lv_iload hx hb dL_law_376 (lv_at hl 1 rfl) ?_
  refine lv_if_ne (tgt := 393) hx hb dL_law_378 (by decide) (fun _ => ?_) (fun c => absurd c (by decide))
  refine lv_goto (tgt := 2026) hx hb dL_law_393 (by decide) ?_
  exact law_back ⟨hx, hb, hr, hml, hown, hg, hX, hbl, hlocks, hK, hZ, hl9, hAA, hA, hbA⟩ (Nat.le_of_ble_eq_true rfl) (Nat.le_of_ble_eq_true rfl) hS (lv_sub hl [2, 6] rfl)
set_option maxHeartbeats 4000000 in
set_option maxRecDepth 100000 in
theorem lawS_3_2 {p : Program} {l : Launch} {e : Env} {s : State} {m : MethodId} {below : List Frame} {meth : Method} {c : Code} {b : Nat} {xs : Nat → Int32} {K : zK} {A : Nat → Prop} {H : Heap} {locs : List Loc} {ls : Array Slot} (C : zC p l s m meth c b xs K A) (qx qm qo : Nat) (u v : Nat → Nat) (h0 : (xs 2).toInt < 0) (h1 : 0 ≤ (xs 1).toInt) (h2 : 16 ≤ (xs 1).toInt) (hP : va_P K.1 classes (lwW K qx qm qo u v) H) (hD : va_D A (lwW K qx qm qo u v)) (hS : va_S A s.heap H locs) (hl : lv_has ls 7 [(4, .int 0), (3, .ref qo), (2, .ref qm), (1, .ref qx), (0, .ref b)]) : W p l e room_1 s m #[Value.ref b] below meth c H locs 124 1863516 (lw_Z below #[Value.ref b] s) (F0 m 328 ls []) := by
  obtain ⟨hx, hb, hr, hml, hown, hg, hX, hbl, hlocks, hK, hZ, hl9, hAA, hA, hbA⟩ := C
  have hP : va_P K.1 classes [(qx, zO 9 9 (zc0 u v)), ((u 0), zO 7 6 (zc1 u v)), (qm, zO 10 83 (zc71 u v)), (qo, zJ K 1 (fun _ => 0))] H := hP.sub [0, 1, 71, 123] rfl
  have hD : va_D A [(qx, zO 9 9 (zc0 u v)), ((u 0), zO 7 6 (zc1 u v)), (qm, zO 10 83 (zc71 u v)), (qo, zJ K 1 (fun _ => 0))] := hD.sub [0, 1, 71, 123] (by decide +kernel) rfl
  refine lv_aload_n hx hb dL_law_328 rfl (lv_at hl 3 rfl) ?_
  refine lv_aload_n hx hb dL_law_329 rfl (lv_at hl 4 rfl) ?_
  refine lv_iload hx hb dL_law_330 (lv_at hl 0 rfl) ?_
  refine lv_iconst (v := 1) hx hb dL_law_332 (by decide) ?_
  refine lv_iadd hx hb dL_law_333 ?_
  refine z_cst (v := 1) (by decide +kernel) ?_
  refine z_sld (v := (xs 1)) (j := 1) hx hb hX hbl hbA hS rfl (Nat.le_of_ble_eq_true rfl) rfl dL_law_334 ?_
  refine lv_aload_n hx hb dL_law_335 rfl (lv_at hl 4 rfl) ?_
  refine lv_iload hx hb dL_law_336 (lv_at hl 0 rfl) ?_
  refine lv_iconst (v := 2) hx hb dL_law_338 (by decide) ?_
  refine lv_iadd hx hb dL_law_339 ?_
  refine z_cst (v := 2) (by decide +kernel) ?_
  refine z_sld (v := (xs 2)) (j := 2) hx hb hX hbl hbA hS rfl (Nat.le_of_ble_eq_true rfl) rfl dL_law_340 ?_
  refine lv_aload_n hx hb dL_law_341 rfl (lv_at hl 1 rfl) ?_
  refine z_hcalli [(qx, zO 9 9 (zc0 u v)), ((u 0), zO 7 6 (zc1 u v))] [(qm, zO 10 83 (zc71 u v)), (qo, zJ K 1 (fun _ => 0))] [0, 1] [2, 3] hP hD hS hA rfl rfl (by decide +kernel) (by decide +kernel) (by decide +kernel) 125 1863522 rfl rfl (fun hPc hDc hF => z_xrunH (As := [.ref qx, .int (xs 1), .int (xs 2), .ref qo]) (rest := []) ⟨hx, hb, hml, hown, hg⟩ (cL_lam_1 l hl9 K H.size qx qo (u 0) (zc0 u v) (zc1 u v) (xs 1) (xs 2) (zc0_0 u v) (by rw [Int32.lt_iff_toInt_lt, show (0 : Int32).toInt = 0 from by decide]; omega)) kS_RL_114 hd_L_lam rfl rfl ⟨(Nat.le_of_ble_eq_true rfl), (Nat.le_of_ble_eq_true rfl)⟩ hK hS hZ hPc hDc hF rfl hl.1 rfl (Nat.le_of_ble_eq_true rfl) dL_law_342 ⟨(Nat.le_of_ble_eq_true rfl), (Nat.le_of_ble_eq_true rfl)⟩) (fun r3 u1 H locs w2 hP hD hS => ?_)
  subst w2
  have hP : va_P K.1 classes [(qm, zO 10 83 (zc71 u v)), (qo, zJ K 1 (fun _ => 0))] H := hP
  have hD : va_D A [(qm, zO 10 83 (zc71 u v)), (qo, zJ K 1 (fun _ => 0))] := hD
  refine lv_istore (lv' := [(5, .int 1), (4, .int 0), (3, .ref qo), (2, .ref qm), (1, .ref qx), (0, .ref b)]) hx hb dL_law_345 hl (by decide) rfl (fun ls hl => ?_)
  refine lv_aload_n hx hb dL_law_347 rfl (lv_at hl 3 rfl) ?_
  refine lv_aload_n hx hb dL_law_348 rfl (lv_at hl 5 rfl) ?_
  refine lv_iload hx hb dL_law_349 (lv_at hl 1 rfl) ?_
  refine lv_iconst (v := 1) hx hb dL_law_351 (by decide) ?_
  refine lv_iadd hx hb dL_law_352 ?_
  refine z_cst (v := 1) (by decide +kernel) ?_
  refine z_sld (v := (xs 1)) (j := 1) hx hb hX hbl hbA hS rfl (Nat.le_of_ble_eq_true rfl) rfl dL_law_353 ?_
  refine lv_aload_n hx hb dL_law_354 rfl (lv_at hl 5 rfl) ?_
  refine lv_iload hx hb dL_law_355 (lv_at hl 1 rfl) ?_
  refine lv_iconst (v := 2) hx hb dL_law_357 (by decide) ?_
  refine lv_iadd hx hb dL_law_358 ?_
  refine z_cst (v := 2) (by decide +kernel) ?_
  refine z_sld (v := (xs 2)) (j := 2) hx hb hX hbl hbA hS rfl (Nat.le_of_ble_eq_true rfl) rfl dL_law_359 ?_
  refine z_calli [(qm, zO 10 83 (zc71 u v))] [(qo, zJ K 1 (fun _ => 0))] [0] [1] hP hD hS hA rfl rfl (by decide +kernel) (by decide +kernel) (by decide +kernel) 125 1863522 rfl rfl (fun hPc hDc hF => z_runV (As := [.int (xs 1), .int (xs 2)]) (rest := []) ⟨hx, hb, hml, hown, hg⟩ (cX12_lam_3 l K H.size qm (zc71 u v) (xs 1) (xs 2) (zc71_0 u v) (by rw [Int32.lt_iff_toInt_lt, show (0 : Int32).toInt = 0 from by decide]; omega) (by rw [Int32.lt_iff_toInt_lt, show (0 : Int32).toInt = 0 from by decide]; omega) (by rw [Int32.lt_iff_toInt_lt, show (15 : Int32).toInt = 15 from by decide]; omega)) kV_RL_117 hd_X12_lam rfl rfl ⟨(Nat.le_of_ble_eq_true rfl), (Nat.le_of_ble_eq_true rfl)⟩ hK hS hZ hPc hDc hF 0 rfl rfl rfl hl.1 rfl (Nat.le_of_ble_eq_true rfl) dL_law_360 ⟨(Nat.le_of_ble_eq_true rfl), (Nat.le_of_ble_eq_true rfl)⟩) (fun r6 u4 H locs w5 hP hD hS => ?_)
  subst w5
  have hP : va_P K.1 classes [(qo, zJ K 1 (fun _ => 0)), (qm, zO 10 83 (va_up (zc71 u v) 81 (.int 1)))] H := hP
  have hD : va_D A [(qo, zJ K 1 (fun _ => 0)), (qm, zO 10 83 (va_up (zc71 u v) 81 (.int 1)))] := hD
  refine lv_istore (lv' := [(6, .int 0), (5, .int 1), (4, .int 0), (3, .ref qo), (2, .ref qm), (1, .ref qx), (0, .ref b)]) hx hb dL_law_363 hl (by decide) rfl (fun ls hl => ?_)
  refine lv_aload_n hx hb dL_law_365 rfl (lv_at hl 4 rfl) ?_
  refine z_calli [(qm, zO 10 83 (va_up (zc71 u v) 81 (.int 1)))] [(qo, zJ K 1 (fun _ => 0))] [1] [0] hP hD hS hA rfl rfl (by decide +kernel) (by decide +kernel) (by decide +kernel) 125 1863522 rfl rfl (fun hPc hDc hF => z_runV (As := []) (rest := []) ⟨hx, hb, hml, hown, hg⟩ (cX12_thrown_2 l K H.size qm (va_up (zc71 u v) 81 (.int 1)) zu_eq) kV_RL_104 hd_X12_thrown rfl rfl ⟨(Nat.le_of_ble_eq_true rfl), (Nat.le_of_ble_eq_true rfl)⟩ hK hS hZ hPc hDc hF 0 rfl rfl rfl hl.1 rfl (Nat.le_of_ble_eq_true rfl) dL_law_366 ⟨(Nat.le_of_ble_eq_true rfl), (Nat.le_of_ble_eq_true rfl)⟩) (fun r9 u7 H locs w8 hP hD hS => ?_)
  subst w8
  have hP : va_P K.1 classes [(qo, zJ K 1 (fun _ => 0)), (qm, zO 10 83 (va_up (zc71 u v) 81 (.int 1)))] H := hP
  have hD : va_D A [(qo, zJ K 1 (fun _ => 0)), (qm, zO 10 83 (va_up (zc71 u v) 81 (.int 1)))] := hD
  refine lv_iload hx hb dL_law_369 (lv_at hl 1 rfl) ?_
  refine lv_icmp_eq (tgt := 376) hx hb dL_law_371 (by decide) (fun _ => ?_) (fun c => absurd (by decide) c)
  refine lv_iload hx hb dL_law_376 (lv_at hl 1 rfl) ?_
  refine lv_if_ne (tgt := 393) hx hb dL_law_378 (by decide) (fun _ => ?_) (fun c => absurd c (by decide))
  refine lv_goto (tgt := 2026) hx hb dL_law_393 (by decide) ?_
  exact law_back ⟨hx, hb, hr, hml, hown, hg, hX, hbl, hlocks, hK, hZ, hl9, hAA, hA, hbA⟩ (Nat.le_of_ble_eq_true rfl) (Nat.le_of_ble_eq_true rfl) hS (lv_sub hl [2, 6] rfl)
set_option maxHeartbeats 4000000 in
set_option maxRecDepth 100000 in
theorem lawS_3_3 {p : Program} {l : Launch} {e : Env} {s : State} {m : MethodId} {below : List Frame} {meth : Method} {c : Code} {b : Nat} {xs : Nat → Int32} {K : zK} {A : Nat → Prop} {H : Heap} {locs : List Loc} {ls : Array Slot} (C : zC p l s m meth c b xs K A) (qx qm qo : Nat) (u v : Nat → Nat) (h0 : 0 ≤ (xs 2).toInt) (h1 : (xs 1).toInt < 0) (hP : va_P K.1 classes (lwW K qx qm qo u v) H) (hD : va_D A (lwW K qx qm qo u v)) (hS : va_S A s.heap H locs) (hl : lv_has ls 7 [(4, .int 0), (3, .ref qo), (2, .ref qm), (1, .ref qx), (0, .ref b)]) : W p l e room_1 s m #[Value.ref b] below meth c H locs 124 1863516 (lw_Z below #[Value.ref b] s) (F0 m 328 ls []) := by
  obtain ⟨hx, hb, hr, hml, hown, hg, hX, hbl, hlocks, hK, hZ, hl9, hAA, hA, hbA⟩ := C
  have hP : va_P K.1 classes [(qx, zO 9 9 (zc0 u v)), ((u 0), zO 7 6 (zc1 u v)), (qm, zO 10 83 (zc71 u v)), (qo, zJ K 1 (fun _ => 0))] H := hP.sub [0, 1, 71, 123] rfl
  have hD : va_D A [(qx, zO 9 9 (zc0 u v)), ((u 0), zO 7 6 (zc1 u v)), (qm, zO 10 83 (zc71 u v)), (qo, zJ K 1 (fun _ => 0))] := hD.sub [0, 1, 71, 123] (by decide +kernel) rfl
  refine lv_aload_n hx hb dL_law_328 rfl (lv_at hl 3 rfl) ?_
  refine lv_aload_n hx hb dL_law_329 rfl (lv_at hl 4 rfl) ?_
  refine lv_iload hx hb dL_law_330 (lv_at hl 0 rfl) ?_
  refine lv_iconst (v := 1) hx hb dL_law_332 (by decide) ?_
  refine lv_iadd hx hb dL_law_333 ?_
  refine z_cst (v := 1) (by decide +kernel) ?_
  refine z_sld (v := (xs 1)) (j := 1) hx hb hX hbl hbA hS rfl (Nat.le_of_ble_eq_true rfl) rfl dL_law_334 ?_
  refine lv_aload_n hx hb dL_law_335 rfl (lv_at hl 4 rfl) ?_
  refine lv_iload hx hb dL_law_336 (lv_at hl 0 rfl) ?_
  refine lv_iconst (v := 2) hx hb dL_law_338 (by decide) ?_
  refine lv_iadd hx hb dL_law_339 ?_
  refine z_cst (v := 2) (by decide +kernel) ?_
  refine z_sld (v := (xs 2)) (j := 2) hx hb hX hbl hbA hS rfl (Nat.le_of_ble_eq_true rfl) rfl dL_law_340 ?_
  refine lv_aload_n hx hb dL_law_341 rfl (lv_at hl 1 rfl) ?_
  refine z_hcalli [(qx, zO 9 9 (zc0 u v)), ((u 0), zO 7 6 (zc1 u v))] [(qm, zO 10 83 (zc71 u v)), (qo, zJ K 1 (fun _ => 0))] [0, 1] [2, 3] hP hD hS hA rfl rfl (by decide +kernel) (by decide +kernel) (by decide +kernel) 125 1863522 rfl rfl (fun hPc hDc hF => z_xrunH (As := [.ref qx, .int (xs 1), .int (xs 2), .ref qo]) (rest := []) ⟨hx, hb, hml, hown, hg⟩ (cL_lam_3 l hl9 K H.size qx qo (u 0) (zc0 u v) (zc1 u v) (xs 1) (xs 2) (zc0_0 u v) (by rw [Int32.lt_iff_toInt_lt, show (0 : Int32).toInt = 0 from by decide]; omega) (zc1_5 u v) (by rw [Int32.le_iff_toInt_le, show (0 : Int32).toInt = 0 from by decide]; omega)) kS_RL_114 hd_L_lam rfl rfl ⟨(Nat.le_of_ble_eq_true rfl), (Nat.le_of_ble_eq_true rfl)⟩ hK hS hZ hPc hDc hF rfl hl.1 rfl (Nat.le_of_ble_eq_true rfl) dL_law_342 ⟨(Nat.le_of_ble_eq_true rfl), (Nat.le_of_ble_eq_true rfl)⟩) (fun r3 u1 H locs w2 hP hD hS => ?_)
  subst w2
  have hP : va_P K.1 classes [(qm, zO 10 83 (zc71 u v)), (qo, zJ K 1 (fun _ => 0))] H := hP
  have hD : va_D A [(qm, zO 10 83 (zc71 u v)), (qo, zJ K 1 (fun _ => 0))] := hD
  refine lv_istore (lv' := [(5, .int 1), (4, .int 0), (3, .ref qo), (2, .ref qm), (1, .ref qx), (0, .ref b)]) hx hb dL_law_345 hl (by decide) rfl (fun ls hl => ?_)
  refine lv_aload_n hx hb dL_law_347 rfl (lv_at hl 3 rfl) ?_
  refine lv_aload_n hx hb dL_law_348 rfl (lv_at hl 5 rfl) ?_
  refine lv_iload hx hb dL_law_349 (lv_at hl 1 rfl) ?_
  refine lv_iconst (v := 1) hx hb dL_law_351 (by decide) ?_
  refine lv_iadd hx hb dL_law_352 ?_
  refine z_cst (v := 1) (by decide +kernel) ?_
  refine z_sld (v := (xs 1)) (j := 1) hx hb hX hbl hbA hS rfl (Nat.le_of_ble_eq_true rfl) rfl dL_law_353 ?_
  refine lv_aload_n hx hb dL_law_354 rfl (lv_at hl 5 rfl) ?_
  refine lv_iload hx hb dL_law_355 (lv_at hl 1 rfl) ?_
  refine lv_iconst (v := 2) hx hb dL_law_357 (by decide) ?_
  refine lv_iadd hx hb dL_law_358 ?_
  refine z_cst (v := 2) (by decide +kernel) ?_
  refine z_sld (v := (xs 2)) (j := 2) hx hb hX hbl hbA hS rfl (Nat.le_of_ble_eq_true rfl) rfl dL_law_359 ?_
  refine z_calli [(qm, zO 10 83 (zc71 u v))] [(qo, zJ K 1 (fun _ => 0))] [0] [1] hP hD hS hA rfl rfl (by decide +kernel) (by decide +kernel) (by decide +kernel) 125 1863522 rfl rfl (fun hPc hDc hF => z_runV (As := [.int (xs 1), .int (xs 2)]) (rest := []) ⟨hx, hb, hml, hown, hg⟩ (cX12_lam_4 l K H.size qm (zc71 u v) (xs 1) (xs 2) (zc71_0 u v) (by rw [Int32.lt_iff_toInt_lt, show (0 : Int32).toInt = 0 from by decide]; omega) (by rw [Int32.lt_iff_toInt_lt, show (-1 : Int32).toInt = -1 from by decide]; omega) (by rw [Int32.lt_iff_toInt_lt, show (0 : Int32).toInt = 0 from by decide]; omega)) kV_RL_117 hd_X12_lam rfl rfl ⟨(Nat.le_of_ble_eq_true rfl), (Nat.le_of_ble_eq_true rfl)⟩ hK hS hZ hPc hDc hF 0 rfl rfl rfl hl.1 rfl (Nat.le_of_ble_eq_true rfl) dL_law_360 ⟨(Nat.le_of_ble_eq_true rfl), (Nat.le_of_ble_eq_true rfl)⟩) (fun r6 u4 H locs w5 hP hD hS => ?_)
  subst w5
  have hP : va_P K.1 classes [(qo, zJ K 1 (fun _ => 0)), (qm, zO 10 83 (va_up (zc71 u v) 81 (.int 1)))] H := hP
  have hD : va_D A [(qo, zJ K 1 (fun _ => 0)), (qm, zO 10 83 (va_up (zc71 u v) 81 (.int 1)))] := hD
  refine lv_istore (lv' := [(6, .int 0), (5, .int 1), (4, .int 0), (3, .ref qo), (2, .ref qm), (1, .ref qx), (0, .ref b)]) hx hb dL_law_363 hl (by decide) rfl (fun ls hl => ?_)
  refine lv_aload_n hx hb dL_law_365 rfl (lv_at hl 4 rfl) ?_
  refine z_calli [(qm, zO 10 83 (va_up (zc71 u v) 81 (.int 1)))] [(qo, zJ K 1 (fun _ => 0))] [1] [0] hP hD hS hA rfl rfl (by decide +kernel) (by decide +kernel) (by decide +kernel) 125 1863522 rfl rfl (fun hPc hDc hF => z_runV (As := []) (rest := []) ⟨hx, hb, hml, hown, hg⟩ (cX12_thrown_2 l K H.size qm (va_up (zc71 u v) 81 (.int 1)) zu_eq) kV_RL_104 hd_X12_thrown rfl rfl ⟨(Nat.le_of_ble_eq_true rfl), (Nat.le_of_ble_eq_true rfl)⟩ hK hS hZ hPc hDc hF 0 rfl rfl rfl hl.1 rfl (Nat.le_of_ble_eq_true rfl) dL_law_366 ⟨(Nat.le_of_ble_eq_true rfl), (Nat.le_of_ble_eq_true rfl)⟩) (fun r9 u7 H locs w8 hP hD hS => ?_)
  subst w8
  have hP : va_P K.1 classes [(qo, zJ K 1 (fun _ => 0)), (qm, zO 10 83 (va_up (zc71 u v) 81 (.int 1)))] H := hP
  have hD : va_D A [(qo, zJ K 1 (fun _ => 0)), (qm, zO 10 83 (va_up (zc71 u v) 81 (.int 1)))] := hD
  refine lv_iload hx hb dL_law_369 (lv_at hl 1 rfl) ?_
  refine lv_icmp_eq (tgt := 376) hx hb dL_law_371 (by decide) (fun _ => ?_) (fun c => absurd (by decide) c)
  refine lv_iload hx hb dL_law_376 (lv_at hl 1 rfl) ?_
  refine lv_if_ne (tgt := 393) hx hb dL_law_378 (by decide) (fun _ => ?_) (fun c => absurd c (by decide))
  refine lv_goto (tgt := 2026) hx hb dL_law_393 (by decide) ?_
  exact law_back ⟨hx, hb, hr, hml, hown, hg, hX, hbl, hlocks, hK, hZ, hl9, hAA, hA, hbA⟩ (Nat.le_of_ble_eq_true rfl) (Nat.le_of_ble_eq_true rfl) hS (lv_sub hl [2, 6] rfl)
set_option maxHeartbeats 4000000 in
set_option maxRecDepth 100000 in
theorem lawS_3_4 {p : Program} {l : Launch} {e : Env} {s : State} {m : MethodId} {below : List Frame} {meth : Method} {c : Code} {b : Nat} {xs : Nat → Int32} {K : zK} {A : Nat → Prop} {H : Heap} {locs : List Loc} {ls : Array Slot} (C : zC p l s m meth c b xs K A) (qx qm qo : Nat) (u v : Nat → Nat) (h0 : 0 ≤ (xs 2).toInt) (h1 : 0 ≤ (xs 1).toInt) (h2 : (xs 1).toInt < 16) (hP : va_P K.1 classes (lwW K qx qm qo u v) H) (hD : va_D A (lwW K qx qm qo u v)) (hS : va_S A s.heap H locs) (hl : lv_has ls 7 [(4, .int 0), (3, .ref qo), (2, .ref qm), (1, .ref qx), (0, .ref b)]) : W p l e room_1 s m #[Value.ref b] below meth c H locs 124 1863516 (lw_Z below #[Value.ref b] s) (F0 m 328 ls []) := by
  obtain ⟨hx, hb, hr, hml, hown, hg, hX, hbl, hlocks, hK, hZ, hl9, hAA, hA, hbA⟩ := C
  have hP : va_P K.1 classes [(qx, zO 9 9 (zc0 u v)), ((u 0), zO 7 6 (zc1 u v)), (qm, zO 10 83 (zc71 u v)), (qo, zJ K 1 (fun _ => 0))] H := hP.sub [0, 1, 71, 123] rfl
  have hD : va_D A [(qx, zO 9 9 (zc0 u v)), ((u 0), zO 7 6 (zc1 u v)), (qm, zO 10 83 (zc71 u v)), (qo, zJ K 1 (fun _ => 0))] := hD.sub [0, 1, 71, 123] (by decide +kernel) rfl
  obtain ⟨t1, ht1, v1⟩ : ∃ j : Nat, j < 16 ∧ xs 1 = nI j := z_nat (n := 16) (by omega) (by omega) (by decide)
  refine lv_aload_n hx hb dL_law_328 rfl (lv_at hl 3 rfl) ?_
  refine lv_aload_n hx hb dL_law_329 rfl (lv_at hl 4 rfl) ?_
  refine lv_iload hx hb dL_law_330 (lv_at hl 0 rfl) ?_
  refine lv_iconst (v := 1) hx hb dL_law_332 (by decide) ?_
  refine lv_iadd hx hb dL_law_333 ?_
  refine z_cst (v := 1) (by decide +kernel) ?_
  refine z_sld (v := (nI t1)) (j := 1) hx hb hX hbl hbA hS rfl (Nat.le_of_ble_eq_true rfl) v1 dL_law_334 ?_
  refine lv_aload_n hx hb dL_law_335 rfl (lv_at hl 4 rfl) ?_
  refine lv_iload hx hb dL_law_336 (lv_at hl 0 rfl) ?_
  refine lv_iconst (v := 2) hx hb dL_law_338 (by decide) ?_
  refine lv_iadd hx hb dL_law_339 ?_
  refine z_cst (v := 2) (by decide +kernel) ?_
  refine z_sld (v := (xs 2)) (j := 2) hx hb hX hbl hbA hS rfl (Nat.le_of_ble_eq_true rfl) rfl dL_law_340 ?_
  refine lv_aload_n hx hb dL_law_341 rfl (lv_at hl 1 rfl) ?_
  refine z_hcalli [(qx, zO 9 9 (zc0 u v)), ((u 0), zO 7 6 (zc1 u v))] [(qm, zO 10 83 (zc71 u v)), (qo, zJ K 1 (fun _ => 0))] [0, 1] [2, 3] hP hD hS hA rfl rfl (by decide +kernel) (by decide +kernel) (by decide +kernel) 125 1863522 rfl rfl (fun hPc hDc hF => z_xrunH (As := [.ref qx, .int (nI t1), .int (xs 2), .ref qo]) (rest := []) ⟨hx, hb, hml, hown, hg⟩ (cL_lam_4 l hl9 K H.size qx qo (u 0) (zc0 u v) (zc1 u v) t1 ht1 (xs 2) (zc0_0 u v) (by rw [Int32.lt_iff_toInt_lt, show (0 : Int32).toInt = 0 from by decide]; omega) (zc1_5 u v) (by rw [Int32.le_iff_toInt_le, show (0 : Int32).toInt = 0 from by decide]; omega)) kS_RL_114 hd_L_lam rfl rfl ⟨(Nat.le_of_ble_eq_true rfl), (Nat.le_of_ble_eq_true rfl)⟩ hK hS hZ hPc hDc hF rfl hl.1 rfl (Nat.le_of_ble_eq_true rfl) dL_law_342 ⟨(Nat.le_of_ble_eq_true rfl), (Nat.le_of_ble_eq_true rfl)⟩) (fun r3 u1 H locs w2 hP hD hS => ?_)
  subst w2
  have hP : va_P K.1 classes [(qm, zO 10 83 (zc71 u v)), (qo, zJ K 1 (fun _ => 0))] H := hP
  have hD : va_D A [(qm, zO 10 83 (zc71 u v)), (qo, zJ K 1 (fun _ => 0))] := hD
  refine lv_istore (lv' := [(5, .int 1), (4, .int 0), (3, .ref qo), (2, .ref qm), (1, .ref qx), (0, .ref b)]) hx hb dL_law_345 hl (by decide) rfl (fun ls hl => ?_)
  refine lv_aload_n hx hb dL_law_347 rfl (lv_at hl 3 rfl) ?_
  refine lv_aload_n hx hb dL_law_348 rfl (lv_at hl 5 rfl) ?_
  refine lv_iload hx hb dL_law_349 (lv_at hl 1 rfl) ?_
  refine lv_iconst (v := 1) hx hb dL_law_351 (by decide) ?_
  refine lv_iadd hx hb dL_law_352 ?_
  refine z_cst (v := 1) (by decide +kernel) ?_
  refine z_sld (v := (nI t1)) (j := 1) hx hb hX hbl hbA hS rfl (Nat.le_of_ble_eq_true rfl) v1 dL_law_353 ?_
  refine lv_aload_n hx hb dL_law_354 rfl (lv_at hl 5 rfl) ?_
  refine lv_iload hx hb dL_law_355 (lv_at hl 1 rfl) ?_
  refine lv_iconst (v := 2) hx hb dL_law_357 (by decide) ?_
  refine lv_iadd hx hb dL_law_358 ?_
  refine z_cst (v := 2) (by decide +kernel) ?_
  refine z_sld (v := (xs 2)) (j := 2) hx hb hX hbl hbA hS rfl (Nat.le_of_ble_eq_true rfl) rfl dL_law_359 ?_
  refine z_calli [(qm, zO 10 83 (zc71 u v))] [(qo, zJ K 1 (fun _ => 0))] [0] [1] hP hD hS hA rfl rfl (by decide +kernel) (by decide +kernel) (by decide +kernel) 125 1863522 rfl rfl (fun hPc hDc hF => z_runV (As := [.int (nI t1), .int (xs 2)]) (rest := []) ⟨hx, hb, hml, hown, hg⟩ (cX12_lam_5 l K H.size qm (zc71 u v) t1 ht1 (xs 2) (zc71_0 u v) (by rw [Int32.lt_iff_toInt_lt, show (0 : Int32).toInt = 0 from by decide]; omega) (by rw [Int32.lt_iff_toInt_lt, show (-1 : Int32).toInt = -1 from by decide]; omega)) kV_RL_117 hd_X12_lam rfl rfl ⟨(Nat.le_of_ble_eq_true rfl), (Nat.le_of_ble_eq_true rfl)⟩ hK hS hZ hPc hDc hF 0 rfl rfl rfl hl.1 rfl (Nat.le_of_ble_eq_true rfl) dL_law_360 ⟨(Nat.le_of_ble_eq_true rfl), (Nat.le_of_ble_eq_true rfl)⟩) (fun r6 u4 H locs w5 hP hD hS => ?_)
  subst w5
  have hP : va_P K.1 classes [(qo, zJ K 1 (fun _ => 0)), (qm, zO 10 83 (va_up (zc71 u v) 81 (.int 1)))] H := hP
  have hD : va_D A [(qo, zJ K 1 (fun _ => 0)), (qm, zO 10 83 (va_up (zc71 u v) 81 (.int 1)))] := hD
  refine lv_istore (lv' := [(6, .int 0), (5, .int 1), (4, .int 0), (3, .ref qo), (2, .ref qm), (1, .ref qx), (0, .ref b)]) hx hb dL_law_363 hl (by decide) rfl (fun ls hl => ?_)
  refine lv_aload_n hx hb dL_law_365 rfl (lv_at hl 4 rfl) ?_
  refine z_calli [(qm, zO 10 83 (va_up (zc71 u v) 81 (.int 1)))] [(qo, zJ K 1 (fun _ => 0))] [1] [0] hP hD hS hA rfl rfl (by decide +kernel) (by decide +kernel) (by decide +kernel) 125 1863522 rfl rfl (fun hPc hDc hF => z_runV (As := []) (rest := []) ⟨hx, hb, hml, hown, hg⟩ (cX12_thrown_2 l K H.size qm (va_up (zc71 u v) 81 (.int 1)) zu_eq) kV_RL_104 hd_X12_thrown rfl rfl ⟨(Nat.le_of_ble_eq_true rfl), (Nat.le_of_ble_eq_true rfl)⟩ hK hS hZ hPc hDc hF 0 rfl rfl rfl hl.1 rfl (Nat.le_of_ble_eq_true rfl) dL_law_366 ⟨(Nat.le_of_ble_eq_true rfl), (Nat.le_of_ble_eq_true rfl)⟩) (fun r9 u7 H locs w8 hP hD hS => ?_)
  subst w8
  have hP : va_P K.1 classes [(qo, zJ K 1 (fun _ => 0)), (qm, zO 10 83 (va_up (zc71 u v) 81 (.int 1)))] H := hP
  have hD : va_D A [(qo, zJ K 1 (fun _ => 0)), (qm, zO 10 83 (va_up (zc71 u v) 81 (.int 1)))] := hD
  refine lv_iload hx hb dL_law_369 (lv_at hl 1 rfl) ?_
  refine lv_icmp_eq (tgt := 376) hx hb dL_law_371 (by decide) (fun _ => ?_) (fun c => absurd (by decide) c)
  refine lv_iload hx hb dL_law_376 (lv_at hl 1 rfl) ?_
  refine lv_if_ne (tgt := 393) hx hb dL_law_378 (by decide) (fun _ => ?_) (fun c => absurd c (by decide))
  refine lv_goto (tgt := 2026) hx hb dL_law_393 (by decide) ?_
  exact law_back ⟨hx, hb, hr, hml, hown, hg, hX, hbl, hlocks, hK, hZ, hl9, hAA, hA, hbA⟩ (Nat.le_of_ble_eq_true rfl) (Nat.le_of_ble_eq_true rfl) hS (lv_sub hl [2, 6] rfl)
set_option maxHeartbeats 4000000 in
set_option maxRecDepth 100000 in
theorem lawS_3_5 {p : Program} {l : Launch} {e : Env} {s : State} {m : MethodId} {below : List Frame} {meth : Method} {c : Code} {b : Nat} {xs : Nat → Int32} {K : zK} {A : Nat → Prop} {H : Heap} {locs : List Loc} {ls : Array Slot} (C : zC p l s m meth c b xs K A) (qx qm qo : Nat) (u v : Nat → Nat) (h0 : 0 ≤ (xs 2).toInt) (h1 : 0 ≤ (xs 1).toInt) (h2 : 16 ≤ (xs 1).toInt) (hP : va_P K.1 classes (lwW K qx qm qo u v) H) (hD : va_D A (lwW K qx qm qo u v)) (hS : va_S A s.heap H locs) (hl : lv_has ls 7 [(4, .int 0), (3, .ref qo), (2, .ref qm), (1, .ref qx), (0, .ref b)]) : W p l e room_1 s m #[Value.ref b] below meth c H locs 124 1863516 (lw_Z below #[Value.ref b] s) (F0 m 328 ls []) := by
  obtain ⟨hx, hb, hr, hml, hown, hg, hX, hbl, hlocks, hK, hZ, hl9, hAA, hA, hbA⟩ := C
  have hP : va_P K.1 classes [(qx, zO 9 9 (zc0 u v)), ((u 0), zO 7 6 (zc1 u v)), (qm, zO 10 83 (zc71 u v)), (qo, zJ K 1 (fun _ => 0))] H := hP.sub [0, 1, 71, 123] rfl
  have hD : va_D A [(qx, zO 9 9 (zc0 u v)), ((u 0), zO 7 6 (zc1 u v)), (qm, zO 10 83 (zc71 u v)), (qo, zJ K 1 (fun _ => 0))] := hD.sub [0, 1, 71, 123] (by decide +kernel) rfl
  refine lv_aload_n hx hb dL_law_328 rfl (lv_at hl 3 rfl) ?_
  refine lv_aload_n hx hb dL_law_329 rfl (lv_at hl 4 rfl) ?_
  refine lv_iload hx hb dL_law_330 (lv_at hl 0 rfl) ?_
  refine lv_iconst (v := 1) hx hb dL_law_332 (by decide) ?_
  refine lv_iadd hx hb dL_law_333 ?_
  refine z_cst (v := 1) (by decide +kernel) ?_
  refine z_sld (v := (xs 1)) (j := 1) hx hb hX hbl hbA hS rfl (Nat.le_of_ble_eq_true rfl) rfl dL_law_334 ?_
  refine lv_aload_n hx hb dL_law_335 rfl (lv_at hl 4 rfl) ?_
  refine lv_iload hx hb dL_law_336 (lv_at hl 0 rfl) ?_
  refine lv_iconst (v := 2) hx hb dL_law_338 (by decide) ?_
  refine lv_iadd hx hb dL_law_339 ?_
  refine z_cst (v := 2) (by decide +kernel) ?_
  refine z_sld (v := (xs 2)) (j := 2) hx hb hX hbl hbA hS rfl (Nat.le_of_ble_eq_true rfl) rfl dL_law_340 ?_
  refine lv_aload_n hx hb dL_law_341 rfl (lv_at hl 1 rfl) ?_
  refine z_hcalli [(qx, zO 9 9 (zc0 u v)), ((u 0), zO 7 6 (zc1 u v))] [(qm, zO 10 83 (zc71 u v)), (qo, zJ K 1 (fun _ => 0))] [0, 1] [2, 3] hP hD hS hA rfl rfl (by decide +kernel) (by decide +kernel) (by decide +kernel) 125 1863522 rfl rfl (fun hPc hDc hF => z_xrunH (As := [.ref qx, .int (xs 1), .int (xs 2), .ref qo]) (rest := []) ⟨hx, hb, hml, hown, hg⟩ (cL_lam_3 l hl9 K H.size qx qo (u 0) (zc0 u v) (zc1 u v) (xs 1) (xs 2) (zc0_0 u v) (by rw [Int32.lt_iff_toInt_lt, show (0 : Int32).toInt = 0 from by decide]; omega) (zc1_5 u v) (by rw [Int32.le_iff_toInt_le, show (0 : Int32).toInt = 0 from by decide]; omega)) kS_RL_114 hd_L_lam rfl rfl ⟨(Nat.le_of_ble_eq_true rfl), (Nat.le_of_ble_eq_true rfl)⟩ hK hS hZ hPc hDc hF rfl hl.1 rfl (Nat.le_of_ble_eq_true rfl) dL_law_342 ⟨(Nat.le_of_ble_eq_true rfl), (Nat.le_of_ble_eq_true rfl)⟩) (fun r3 u1 H locs w2 hP hD hS => ?_)
  subst w2
  have hP : va_P K.1 classes [(qm, zO 10 83 (zc71 u v)), (qo, zJ K 1 (fun _ => 0))] H := hP
  have hD : va_D A [(qm, zO 10 83 (zc71 u v)), (qo, zJ K 1 (fun _ => 0))] := hD
  refine lv_istore (lv' := [(5, .int 1), (4, .int 0), (3, .ref qo), (2, .ref qm), (1, .ref qx), (0, .ref b)]) hx hb dL_law_345 hl (by decide) rfl (fun ls hl => ?_)
  refine lv_aload_n hx hb dL_law_347 rfl (lv_at hl 3 rfl) ?_
  refine lv_aload_n hx hb dL_law_348 rfl (lv_at hl 5 rfl) ?_
  refine lv_iload hx hb dL_law_349 (lv_at hl 1 rfl) ?_
  refine lv_iconst (v := 1) hx hb dL_law_351 (by decide) ?_
  refine lv_iadd hx hb dL_law_352 ?_
  refine z_cst (v := 1) (by decide +kernel) ?_
  refine z_sld (v := (xs 1)) (j := 1) hx hb hX hbl hbA hS rfl (Nat.le_of_ble_eq_true rfl) rfl dL_law_353 ?_
  refine lv_aload_n hx hb dL_law_354 rfl (lv_at hl 5 rfl) ?_
  refine lv_iload hx hb dL_law_355 (lv_at hl 1 rfl) ?_
  refine lv_iconst (v := 2) hx hb dL_law_357 (by decide) ?_
  refine lv_iadd hx hb dL_law_358 ?_
  refine z_cst (v := 2) (by decide +kernel) ?_
  refine z_sld (v := (xs 2)) (j := 2) hx hb hX hbl hbA hS rfl (Nat.le_of_ble_eq_true rfl) rfl dL_law_359 ?_
  refine z_calli [(qm, zO 10 83 (zc71 u v))] [(qo, zJ K 1 (fun _ => 0))] [0] [1] hP hD hS hA rfl rfl (by decide +kernel) (by decide +kernel) (by decide +kernel) 125 1863522 rfl rfl (fun hPc hDc hF => z_runV (As := [.int (xs 1), .int (xs 2)]) (rest := []) ⟨hx, hb, hml, hown, hg⟩ (cX12_lam_6 l K H.size qm (zc71 u v) (xs 1) (xs 2) (zc71_0 u v) (by rw [Int32.lt_iff_toInt_lt, show (0 : Int32).toInt = 0 from by decide]; omega) (by rw [Int32.lt_iff_toInt_lt, show (-1 : Int32).toInt = -1 from by decide]; omega) (by rw [Int32.lt_iff_toInt_lt, show (0 : Int32).toInt = 0 from by decide]; omega) (by rw [Int32.lt_iff_toInt_lt, show (15 : Int32).toInt = 15 from by decide]; omega)) kV_RL_117 hd_X12_lam rfl rfl ⟨(Nat.le_of_ble_eq_true rfl), (Nat.le_of_ble_eq_true rfl)⟩ hK hS hZ hPc hDc hF 0 rfl rfl rfl hl.1 rfl (Nat.le_of_ble_eq_true rfl) dL_law_360 ⟨(Nat.le_of_ble_eq_true rfl), (Nat.le_of_ble_eq_true rfl)⟩) (fun r6 u4 H locs w5 hP hD hS => ?_)
  subst w5
  have hP : va_P K.1 classes [(qo, zJ K 1 (fun _ => 0)), (qm, zO 10 83 (va_up (zc71 u v) 81 (.int 1)))] H := hP
  have hD : va_D A [(qo, zJ K 1 (fun _ => 0)), (qm, zO 10 83 (va_up (zc71 u v) 81 (.int 1)))] := hD
  refine lv_istore (lv' := [(6, .int 0), (5, .int 1), (4, .int 0), (3, .ref qo), (2, .ref qm), (1, .ref qx), (0, .ref b)]) hx hb dL_law_363 hl (by decide) rfl (fun ls hl => ?_)
  refine lv_aload_n hx hb dL_law_365 rfl (lv_at hl 4 rfl) ?_
  refine z_calli [(qm, zO 10 83 (va_up (zc71 u v) 81 (.int 1)))] [(qo, zJ K 1 (fun _ => 0))] [1] [0] hP hD hS hA rfl rfl (by decide +kernel) (by decide +kernel) (by decide +kernel) 125 1863522 rfl rfl (fun hPc hDc hF => z_runV (As := []) (rest := []) ⟨hx, hb, hml, hown, hg⟩ (cX12_thrown_2 l K H.size qm (va_up (zc71 u v) 81 (.int 1)) zu_eq) kV_RL_104 hd_X12_thrown rfl rfl ⟨(Nat.le_of_ble_eq_true rfl), (Nat.le_of_ble_eq_true rfl)⟩ hK hS hZ hPc hDc hF 0 rfl rfl rfl hl.1 rfl (Nat.le_of_ble_eq_true rfl) dL_law_366 ⟨(Nat.le_of_ble_eq_true rfl), (Nat.le_of_ble_eq_true rfl)⟩) (fun r9 u7 H locs w8 hP hD hS => ?_)
  subst w8
  have hP : va_P K.1 classes [(qo, zJ K 1 (fun _ => 0)), (qm, zO 10 83 (va_up (zc71 u v) 81 (.int 1)))] H := hP
  have hD : va_D A [(qo, zJ K 1 (fun _ => 0)), (qm, zO 10 83 (va_up (zc71 u v) 81 (.int 1)))] := hD
  refine lv_iload hx hb dL_law_369 (lv_at hl 1 rfl) ?_
  refine lv_icmp_eq (tgt := 376) hx hb dL_law_371 (by decide) (fun _ => ?_) (fun c => absurd (by decide) c)
  refine lv_iload hx hb dL_law_376 (lv_at hl 1 rfl) ?_
  refine lv_if_ne (tgt := 393) hx hb dL_law_378 (by decide) (fun _ => ?_) (fun c => absurd c (by decide))
  refine lv_goto (tgt := 2026) hx hb dL_law_393 (by decide) ?_
  exact law_back ⟨hx, hb, hr, hml, hown, hg, hX, hbl, hlocks, hK, hZ, hl9, hAA, hA, hbA⟩ (Nat.le_of_ble_eq_true rfl) (Nat.le_of_ble_eq_true rfl) hS (lv_sub hl [2, 6] rfl)
theorem lawC_3 {p : Program} {l : Launch} {e : Env} {s : State} {m : MethodId} {below : List Frame} {meth : Method} {c : Code} {b : Nat} {xs : Nat → Int32} {K : zK} {A : Nat → Prop} {H : Heap} {locs : List Loc} {ls : Array Slot} (C : zC p l s m meth c b xs K A) (qx qm qo : Nat) (u v : Nat → Nat) (hP : va_P K.1 classes (lwW K qx qm qo u v) H) (hD : va_D A (lwW K qx qm qo u v)) (hS : va_S A s.heap H locs) (hl : lv_has ls 7 [(4, .int 0), (3, .ref qo), (2, .ref qm), (1, .ref qx), (0, .ref b)]) : W p l e room_1 s m #[Value.ref b] below meth c H locs 124 1863516 (lw_Z below #[Value.ref b] s) (F0 m 328 ls []) := by
  rcases z_split (xs 2) (0) with h0 | h0
  · rcases z_split (xs 1) (0) with h1 | h1
    · exact lawS_3_0 C qx qm qo u v h0 h1 hP hD hS hl
    · rcases z_split (xs 1) (16) with h2 | h2
      · exact lawS_3_1 C qx qm qo u v h0 h1 h2 hP hD hS hl
      · exact lawS_3_2 C qx qm qo u v h0 h1 h2 hP hD hS hl
  · rcases z_split (xs 1) (0) with h1 | h1
    · exact lawS_3_3 C qx qm qo u v h0 h1 hP hD hS hl
    · rcases z_split (xs 1) (16) with h2 | h2
      · exact lawS_3_4 C qx qm qo u v h0 h1 h2 hP hD hS hl
      · exact lawS_3_5 C qx qm qo u v h0 h1 h2 hP hD hS hl
set_option maxHeartbeats 4000000 in
set_option maxRecDepth 100000 in
theorem lawS_4_0 {p : Program} {l : Launch} {e : Env} {s : State} {m : MethodId} {below : List Frame} {meth : Method} {c : Code} {b : Nat} {xs : Nat → Int32} {K : zK} {A : Nat → Prop} {H : Heap} {locs : List Loc} {ls : Array Slot} (C : zC p l s m meth c b xs K A) (qx qm qo : Nat) (u v : Nat → Nat) (h0 : (xs 1).toInt < 0) (hP : va_P K.1 classes (lwW K qx qm qo u v) H) (hD : va_D A (lwW K qx qm qo u v)) (hS : va_S A s.heap H locs) (hl : lv_has ls 7 [(4, .int 0), (3, .ref qo), (2, .ref qm), (1, .ref qx), (0, .ref b)]) : W p l e room_1 s m #[Value.ref b] below meth c H locs 124 1863516 (lw_Z below #[Value.ref b] s) (F0 m 396 ls []) := by
  obtain ⟨hx, hb, hr, hml, hown, hg, hX, hbl, hlocks, hK, hZ, hl9, hAA, hA, hbA⟩ := C
  have hP : va_P K.1 classes [(qx, zO 9 9 (zc0 u v)), ((u 0), zO 7 6 (zc1 u v)), (qm, zO 10 83 (zc71 u v)), (qo, zJ K 1 (fun _ => 0))] H := hP.sub [0, 1, 71, 123] rfl
  have hD : va_D A [(qx, zO 9 9 (zc0 u v)), ((u 0), zO 7 6 (zc1 u v)), (qm, zO 10 83 (zc71 u v)), (qo, zJ K 1 (fun _ => 0))] := hD.sub [0, 1, 71, 123] (by decide +kernel) rfl
  refine lv_aload_n hx hb dL_law_396 rfl (lv_at hl 3 rfl) ?_
  refine lv_aload_n hx hb dL_law_397 rfl (lv_at hl 4 rfl) ?_
  refine lv_iload hx hb dL_law_398 (lv_at hl 0 rfl) ?_
  refine lv_iconst (v := 1) hx hb dL_law_400 (by decide) ?_
  refine lv_iadd hx hb dL_law_401 ?_
  refine z_cst (v := 1) (by decide +kernel) ?_
  refine z_sld (v := (xs 1)) (j := 1) hx hb hX hbl hbA hS rfl (Nat.le_of_ble_eq_true rfl) rfl dL_law_402 ?_
  refine lv_aload_n hx hb dL_law_403 rfl (lv_at hl 4 rfl) ?_
  refine lv_iload hx hb dL_law_404 (lv_at hl 0 rfl) ?_
  refine lv_iconst (v := 2) hx hb dL_law_406 (by decide) ?_
  refine lv_iadd hx hb dL_law_407 ?_
  refine z_cst (v := 2) (by decide +kernel) ?_
  refine z_sld (v := (xs 2)) (j := 2) hx hb hX hbl hbA hS rfl (Nat.le_of_ble_eq_true rfl) rfl dL_law_408 ?_
  refine lv_aload_n hx hb dL_law_409 rfl (lv_at hl 1 rfl) ?_
  refine z_hcalli [(qx, zO 9 9 (zc0 u v)), ((u 0), zO 7 6 (zc1 u v))] [(qm, zO 10 83 (zc71 u v)), (qo, zJ K 1 (fun _ => 0))] [0, 1] [2, 3] hP hD hS hA rfl rfl (by decide +kernel) (by decide +kernel) (by decide +kernel) 125 1863522 rfl rfl (fun hPc hDc hF => z_xrunH (As := [.ref qx, .int (xs 1), .int (xs 2), .ref qo]) (rest := []) ⟨hx, hb, hml, hown, hg⟩ (cL_app_1 l hl9 K H.size qx qo (u 0) (zc0 u v) (zc1 u v) (xs 1) (xs 2) (zc0_0 u v) (by rw [Int32.lt_iff_toInt_lt, show (0 : Int32).toInt = 0 from by decide]; omega)) kS_RL_118 hd_L_app rfl rfl ⟨(Nat.le_of_ble_eq_true rfl), (Nat.le_of_ble_eq_true rfl)⟩ hK hS hZ hPc hDc hF rfl hl.1 rfl (Nat.le_of_ble_eq_true rfl) dL_law_410 ⟨(Nat.le_of_ble_eq_true rfl), (Nat.le_of_ble_eq_true rfl)⟩) (fun r3 u1 H locs w2 hP hD hS => ?_)
  subst w2
  have hP : va_P K.1 classes [(qm, zO 10 83 (zc71 u v)), (qo, zJ K 1 (fun _ => 0))] H := hP
  have hD : va_D A [(qm, zO 10 83 (zc71 u v)), (qo, zJ K 1 (fun _ => 0))] := hD
  refine lv_istore (lv' := [(5, .int 1), (4, .int 0), (3, .ref qo), (2, .ref qm), (1, .ref qx), (0, .ref b)]) hx hb dL_law_413 hl (by decide) rfl (fun ls hl => ?_)
  refine lv_aload_n hx hb dL_law_415 rfl (lv_at hl 3 rfl) ?_
  refine lv_aload_n hx hb dL_law_416 rfl (lv_at hl 5 rfl) ?_
  refine lv_iload hx hb dL_law_417 (lv_at hl 1 rfl) ?_
  refine lv_iconst (v := 1) hx hb dL_law_419 (by decide) ?_
  refine lv_iadd hx hb dL_law_420 ?_
  refine z_cst (v := 1) (by decide +kernel) ?_
  refine z_sld (v := (xs 1)) (j := 1) hx hb hX hbl hbA hS rfl (Nat.le_of_ble_eq_true rfl) rfl dL_law_421 ?_
  refine lv_aload_n hx hb dL_law_422 rfl (lv_at hl 5 rfl) ?_
  refine lv_iload hx hb dL_law_423 (lv_at hl 1 rfl) ?_
  refine lv_iconst (v := 2) hx hb dL_law_425 (by decide) ?_
  refine lv_iadd hx hb dL_law_426 ?_
  refine z_cst (v := 2) (by decide +kernel) ?_
  refine z_sld (v := (xs 2)) (j := 2) hx hb hX hbl hbA hS rfl (Nat.le_of_ble_eq_true rfl) rfl dL_law_427 ?_
  refine z_calli [(qm, zO 10 83 (zc71 u v))] [(qo, zJ K 1 (fun _ => 0))] [0] [1] hP hD hS hA rfl rfl (by decide +kernel) (by decide +kernel) (by decide +kernel) 125 1863522 rfl rfl (fun hPc hDc hF => z_runV (As := [.int (xs 1), .int (xs 2)]) (rest := []) ⟨hx, hb, hml, hown, hg⟩ (cX12_app_1 l K H.size qm (zc71 u v) (xs 1) (xs 2) (zc71_0 u v) (by rw [Int32.lt_iff_toInt_lt, show (0 : Int32).toInt = 0 from by decide]; omega)) kV_RL_120 hd_X12_app rfl rfl ⟨(Nat.le_of_ble_eq_true rfl), (Nat.le_of_ble_eq_true rfl)⟩ hK hS hZ hPc hDc hF 0 rfl rfl rfl hl.1 rfl (Nat.le_of_ble_eq_true rfl) dL_law_428 ⟨(Nat.le_of_ble_eq_true rfl), (Nat.le_of_ble_eq_true rfl)⟩) (fun r6 u4 H locs w5 hP hD hS => ?_)
  subst w5
  have hP : va_P K.1 classes [(qo, zJ K 1 (fun _ => 0)), (qm, zO 10 83 (va_up (zc71 u v) 81 (.int 1)))] H := hP
  have hD : va_D A [(qo, zJ K 1 (fun _ => 0)), (qm, zO 10 83 (va_up (zc71 u v) 81 (.int 1)))] := hD
  refine lv_istore (lv' := [(6, .int 0), (5, .int 1), (4, .int 0), (3, .ref qo), (2, .ref qm), (1, .ref qx), (0, .ref b)]) hx hb dL_law_431 hl (by decide) rfl (fun ls hl => ?_)
  refine lv_aload_n hx hb dL_law_433 rfl (lv_at hl 4 rfl) ?_
  refine z_calli [(qm, zO 10 83 (va_up (zc71 u v) 81 (.int 1)))] [(qo, zJ K 1 (fun _ => 0))] [1] [0] hP hD hS hA rfl rfl (by decide +kernel) (by decide +kernel) (by decide +kernel) 125 1863522 rfl rfl (fun hPc hDc hF => z_runV (As := []) (rest := []) ⟨hx, hb, hml, hown, hg⟩ (cX12_thrown_2 l K H.size qm (va_up (zc71 u v) 81 (.int 1)) zu_eq) kV_RL_104 hd_X12_thrown rfl rfl ⟨(Nat.le_of_ble_eq_true rfl), (Nat.le_of_ble_eq_true rfl)⟩ hK hS hZ hPc hDc hF 0 rfl rfl rfl hl.1 rfl (Nat.le_of_ble_eq_true rfl) dL_law_434 ⟨(Nat.le_of_ble_eq_true rfl), (Nat.le_of_ble_eq_true rfl)⟩) (fun r9 u7 H locs w8 hP hD hS => ?_)
  subst w8
  have hP : va_P K.1 classes [(qo, zJ K 1 (fun _ => 0)), (qm, zO 10 83 (va_up (zc71 u v) 81 (.int 1)))] H := hP
  have hD : va_D A [(qo, zJ K 1 (fun _ => 0)), (qm, zO 10 83 (va_up (zc71 u v) 81 (.int 1)))] := hD
  refine lv_iload hx hb dL_law_437 (lv_at hl 1 rfl) ?_
  refine lv_icmp_eq (tgt := 444) hx hb dL_law_439 (by decide) (fun _ => ?_) (fun c => absurd (by decide) c)
  refine lv_iload hx hb dL_law_444 (lv_at hl 1 rfl) ?_
  refine lv_if_ne (tgt := 461) hx hb dL_law_446 (by decide) (fun _ => ?_) (fun c => absurd c (by decide))
  refine lv_goto (tgt := 2026) hx hb dL_law_461 (by decide) ?_
  exact law_back ⟨hx, hb, hr, hml, hown, hg, hX, hbl, hlocks, hK, hZ, hl9, hAA, hA, hbA⟩ (Nat.le_of_ble_eq_true rfl) (Nat.le_of_ble_eq_true rfl) hS (lv_sub hl [2, 6] rfl)
set_option maxHeartbeats 4000000 in
set_option maxRecDepth 100000 in
theorem lawS_4_1 {p : Program} {l : Launch} {e : Env} {s : State} {m : MethodId} {below : List Frame} {meth : Method} {c : Code} {b : Nat} {xs : Nat → Int32} {K : zK} {A : Nat → Prop} {H : Heap} {locs : List Loc} {ls : Array Slot} (C : zC p l s m meth c b xs K A) (qx qm qo : Nat) (u v : Nat → Nat) (h0 : 0 ≤ (xs 1).toInt) (hP : va_P K.1 classes (lwW K qx qm qo u v) H) (hD : va_D A (lwW K qx qm qo u v)) (hS : va_S A s.heap H locs) (hl : lv_has ls 7 [(4, .int 0), (3, .ref qo), (2, .ref qm), (1, .ref qx), (0, .ref b)]) : W p l e room_1 s m #[Value.ref b] below meth c H locs 124 1863516 (lw_Z below #[Value.ref b] s) (F0 m 396 ls []) := by
  obtain ⟨hx, hb, hr, hml, hown, hg, hX, hbl, hlocks, hK, hZ, hl9, hAA, hA, hbA⟩ := C
  have hP : va_P K.1 classes [(qx, zO 9 9 (zc0 u v)), ((u 0), zO 7 6 (zc1 u v)), (qm, zO 10 83 (zc71 u v)), (qo, zJ K 1 (fun _ => 0))] H := hP.sub [0, 1, 71, 123] rfl
  have hD : va_D A [(qx, zO 9 9 (zc0 u v)), ((u 0), zO 7 6 (zc1 u v)), (qm, zO 10 83 (zc71 u v)), (qo, zJ K 1 (fun _ => 0))] := hD.sub [0, 1, 71, 123] (by decide +kernel) rfl
  refine lv_aload_n hx hb dL_law_396 rfl (lv_at hl 3 rfl) ?_
  refine lv_aload_n hx hb dL_law_397 rfl (lv_at hl 4 rfl) ?_
  refine lv_iload hx hb dL_law_398 (lv_at hl 0 rfl) ?_
  refine lv_iconst (v := 1) hx hb dL_law_400 (by decide) ?_
  refine lv_iadd hx hb dL_law_401 ?_
  refine z_cst (v := 1) (by decide +kernel) ?_
  refine z_sld (v := (xs 1)) (j := 1) hx hb hX hbl hbA hS rfl (Nat.le_of_ble_eq_true rfl) rfl dL_law_402 ?_
  refine lv_aload_n hx hb dL_law_403 rfl (lv_at hl 4 rfl) ?_
  refine lv_iload hx hb dL_law_404 (lv_at hl 0 rfl) ?_
  refine lv_iconst (v := 2) hx hb dL_law_406 (by decide) ?_
  refine lv_iadd hx hb dL_law_407 ?_
  refine z_cst (v := 2) (by decide +kernel) ?_
  refine z_sld (v := (xs 2)) (j := 2) hx hb hX hbl hbA hS rfl (Nat.le_of_ble_eq_true rfl) rfl dL_law_408 ?_
  refine lv_aload_n hx hb dL_law_409 rfl (lv_at hl 1 rfl) ?_
  refine z_hcalli [(qx, zO 9 9 (zc0 u v)), ((u 0), zO 7 6 (zc1 u v))] [(qm, zO 10 83 (zc71 u v)), (qo, zJ K 1 (fun _ => 0))] [0, 1] [2, 3] hP hD hS hA rfl rfl (by decide +kernel) (by decide +kernel) (by decide +kernel) 125 1863522 rfl rfl (fun hPc hDc hF => z_xrunH (As := [.ref qx, .int (xs 1), .int (xs 2), .ref qo]) (rest := []) ⟨hx, hb, hml, hown, hg⟩ (cL_app_2 l hl9 K H.size qx qo (u 0) (zc0 u v) (zc1 u v) (xs 1) (xs 2) (zc0_0 u v) (by rw [Int32.lt_iff_toInt_lt, show (0 : Int32).toInt = 0 from by decide]; omega) (zc1_5 u v) (by rw [Int32.le_iff_toInt_le, show (0 : Int32).toInt = 0 from by decide]; omega)) kS_RL_118 hd_L_app rfl rfl ⟨(Nat.le_of_ble_eq_true rfl), (Nat.le_of_ble_eq_true rfl)⟩ hK hS hZ hPc hDc hF rfl hl.1 rfl (Nat.le_of_ble_eq_true rfl) dL_law_410 ⟨(Nat.le_of_ble_eq_true rfl), (Nat.le_of_ble_eq_true rfl)⟩) (fun r3 u1 H locs w2 hP hD hS => ?_)
  subst w2
  have hP : va_P K.1 classes [(qm, zO 10 83 (zc71 u v)), (qo, zJ K 1 (fun _ => 0))] H := hP
  have hD : va_D A [(qm, zO 10 83 (zc71 u v)), (qo, zJ K 1 (fun _ => 0))] := hD
  refine lv_istore (lv' := [(5, .int 1), (4, .int 0), (3, .ref qo), (2, .ref qm), (1, .ref qx), (0, .ref b)]) hx hb dL_law_413 hl (by decide) rfl (fun ls hl => ?_)
  refine lv_aload_n hx hb dL_law_415 rfl (lv_at hl 3 rfl) ?_
  refine lv_aload_n hx hb dL_law_416 rfl (lv_at hl 5 rfl) ?_
  refine lv_iload hx hb dL_law_417 (lv_at hl 1 rfl) ?_
  refine lv_iconst (v := 1) hx hb dL_law_419 (by decide) ?_
  refine lv_iadd hx hb dL_law_420 ?_
  refine z_cst (v := 1) (by decide +kernel) ?_
  refine z_sld (v := (xs 1)) (j := 1) hx hb hX hbl hbA hS rfl (Nat.le_of_ble_eq_true rfl) rfl dL_law_421 ?_
  refine lv_aload_n hx hb dL_law_422 rfl (lv_at hl 5 rfl) ?_
  refine lv_iload hx hb dL_law_423 (lv_at hl 1 rfl) ?_
  refine lv_iconst (v := 2) hx hb dL_law_425 (by decide) ?_
  refine lv_iadd hx hb dL_law_426 ?_
  refine z_cst (v := 2) (by decide +kernel) ?_
  refine z_sld (v := (xs 2)) (j := 2) hx hb hX hbl hbA hS rfl (Nat.le_of_ble_eq_true rfl) rfl dL_law_427 ?_
  refine z_calli [(qm, zO 10 83 (zc71 u v))] [(qo, zJ K 1 (fun _ => 0))] [0] [1] hP hD hS hA rfl rfl (by decide +kernel) (by decide +kernel) (by decide +kernel) 125 1863522 rfl rfl (fun hPc hDc hF => z_runV (As := [.int (xs 1), .int (xs 2)]) (rest := []) ⟨hx, hb, hml, hown, hg⟩ (cX12_app_2 l K H.size qm (zc71 u v) (xs 1) (xs 2) (zc71_0 u v) (by rw [Int32.lt_iff_toInt_lt, show (0 : Int32).toInt = 0 from by decide]; omega) (by rw [Int32.lt_iff_toInt_lt, show (-1 : Int32).toInt = -1 from by decide]; omega)) kV_RL_120 hd_X12_app rfl rfl ⟨(Nat.le_of_ble_eq_true rfl), (Nat.le_of_ble_eq_true rfl)⟩ hK hS hZ hPc hDc hF 0 rfl rfl rfl hl.1 rfl (Nat.le_of_ble_eq_true rfl) dL_law_428 ⟨(Nat.le_of_ble_eq_true rfl), (Nat.le_of_ble_eq_true rfl)⟩) (fun r6 u4 H locs w5 hP hD hS => ?_)
  subst w5
  have hP : va_P K.1 classes [(qo, zJ K 1 (fun _ => 0)), (qm, zO 10 83 (va_up (zc71 u v) 81 (.int 1)))] H := hP
  have hD : va_D A [(qo, zJ K 1 (fun _ => 0)), (qm, zO 10 83 (va_up (zc71 u v) 81 (.int 1)))] := hD
  refine lv_istore (lv' := [(6, .int 0), (5, .int 1), (4, .int 0), (3, .ref qo), (2, .ref qm), (1, .ref qx), (0, .ref b)]) hx hb dL_law_431 hl (by decide) rfl (fun ls hl => ?_)
  refine lv_aload_n hx hb dL_law_433 rfl (lv_at hl 4 rfl) ?_
  refine z_calli [(qm, zO 10 83 (va_up (zc71 u v) 81 (.int 1)))] [(qo, zJ K 1 (fun _ => 0))] [1] [0] hP hD hS hA rfl rfl (by decide +kernel) (by decide +kernel) (by decide +kernel) 125 1863522 rfl rfl (fun hPc hDc hF => z_runV (As := []) (rest := []) ⟨hx, hb, hml, hown, hg⟩ (cX12_thrown_2 l K H.size qm (va_up (zc71 u v) 81 (.int 1)) zu_eq) kV_RL_104 hd_X12_thrown rfl rfl ⟨(Nat.le_of_ble_eq_true rfl), (Nat.le_of_ble_eq_true rfl)⟩ hK hS hZ hPc hDc hF 0 rfl rfl rfl hl.1 rfl (Nat.le_of_ble_eq_true rfl) dL_law_434 ⟨(Nat.le_of_ble_eq_true rfl), (Nat.le_of_ble_eq_true rfl)⟩) (fun r9 u7 H locs w8 hP hD hS => ?_)
  subst w8
  have hP : va_P K.1 classes [(qo, zJ K 1 (fun _ => 0)), (qm, zO 10 83 (va_up (zc71 u v) 81 (.int 1)))] H := hP
  have hD : va_D A [(qo, zJ K 1 (fun _ => 0)), (qm, zO 10 83 (va_up (zc71 u v) 81 (.int 1)))] := hD
  refine lv_iload hx hb dL_law_437 (lv_at hl 1 rfl) ?_
  refine lv_icmp_eq (tgt := 444) hx hb dL_law_439 (by decide) (fun _ => ?_) (fun c => absurd (by decide) c)
  refine lv_iload hx hb dL_law_444 (lv_at hl 1 rfl) ?_
  refine lv_if_ne (tgt := 461) hx hb dL_law_446 (by decide) (fun _ => ?_) (fun c => absurd c (by decide))
  refine lv_goto (tgt := 2026) hx hb dL_law_461 (by decide) ?_
  exact law_back ⟨hx, hb, hr, hml, hown, hg, hX, hbl, hlocks, hK, hZ, hl9, hAA, hA, hbA⟩ (Nat.le_of_ble_eq_true rfl) (Nat.le_of_ble_eq_true rfl) hS (lv_sub hl [2, 6] rfl)
theorem lawC_4 {p : Program} {l : Launch} {e : Env} {s : State} {m : MethodId} {below : List Frame} {meth : Method} {c : Code} {b : Nat} {xs : Nat → Int32} {K : zK} {A : Nat → Prop} {H : Heap} {locs : List Loc} {ls : Array Slot} (C : zC p l s m meth c b xs K A) (qx qm qo : Nat) (u v : Nat → Nat) (hP : va_P K.1 classes (lwW K qx qm qo u v) H) (hD : va_D A (lwW K qx qm qo u v)) (hS : va_S A s.heap H locs) (hl : lv_has ls 7 [(4, .int 0), (3, .ref qo), (2, .ref qm), (1, .ref qx), (0, .ref b)]) : W p l e room_1 s m #[Value.ref b] below meth c H locs 124 1863516 (lw_Z below #[Value.ref b] s) (F0 m 396 ls []) := by
  rcases z_split (xs 1) (0) with h0 | h0
  · exact lawS_4_0 C qx qm qo u v h0 hP hD hS hl
  · exact lawS_4_1 C qx qm qo u v h0 hP hD hS hl
set_option maxHeartbeats 4000000 in
set_option maxRecDepth 100000 in
theorem lawS_5_0 {p : Program} {l : Launch} {e : Env} {s : State} {m : MethodId} {below : List Frame} {meth : Method} {c : Code} {b : Nat} {xs : Nat → Int32} {K : zK} {A : Nat → Prop} {H : Heap} {locs : List Loc} {ls : Array Slot} (C : zC p l s m meth c b xs K A) (qx qm qo : Nat) (u v : Nat → Nat) (h0 : (xs 2).toInt < 0) (h1 : (xs 1).toInt < 0) (hP : va_P K.1 classes (lwW K qx qm qo u v) H) (hD : va_D A (lwW K qx qm qo u v)) (hS : va_S A s.heap H locs) (hl : lv_has ls 7 [(4, .int 0), (3, .ref qo), (2, .ref qm), (1, .ref qx), (0, .ref b)]) : W p l e room_1 s m #[Value.ref b] below meth c H locs 124 1863516 (lw_Z below #[Value.ref b] s) (F0 m 464 ls []) := by
  obtain ⟨hx, hb, hr, hml, hown, hg, hX, hbl, hlocks, hK, hZ, hl9, hAA, hA, hbA⟩ := C
  have hP : va_P K.1 classes [(qx, zO 9 9 (zc0 u v)), ((u 0), zO 7 6 (zc1 u v)), (qm, zO 10 83 (zc71 u v)), (qo, zJ K 1 (fun _ => 0))] H := hP.sub [0, 1, 71, 123] rfl
  have hD : va_D A [(qx, zO 9 9 (zc0 u v)), ((u 0), zO 7 6 (zc1 u v)), (qm, zO 10 83 (zc71 u v)), (qo, zJ K 1 (fun _ => 0))] := hD.sub [0, 1, 71, 123] (by decide +kernel) rfl
  refine lv_aload_n hx hb dL_law_464 rfl (lv_at hl 3 rfl) ?_
  refine lv_aload_n hx hb dL_law_465 rfl (lv_at hl 4 rfl) ?_
  refine lv_iload hx hb dL_law_466 (lv_at hl 0 rfl) ?_
  refine lv_iconst (v := 1) hx hb dL_law_468 (by decide) ?_
  refine lv_iadd hx hb dL_law_469 ?_
  refine z_cst (v := 1) (by decide +kernel) ?_
  refine z_sld (v := (xs 1)) (j := 1) hx hb hX hbl hbA hS rfl (Nat.le_of_ble_eq_true rfl) rfl dL_law_470 ?_
  refine lv_aload_n hx hb dL_law_471 rfl (lv_at hl 4 rfl) ?_
  refine lv_iload hx hb dL_law_472 (lv_at hl 0 rfl) ?_
  refine lv_iconst (v := 2) hx hb dL_law_474 (by decide) ?_
  refine lv_iadd hx hb dL_law_475 ?_
  refine z_cst (v := 2) (by decide +kernel) ?_
  refine z_sld (v := (xs 2)) (j := 2) hx hb hX hbl hbA hS rfl (Nat.le_of_ble_eq_true rfl) rfl dL_law_476 ?_
  refine lv_aload_n hx hb dL_law_477 rfl (lv_at hl 4 rfl) ?_
  refine lv_iload hx hb dL_law_478 (lv_at hl 0 rfl) ?_
  refine lv_iconst (v := 3) hx hb dL_law_480 (by decide) ?_
  refine lv_iadd hx hb dL_law_481 ?_
  refine z_cst (v := 3) (by decide +kernel) ?_
  refine z_sld (v := (xs 3)) (j := 3) hx hb hX hbl hbA hS rfl (Nat.le_of_ble_eq_true rfl) rfl dL_law_482 ?_
  refine lv_aload_n hx hb dL_law_483 rfl (lv_at hl 1 rfl) ?_
  refine z_hcalli [(qx, zO 9 9 (zc0 u v)), ((u 0), zO 7 6 (zc1 u v))] [(qm, zO 10 83 (zc71 u v)), (qo, zJ K 1 (fun _ => 0))] [0, 1] [2, 3] hP hD hS hA rfl rfl (by decide +kernel) (by decide +kernel) (by decide +kernel) 125 1863522 rfl rfl (fun hPc hDc hF => z_xrunH (As := [.ref qx, .int (xs 1), .int (xs 2), .int (xs 3), .ref qo]) (rest := []) ⟨hx, hb, hml, hown, hg⟩ (cL_let_1 l hl9 K H.size qx qo (u 0) (zc0 u v) (zc1 u v) (xs 1) (xs 2) (xs 3) (zc0_0 u v) (by rw [Int32.lt_iff_toInt_lt, show (0 : Int32).toInt = 0 from by decide]; omega)) kS_RL_121 hd_L_let rfl rfl ⟨(Nat.le_of_ble_eq_true rfl), (Nat.le_of_ble_eq_true rfl)⟩ hK hS hZ hPc hDc hF rfl hl.1 rfl (Nat.le_of_ble_eq_true rfl) dL_law_484 ⟨(Nat.le_of_ble_eq_true rfl), (Nat.le_of_ble_eq_true rfl)⟩) (fun r3 u1 H locs w2 hP hD hS => ?_)
  subst w2
  have hP : va_P K.1 classes [(qm, zO 10 83 (zc71 u v)), (qo, zJ K 1 (fun _ => 0))] H := hP
  have hD : va_D A [(qm, zO 10 83 (zc71 u v)), (qo, zJ K 1 (fun _ => 0))] := hD
  refine lv_istore (lv' := [(5, .int 1), (4, .int 0), (3, .ref qo), (2, .ref qm), (1, .ref qx), (0, .ref b)]) hx hb dL_law_487 hl (by decide) rfl (fun ls hl => ?_)
  refine lv_aload_n hx hb dL_law_489 rfl (lv_at hl 3 rfl) ?_
  refine lv_aload_n hx hb dL_law_490 rfl (lv_at hl 5 rfl) ?_
  refine lv_iload hx hb dL_law_491 (lv_at hl 1 rfl) ?_
  refine lv_iconst (v := 1) hx hb dL_law_493 (by decide) ?_
  refine lv_iadd hx hb dL_law_494 ?_
  refine z_cst (v := 1) (by decide +kernel) ?_
  refine z_sld (v := (xs 1)) (j := 1) hx hb hX hbl hbA hS rfl (Nat.le_of_ble_eq_true rfl) rfl dL_law_495 ?_
  refine lv_aload_n hx hb dL_law_496 rfl (lv_at hl 5 rfl) ?_
  refine lv_iload hx hb dL_law_497 (lv_at hl 1 rfl) ?_
  refine lv_iconst (v := 2) hx hb dL_law_499 (by decide) ?_
  refine lv_iadd hx hb dL_law_500 ?_
  refine z_cst (v := 2) (by decide +kernel) ?_
  refine z_sld (v := (xs 2)) (j := 2) hx hb hX hbl hbA hS rfl (Nat.le_of_ble_eq_true rfl) rfl dL_law_501 ?_
  refine lv_aload_n hx hb dL_law_502 rfl (lv_at hl 5 rfl) ?_
  refine lv_iload hx hb dL_law_503 (lv_at hl 1 rfl) ?_
  refine lv_iconst (v := 3) hx hb dL_law_505 (by decide) ?_
  refine lv_iadd hx hb dL_law_506 ?_
  refine z_cst (v := 3) (by decide +kernel) ?_
  refine z_sld (v := (xs 3)) (j := 3) hx hb hX hbl hbA hS rfl (Nat.le_of_ble_eq_true rfl) rfl dL_law_507 ?_
  refine z_calli [(qm, zO 10 83 (zc71 u v))] [(qo, zJ K 1 (fun _ => 0))] [0] [1] hP hD hS hA rfl rfl (by decide +kernel) (by decide +kernel) (by decide +kernel) 125 1863522 rfl rfl (fun hPc hDc hF => z_runV (As := [.int (xs 1), .int (xs 2), .int (xs 3)]) (rest := []) ⟨hx, hb, hml, hown, hg⟩ (cX12_let_1 l K H.size qm (zc71 u v) (xs 1) (xs 2) (xs 3) (zc71_0 u v) (by rw [Int32.lt_iff_toInt_lt, show (0 : Int32).toInt = 0 from by decide]; omega) (by rw [Int32.lt_iff_toInt_lt, show (0 : Int32).toInt = 0 from by decide]; omega)) kV_RL_124 hd_X12_let rfl rfl ⟨(Nat.le_of_ble_eq_true rfl), (Nat.le_of_ble_eq_true rfl)⟩ hK hS hZ hPc hDc hF 0 rfl rfl rfl hl.1 rfl (Nat.le_of_ble_eq_true rfl) dL_law_508 ⟨(Nat.le_of_ble_eq_true rfl), (Nat.le_of_ble_eq_true rfl)⟩) (fun r6 u4 H locs w5 hP hD hS => ?_)
  subst w5
  have hP : va_P K.1 classes [(qo, zJ K 1 (fun _ => 0)), (qm, zO 10 83 (va_up (zc71 u v) 81 (.int 1)))] H := hP
  have hD : va_D A [(qo, zJ K 1 (fun _ => 0)), (qm, zO 10 83 (va_up (zc71 u v) 81 (.int 1)))] := hD
  refine lv_istore (lv' := [(6, .int 0), (5, .int 1), (4, .int 0), (3, .ref qo), (2, .ref qm), (1, .ref qx), (0, .ref b)]) hx hb dL_law_511 hl (by decide) rfl (fun ls hl => ?_)
  refine lv_aload_n hx hb dL_law_513 rfl (lv_at hl 4 rfl) ?_
  refine z_calli [(qm, zO 10 83 (va_up (zc71 u v) 81 (.int 1)))] [(qo, zJ K 1 (fun _ => 0))] [1] [0] hP hD hS hA rfl rfl (by decide +kernel) (by decide +kernel) (by decide +kernel) 125 1863522 rfl rfl (fun hPc hDc hF => z_runV (As := []) (rest := []) ⟨hx, hb, hml, hown, hg⟩ (cX12_thrown_2 l K H.size qm (va_up (zc71 u v) 81 (.int 1)) zu_eq) kV_RL_104 hd_X12_thrown rfl rfl ⟨(Nat.le_of_ble_eq_true rfl), (Nat.le_of_ble_eq_true rfl)⟩ hK hS hZ hPc hDc hF 0 rfl rfl rfl hl.1 rfl (Nat.le_of_ble_eq_true rfl) dL_law_514 ⟨(Nat.le_of_ble_eq_true rfl), (Nat.le_of_ble_eq_true rfl)⟩) (fun r9 u7 H locs w8 hP hD hS => ?_)
  subst w8
  have hP : va_P K.1 classes [(qo, zJ K 1 (fun _ => 0)), (qm, zO 10 83 (va_up (zc71 u v) 81 (.int 1)))] H := hP
  have hD : va_D A [(qo, zJ K 1 (fun _ => 0)), (qm, zO 10 83 (va_up (zc71 u v) 81 (.int 1)))] := hD
  refine lv_iload hx hb dL_law_517 (lv_at hl 1 rfl) ?_
  refine lv_icmp_eq (tgt := 524) hx hb dL_law_519 (by decide) (fun _ => ?_) (fun c => absurd (by decide) c)
  refine lv_iload hx hb dL_law_524 (lv_at hl 1 rfl) ?_
  refine lv_if_ne (tgt := 541) hx hb dL_law_526 (by decide) (fun _ => ?_) (fun c => absurd c (by decide))
  refine lv_goto (tgt := 2026) hx hb dL_law_541 (by decide) ?_
  exact law_back ⟨hx, hb, hr, hml, hown, hg, hX, hbl, hlocks, hK, hZ, hl9, hAA, hA, hbA⟩ (Nat.le_of_ble_eq_true rfl) (Nat.le_of_ble_eq_true rfl) hS (lv_sub hl [2, 6] rfl)
set_option maxHeartbeats 4000000 in
set_option maxRecDepth 100000 in
theorem lawS_5_1 {p : Program} {l : Launch} {e : Env} {s : State} {m : MethodId} {below : List Frame} {meth : Method} {c : Code} {b : Nat} {xs : Nat → Int32} {K : zK} {A : Nat → Prop} {H : Heap} {locs : List Loc} {ls : Array Slot} (C : zC p l s m meth c b xs K A) (qx qm qo : Nat) (u v : Nat → Nat) (h0 : (xs 2).toInt < 0) (h1 : 0 ≤ (xs 1).toInt) (h2 : (xs 1).toInt < 16) (hP : va_P K.1 classes (lwW K qx qm qo u v) H) (hD : va_D A (lwW K qx qm qo u v)) (hS : va_S A s.heap H locs) (hl : lv_has ls 7 [(4, .int 0), (3, .ref qo), (2, .ref qm), (1, .ref qx), (0, .ref b)]) : W p l e room_1 s m #[Value.ref b] below meth c H locs 124 1863516 (lw_Z below #[Value.ref b] s) (F0 m 464 ls []) := by
  obtain ⟨hx, hb, hr, hml, hown, hg, hX, hbl, hlocks, hK, hZ, hl9, hAA, hA, hbA⟩ := C
  have hP : va_P K.1 classes [(qx, zO 9 9 (zc0 u v)), ((u 0), zO 7 6 (zc1 u v)), (qm, zO 10 83 (zc71 u v)), (qo, zJ K 1 (fun _ => 0))] H := hP.sub [0, 1, 71, 123] rfl
  have hD : va_D A [(qx, zO 9 9 (zc0 u v)), ((u 0), zO 7 6 (zc1 u v)), (qm, zO 10 83 (zc71 u v)), (qo, zJ K 1 (fun _ => 0))] := hD.sub [0, 1, 71, 123] (by decide +kernel) rfl
  obtain ⟨t1, ht1, v1⟩ : ∃ j : Nat, j < 16 ∧ xs 1 = nI j := z_nat (n := 16) (by omega) (by omega) (by decide)
  refine lv_aload_n hx hb dL_law_464 rfl (lv_at hl 3 rfl) ?_
  refine lv_aload_n hx hb dL_law_465 rfl (lv_at hl 4 rfl) ?_
  refine lv_iload hx hb dL_law_466 (lv_at hl 0 rfl) ?_
  refine lv_iconst (v := 1) hx hb dL_law_468 (by decide) ?_
  refine lv_iadd hx hb dL_law_469 ?_
  refine z_cst (v := 1) (by decide +kernel) ?_
  refine z_sld (v := (nI t1)) (j := 1) hx hb hX hbl hbA hS rfl (Nat.le_of_ble_eq_true rfl) v1 dL_law_470 ?_
  refine lv_aload_n hx hb dL_law_471 rfl (lv_at hl 4 rfl) ?_
  refine lv_iload hx hb dL_law_472 (lv_at hl 0 rfl) ?_
  refine lv_iconst (v := 2) hx hb dL_law_474 (by decide) ?_
  refine lv_iadd hx hb dL_law_475 ?_
  refine z_cst (v := 2) (by decide +kernel) ?_
  refine z_sld (v := (xs 2)) (j := 2) hx hb hX hbl hbA hS rfl (Nat.le_of_ble_eq_true rfl) rfl dL_law_476 ?_
  refine lv_aload_n hx hb dL_law_477 rfl (lv_at hl 4 rfl) ?_
  refine lv_iload hx hb dL_law_478 (lv_at hl 0 rfl) ?_
  refine lv_iconst (v := 3) hx hb dL_law_480 (by decide) ?_
  refine lv_iadd hx hb dL_law_481 ?_
  refine z_cst (v := 3) (by decide +kernel) ?_
  refine z_sld (v := (xs 3)) (j := 3) hx hb hX hbl hbA hS rfl (Nat.le_of_ble_eq_true rfl) rfl dL_law_482 ?_
  refine lv_aload_n hx hb dL_law_483 rfl (lv_at hl 1 rfl) ?_
  refine z_hcalli [(qx, zO 9 9 (zc0 u v)), ((u 0), zO 7 6 (zc1 u v))] [(qm, zO 10 83 (zc71 u v)), (qo, zJ K 1 (fun _ => 0))] [0, 1] [2, 3] hP hD hS hA rfl rfl (by decide +kernel) (by decide +kernel) (by decide +kernel) 125 1863522 rfl rfl (fun hPc hDc hF => z_xrunH (As := [.ref qx, .int (nI t1), .int (xs 2), .int (xs 3), .ref qo]) (rest := []) ⟨hx, hb, hml, hown, hg⟩ (cL_let_2 l hl9 K H.size qx qo (u 0) (zc0 u v) (zc1 u v) t1 ht1 (xs 2) (xs 3) (zc0_0 u v) (by rw [Int32.lt_iff_toInt_lt, show (0 : Int32).toInt = 0 from by decide]; omega)) kS_RL_121 hd_L_let rfl rfl ⟨(Nat.le_of_ble_eq_true rfl), (Nat.le_of_ble_eq_true rfl)⟩ hK hS hZ hPc hDc hF rfl hl.1 rfl (Nat.le_of_ble_eq_true rfl) dL_law_484 ⟨(Nat.le_of_ble_eq_true rfl), (Nat.le_of_ble_eq_true rfl)⟩) (fun r3 u1 H locs w2 hP hD hS => ?_)
  subst w2
  have hP : va_P K.1 classes [(qm, zO 10 83 (zc71 u v)), (qo, zJ K 1 (fun _ => 0))] H := hP
  have hD : va_D A [(qm, zO 10 83 (zc71 u v)), (qo, zJ K 1 (fun _ => 0))] := hD
  refine lv_istore (lv' := [(5, .int 1), (4, .int 0), (3, .ref qo), (2, .ref qm), (1, .ref qx), (0, .ref b)]) hx hb dL_law_487 hl (by decide) rfl (fun ls hl => ?_)
  refine lv_aload_n hx hb dL_law_489 rfl (lv_at hl 3 rfl) ?_
  refine lv_aload_n hx hb dL_law_490 rfl (lv_at hl 5 rfl) ?_
  refine lv_iload hx hb dL_law_491 (lv_at hl 1 rfl) ?_
  refine lv_iconst (v := 1) hx hb dL_law_493 (by decide) ?_
  refine lv_iadd hx hb dL_law_494 ?_
  refine z_cst (v := 1) (by decide +kernel) ?_
  refine z_sld (v := (nI t1)) (j := 1) hx hb hX hbl hbA hS rfl (Nat.le_of_ble_eq_true rfl) v1 dL_law_495 ?_
  refine lv_aload_n hx hb dL_law_496 rfl (lv_at hl 5 rfl) ?_
  refine lv_iload hx hb dL_law_497 (lv_at hl 1 rfl) ?_
  refine lv_iconst (v := 2) hx hb dL_law_499 (by decide) ?_
  refine lv_iadd hx hb dL_law_500 ?_
  refine z_cst (v := 2) (by decide +kernel) ?_
  refine z_sld (v := (xs 2)) (j := 2) hx hb hX hbl hbA hS rfl (Nat.le_of_ble_eq_true rfl) rfl dL_law_501 ?_
  refine lv_aload_n hx hb dL_law_502 rfl (lv_at hl 5 rfl) ?_
  refine lv_iload hx hb dL_law_503 (lv_at hl 1 rfl) ?_
  refine lv_iconst (v := 3) hx hb dL_law_505 (by decide) ?_
  refine lv_iadd hx hb dL_law_506 ?_
  refine z_cst (v := 3) (by decide +kernel) ?_
  refine z_sld (v := (xs 3)) (j := 3) hx hb hX hbl hbA hS rfl (Nat.le_of_ble_eq_true rfl) rfl dL_law_507 ?_
  refine z_calli [(qm, zO 10 83 (zc71 u v))] [(qo, zJ K 1 (fun _ => 0))] [0] [1] hP hD hS hA rfl rfl (by decide +kernel) (by decide +kernel) (by decide +kernel) 125 1863522 rfl rfl (fun hPc hDc hF => z_runV (As := [.int (nI t1), .int (xs 2), .int (xs 3)]) (rest := []) ⟨hx, hb, hml, hown, hg⟩ (cX12_let_2 l K H.size qm (zc71 u v) t1 ht1 (xs 2) (xs 3) (zc71_0 u v) (by rw [Int32.lt_iff_toInt_lt, show (0 : Int32).toInt = 0 from by decide]; omega)) kV_RL_124 hd_X12_let rfl rfl ⟨(Nat.le_of_ble_eq_true rfl), (Nat.le_of_ble_eq_true rfl)⟩ hK hS hZ hPc hDc hF 0 rfl rfl rfl hl.1 rfl (Nat.le_of_ble_eq_true rfl) dL_law_508 ⟨(Nat.le_of_ble_eq_true rfl), (Nat.le_of_ble_eq_true rfl)⟩) (fun r6 u4 H locs w5 hP hD hS => ?_)
  subst w5
  have hP : va_P K.1 classes [(qo, zJ K 1 (fun _ => 0)), (qm, zO 10 83 (va_up (zc71 u v) 81 (.int 1)))] H := hP
  have hD : va_D A [(qo, zJ K 1 (fun _ => 0)), (qm, zO 10 83 (va_up (zc71 u v) 81 (.int 1)))] := hD
  refine lv_istore (lv' := [(6, .int 0), (5, .int 1), (4, .int 0), (3, .ref qo), (2, .ref qm), (1, .ref qx), (0, .ref b)]) hx hb dL_law_511 hl (by decide) rfl (fun ls hl => ?_)
  refine lv_aload_n hx hb dL_law_513 rfl (lv_at hl 4 rfl) ?_
  refine z_calli [(qm, zO 10 83 (va_up (zc71 u v) 81 (.int 1)))] [(qo, zJ K 1 (fun _ => 0))] [1] [0] hP hD hS hA rfl rfl (by decide +kernel) (by decide +kernel) (by decide +kernel) 125 1863522 rfl rfl (fun hPc hDc hF => z_runV (As := []) (rest := []) ⟨hx, hb, hml, hown, hg⟩ (cX12_thrown_2 l K H.size qm (va_up (zc71 u v) 81 (.int 1)) zu_eq) kV_RL_104 hd_X12_thrown rfl rfl ⟨(Nat.le_of_ble_eq_true rfl), (Nat.le_of_ble_eq_true rfl)⟩ hK hS hZ hPc hDc hF 0 rfl rfl rfl hl.1 rfl (Nat.le_of_ble_eq_true rfl) dL_law_514 ⟨(Nat.le_of_ble_eq_true rfl), (Nat.le_of_ble_eq_true rfl)⟩) (fun r9 u7 H locs w8 hP hD hS => ?_)
  subst w8
  have hP : va_P K.1 classes [(qo, zJ K 1 (fun _ => 0)), (qm, zO 10 83 (va_up (zc71 u v) 81 (.int 1)))] H := hP
  have hD : va_D A [(qo, zJ K 1 (fun _ => 0)), (qm, zO 10 83 (va_up (zc71 u v) 81 (.int 1)))] := hD
  refine lv_iload hx hb dL_law_517 (lv_at hl 1 rfl) ?_
  refine lv_icmp_eq (tgt := 524) hx hb dL_law_519 (by decide) (fun _ => ?_) (fun c => absurd (by decide) c)
  refine lv_iload hx hb dL_law_524 (lv_at hl 1 rfl) ?_
  refine lv_if_ne (tgt := 541) hx hb dL_law_526 (by decide) (fun _ => ?_) (fun c => absurd c (by decide))
  refine lv_goto (tgt := 2026) hx hb dL_law_541 (by decide) ?_
  exact law_back ⟨hx, hb, hr, hml, hown, hg, hX, hbl, hlocks, hK, hZ, hl9, hAA, hA, hbA⟩ (Nat.le_of_ble_eq_true rfl) (Nat.le_of_ble_eq_true rfl) hS (lv_sub hl [2, 6] rfl)
set_option maxHeartbeats 4000000 in
set_option maxRecDepth 100000 in
theorem lawS_5_2 {p : Program} {l : Launch} {e : Env} {s : State} {m : MethodId} {below : List Frame} {meth : Method} {c : Code} {b : Nat} {xs : Nat → Int32} {K : zK} {A : Nat → Prop} {H : Heap} {locs : List Loc} {ls : Array Slot} (C : zC p l s m meth c b xs K A) (qx qm qo : Nat) (u v : Nat → Nat) (h0 : (xs 2).toInt < 0) (h1 : 0 ≤ (xs 1).toInt) (h2 : 16 ≤ (xs 1).toInt) (hP : va_P K.1 classes (lwW K qx qm qo u v) H) (hD : va_D A (lwW K qx qm qo u v)) (hS : va_S A s.heap H locs) (hl : lv_has ls 7 [(4, .int 0), (3, .ref qo), (2, .ref qm), (1, .ref qx), (0, .ref b)]) : W p l e room_1 s m #[Value.ref b] below meth c H locs 124 1863516 (lw_Z below #[Value.ref b] s) (F0 m 464 ls []) := by
  obtain ⟨hx, hb, hr, hml, hown, hg, hX, hbl, hlocks, hK, hZ, hl9, hAA, hA, hbA⟩ := C
  have hP : va_P K.1 classes [(qx, zO 9 9 (zc0 u v)), ((u 0), zO 7 6 (zc1 u v)), (qm, zO 10 83 (zc71 u v)), (qo, zJ K 1 (fun _ => 0))] H := hP.sub [0, 1, 71, 123] rfl
  have hD : va_D A [(qx, zO 9 9 (zc0 u v)), ((u 0), zO 7 6 (zc1 u v)), (qm, zO 10 83 (zc71 u v)), (qo, zJ K 1 (fun _ => 0))] := hD.sub [0, 1, 71, 123] (by decide +kernel) rfl
  refine lv_aload_n hx hb dL_law_464 rfl (lv_at hl 3 rfl) ?_
  refine lv_aload_n hx hb dL_law_465 rfl (lv_at hl 4 rfl) ?_
  refine lv_iload hx hb dL_law_466 (lv_at hl 0 rfl) ?_
  refine lv_iconst (v := 1) hx hb dL_law_468 (by decide) ?_
  refine lv_iadd hx hb dL_law_469 ?_
  refine z_cst (v := 1) (by decide +kernel) ?_
  refine z_sld (v := (xs 1)) (j := 1) hx hb hX hbl hbA hS rfl (Nat.le_of_ble_eq_true rfl) rfl dL_law_470 ?_
  refine lv_aload_n hx hb dL_law_471 rfl (lv_at hl 4 rfl) ?_
  refine lv_iload hx hb dL_law_472 (lv_at hl 0 rfl) ?_
  refine lv_iconst (v := 2) hx hb dL_law_474 (by decide) ?_
  refine lv_iadd hx hb dL_law_475 ?_
  refine z_cst (v := 2) (by decide +kernel) ?_
  refine z_sld (v := (xs 2)) (j := 2) hx hb hX hbl hbA hS rfl (Nat.le_of_ble_eq_true rfl) rfl dL_law_476 ?_
  refine lv_aload_n hx hb dL_law_477 rfl (lv_at hl 4 rfl) ?_
  refine lv_iload hx hb dL_law_478 (lv_at hl 0 rfl) ?_
  refine lv_iconst (v := 3) hx hb dL_law_480 (by decide) ?_
  refine lv_iadd hx hb dL_law_481 ?_
  refine z_cst (v := 3) (by decide +kernel) ?_
  refine z_sld (v := (xs 3)) (j := 3) hx hb hX hbl hbA hS rfl (Nat.le_of_ble_eq_true rfl) rfl dL_law_482 ?_
  refine lv_aload_n hx hb dL_law_483 rfl (lv_at hl 1 rfl) ?_
  refine z_hcalli [(qx, zO 9 9 (zc0 u v)), ((u 0), zO 7 6 (zc1 u v))] [(qm, zO 10 83 (zc71 u v)), (qo, zJ K 1 (fun _ => 0))] [0, 1] [2, 3] hP hD hS hA rfl rfl (by decide +kernel) (by decide +kernel) (by decide +kernel) 125 1863522 rfl rfl (fun hPc hDc hF => z_xrunH (As := [.ref qx, .int (xs 1), .int (xs 2), .int (xs 3), .ref qo]) (rest := []) ⟨hx, hb, hml, hown, hg⟩ (cL_let_1 l hl9 K H.size qx qo (u 0) (zc0 u v) (zc1 u v) (xs 1) (xs 2) (xs 3) (zc0_0 u v) (by rw [Int32.lt_iff_toInt_lt, show (0 : Int32).toInt = 0 from by decide]; omega)) kS_RL_121 hd_L_let rfl rfl ⟨(Nat.le_of_ble_eq_true rfl), (Nat.le_of_ble_eq_true rfl)⟩ hK hS hZ hPc hDc hF rfl hl.1 rfl (Nat.le_of_ble_eq_true rfl) dL_law_484 ⟨(Nat.le_of_ble_eq_true rfl), (Nat.le_of_ble_eq_true rfl)⟩) (fun r3 u1 H locs w2 hP hD hS => ?_)
  subst w2
  have hP : va_P K.1 classes [(qm, zO 10 83 (zc71 u v)), (qo, zJ K 1 (fun _ => 0))] H := hP
  have hD : va_D A [(qm, zO 10 83 (zc71 u v)), (qo, zJ K 1 (fun _ => 0))] := hD
  refine lv_istore (lv' := [(5, .int 1), (4, .int 0), (3, .ref qo), (2, .ref qm), (1, .ref qx), (0, .ref b)]) hx hb dL_law_487 hl (by decide) rfl (fun ls hl => ?_)
  refine lv_aload_n hx hb dL_law_489 rfl (lv_at hl 3 rfl) ?_
  refine lv_aload_n hx hb dL_law_490 rfl (lv_at hl 5 rfl) ?_
  refine lv_iload hx hb dL_law_491 (lv_at hl 1 rfl) ?_
  refine lv_iconst (v := 1) hx hb dL_law_493 (by decide) ?_
  refine lv_iadd hx hb dL_law_494 ?_
  refine z_cst (v := 1) (by decide +kernel) ?_
  refine z_sld (v := (xs 1)) (j := 1) hx hb hX hbl hbA hS rfl (Nat.le_of_ble_eq_true rfl) rfl dL_law_495 ?_
  refine lv_aload_n hx hb dL_law_496 rfl (lv_at hl 5 rfl) ?_
  refine lv_iload hx hb dL_law_497 (lv_at hl 1 rfl) ?_
  refine lv_iconst (v := 2) hx hb dL_law_499 (by decide) ?_
  refine lv_iadd hx hb dL_law_500 ?_
  refine z_cst (v := 2) (by decide +kernel) ?_
  refine z_sld (v := (xs 2)) (j := 2) hx hb hX hbl hbA hS rfl (Nat.le_of_ble_eq_true rfl) rfl dL_law_501 ?_
  refine lv_aload_n hx hb dL_law_502 rfl (lv_at hl 5 rfl) ?_
  refine lv_iload hx hb dL_law_503 (lv_at hl 1 rfl) ?_
  refine lv_iconst (v := 3) hx hb dL_law_505 (by decide) ?_
  refine lv_iadd hx hb dL_law_506 ?_
  refine z_cst (v := 3) (by decide +kernel) ?_
  refine z_sld (v := (xs 3)) (j := 3) hx hb hX hbl hbA hS rfl (Nat.le_of_ble_eq_true rfl) rfl dL_law_507 ?_
  refine z_calli [(qm, zO 10 83 (zc71 u v))] [(qo, zJ K 1 (fun _ => 0))] [0] [1] hP hD hS hA rfl rfl (by decide +kernel) (by decide +kernel) (by decide +kernel) 125 1863522 rfl rfl (fun hPc hDc hF => z_runV (As := [.int (xs 1), .int (xs 2), .int (xs 3)]) (rest := []) ⟨hx, hb, hml, hown, hg⟩ (cX12_let_3 l K H.size qm (zc71 u v) (xs 1) (xs 2) (xs 3) (zc71_0 u v) (by rw [Int32.lt_iff_toInt_lt, show (0 : Int32).toInt = 0 from by decide]; omega) (by rw [Int32.lt_iff_toInt_lt, show (0 : Int32).toInt = 0 from by decide]; omega) (by rw [Int32.lt_iff_toInt_lt, show (15 : Int32).toInt = 15 from by decide]; omega)) kV_RL_124 hd_X12_let rfl rfl ⟨(Nat.le_of_ble_eq_true rfl), (Nat.le_of_ble_eq_true rfl)⟩ hK hS hZ hPc hDc hF 0 rfl rfl rfl hl.1 rfl (Nat.le_of_ble_eq_true rfl) dL_law_508 ⟨(Nat.le_of_ble_eq_true rfl), (Nat.le_of_ble_eq_true rfl)⟩) (fun r6 u4 H locs w5 hP hD hS => ?_)
  subst w5
  have hP : va_P K.1 classes [(qo, zJ K 1 (fun _ => 0)), (qm, zO 10 83 (va_up (zc71 u v) 81 (.int 1)))] H := hP
  have hD : va_D A [(qo, zJ K 1 (fun _ => 0)), (qm, zO 10 83 (va_up (zc71 u v) 81 (.int 1)))] := hD
  refine lv_istore (lv' := [(6, .int 0), (5, .int 1), (4, .int 0), (3, .ref qo), (2, .ref qm), (1, .ref qx), (0, .ref b)]) hx hb dL_law_511 hl (by decide) rfl (fun ls hl => ?_)
  refine lv_aload_n hx hb dL_law_513 rfl (lv_at hl 4 rfl) ?_
  refine z_calli [(qm, zO 10 83 (va_up (zc71 u v) 81 (.int 1)))] [(qo, zJ K 1 (fun _ => 0))] [1] [0] hP hD hS hA rfl rfl (by decide +kernel) (by decide +kernel) (by decide +kernel) 125 1863522 rfl rfl (fun hPc hDc hF => z_runV (As := []) (rest := []) ⟨hx, hb, hml, hown, hg⟩ (cX12_thrown_2 l K H.size qm (va_up (zc71 u v) 81 (.int 1)) zu_eq) kV_RL_104 hd_X12_thrown rfl rfl ⟨(Nat.le_of_ble_eq_true rfl), (Nat.le_of_ble_eq_true rfl)⟩ hK hS hZ hPc hDc hF 0 rfl rfl rfl hl.1 rfl (Nat.le_of_ble_eq_true rfl) dL_law_514 ⟨(Nat.le_of_ble_eq_true rfl), (Nat.le_of_ble_eq_true rfl)⟩) (fun r9 u7 H locs w8 hP hD hS => ?_)
  subst w8
  have hP : va_P K.1 classes [(qo, zJ K 1 (fun _ => 0)), (qm, zO 10 83 (va_up (zc71 u v) 81 (.int 1)))] H := hP
  have hD : va_D A [(qo, zJ K 1 (fun _ => 0)), (qm, zO 10 83 (va_up (zc71 u v) 81 (.int 1)))] := hD
  refine lv_iload hx hb dL_law_517 (lv_at hl 1 rfl) ?_
  refine lv_icmp_eq (tgt := 524) hx hb dL_law_519 (by decide) (fun _ => ?_) (fun c => absurd (by decide) c)
  refine lv_iload hx hb dL_law_524 (lv_at hl 1 rfl) ?_
  refine lv_if_ne (tgt := 541) hx hb dL_law_526 (by decide) (fun _ => ?_) (fun c => absurd c (by decide))
  refine lv_goto (tgt := 2026) hx hb dL_law_541 (by decide) ?_
  exact law_back ⟨hx, hb, hr, hml, hown, hg, hX, hbl, hlocks, hK, hZ, hl9, hAA, hA, hbA⟩ (Nat.le_of_ble_eq_true rfl) (Nat.le_of_ble_eq_true rfl) hS (lv_sub hl [2, 6] rfl)
set_option maxHeartbeats 4000000 in
set_option maxRecDepth 100000 in
theorem lawS_5_3 {p : Program} {l : Launch} {e : Env} {s : State} {m : MethodId} {below : List Frame} {meth : Method} {c : Code} {b : Nat} {xs : Nat → Int32} {K : zK} {A : Nat → Prop} {H : Heap} {locs : List Loc} {ls : Array Slot} (C : zC p l s m meth c b xs K A) (qx qm qo : Nat) (u v : Nat → Nat) (h0 : 0 ≤ (xs 2).toInt) (h1 : (xs 1).toInt < 0) (hP : va_P K.1 classes (lwW K qx qm qo u v) H) (hD : va_D A (lwW K qx qm qo u v)) (hS : va_S A s.heap H locs) (hl : lv_has ls 7 [(4, .int 0), (3, .ref qo), (2, .ref qm), (1, .ref qx), (0, .ref b)]) : W p l e room_1 s m #[Value.ref b] below meth c H locs 124 1863516 (lw_Z below #[Value.ref b] s) (F0 m 464 ls []) := by
  obtain ⟨hx, hb, hr, hml, hown, hg, hX, hbl, hlocks, hK, hZ, hl9, hAA, hA, hbA⟩ := C
  have hP : va_P K.1 classes [(qx, zO 9 9 (zc0 u v)), ((u 0), zO 7 6 (zc1 u v)), (qm, zO 10 83 (zc71 u v)), (qo, zJ K 1 (fun _ => 0))] H := hP.sub [0, 1, 71, 123] rfl
  have hD : va_D A [(qx, zO 9 9 (zc0 u v)), ((u 0), zO 7 6 (zc1 u v)), (qm, zO 10 83 (zc71 u v)), (qo, zJ K 1 (fun _ => 0))] := hD.sub [0, 1, 71, 123] (by decide +kernel) rfl
  refine lv_aload_n hx hb dL_law_464 rfl (lv_at hl 3 rfl) ?_
  refine lv_aload_n hx hb dL_law_465 rfl (lv_at hl 4 rfl) ?_
  refine lv_iload hx hb dL_law_466 (lv_at hl 0 rfl) ?_
  refine lv_iconst (v := 1) hx hb dL_law_468 (by decide) ?_
  refine lv_iadd hx hb dL_law_469 ?_
  refine z_cst (v := 1) (by decide +kernel) ?_
  refine z_sld (v := (xs 1)) (j := 1) hx hb hX hbl hbA hS rfl (Nat.le_of_ble_eq_true rfl) rfl dL_law_470 ?_
  refine lv_aload_n hx hb dL_law_471 rfl (lv_at hl 4 rfl) ?_
  refine lv_iload hx hb dL_law_472 (lv_at hl 0 rfl) ?_
  refine lv_iconst (v := 2) hx hb dL_law_474 (by decide) ?_
  refine lv_iadd hx hb dL_law_475 ?_
  refine z_cst (v := 2) (by decide +kernel) ?_
  refine z_sld (v := (xs 2)) (j := 2) hx hb hX hbl hbA hS rfl (Nat.le_of_ble_eq_true rfl) rfl dL_law_476 ?_
  refine lv_aload_n hx hb dL_law_477 rfl (lv_at hl 4 rfl) ?_
  refine lv_iload hx hb dL_law_478 (lv_at hl 0 rfl) ?_
  refine lv_iconst (v := 3) hx hb dL_law_480 (by decide) ?_
  refine lv_iadd hx hb dL_law_481 ?_
  refine z_cst (v := 3) (by decide +kernel) ?_
  refine z_sld (v := (xs 3)) (j := 3) hx hb hX hbl hbA hS rfl (Nat.le_of_ble_eq_true rfl) rfl dL_law_482 ?_
  refine lv_aload_n hx hb dL_law_483 rfl (lv_at hl 1 rfl) ?_
  refine z_hcalli [(qx, zO 9 9 (zc0 u v)), ((u 0), zO 7 6 (zc1 u v))] [(qm, zO 10 83 (zc71 u v)), (qo, zJ K 1 (fun _ => 0))] [0, 1] [2, 3] hP hD hS hA rfl rfl (by decide +kernel) (by decide +kernel) (by decide +kernel) 125 1863522 rfl rfl (fun hPc hDc hF => z_xrunH (As := [.ref qx, .int (xs 1), .int (xs 2), .int (xs 3), .ref qo]) (rest := []) ⟨hx, hb, hml, hown, hg⟩ (cL_let_3 l hl9 K H.size qx qo (u 0) (zc0 u v) (zc1 u v) (xs 1) (xs 2) (xs 3) (zc0_0 u v) (by rw [Int32.lt_iff_toInt_lt, show (0 : Int32).toInt = 0 from by decide]; omega) (zc1_5 u v) (by rw [Int32.le_iff_toInt_le, show (0 : Int32).toInt = 0 from by decide]; omega)) kS_RL_121 hd_L_let rfl rfl ⟨(Nat.le_of_ble_eq_true rfl), (Nat.le_of_ble_eq_true rfl)⟩ hK hS hZ hPc hDc hF rfl hl.1 rfl (Nat.le_of_ble_eq_true rfl) dL_law_484 ⟨(Nat.le_of_ble_eq_true rfl), (Nat.le_of_ble_eq_true rfl)⟩) (fun r3 u1 H locs w2 hP hD hS => ?_)
  subst w2
  have hP : va_P K.1 classes [(qm, zO 10 83 (zc71 u v)), (qo, zJ K 1 (fun _ => 0))] H := hP
  have hD : va_D A [(qm, zO 10 83 (zc71 u v)), (qo, zJ K 1 (fun _ => 0))] := hD
  refine lv_istore (lv' := [(5, .int 1), (4, .int 0), (3, .ref qo), (2, .ref qm), (1, .ref qx), (0, .ref b)]) hx hb dL_law_487 hl (by decide) rfl (fun ls hl => ?_)
  refine lv_aload_n hx hb dL_law_489 rfl (lv_at hl 3 rfl) ?_
  refine lv_aload_n hx hb dL_law_490 rfl (lv_at hl 5 rfl) ?_
  refine lv_iload hx hb dL_law_491 (lv_at hl 1 rfl) ?_
  refine lv_iconst (v := 1) hx hb dL_law_493 (by decide) ?_
  refine lv_iadd hx hb dL_law_494 ?_
  refine z_cst (v := 1) (by decide +kernel) ?_
  refine z_sld (v := (xs 1)) (j := 1) hx hb hX hbl hbA hS rfl (Nat.le_of_ble_eq_true rfl) rfl dL_law_495 ?_
  refine lv_aload_n hx hb dL_law_496 rfl (lv_at hl 5 rfl) ?_
  refine lv_iload hx hb dL_law_497 (lv_at hl 1 rfl) ?_
  refine lv_iconst (v := 2) hx hb dL_law_499 (by decide) ?_
  refine lv_iadd hx hb dL_law_500 ?_
  refine z_cst (v := 2) (by decide +kernel) ?_
  refine z_sld (v := (xs 2)) (j := 2) hx hb hX hbl hbA hS rfl (Nat.le_of_ble_eq_true rfl) rfl dL_law_501 ?_
  refine lv_aload_n hx hb dL_law_502 rfl (lv_at hl 5 rfl) ?_
  refine lv_iload hx hb dL_law_503 (lv_at hl 1 rfl) ?_
  refine lv_iconst (v := 3) hx hb dL_law_505 (by decide) ?_
  refine lv_iadd hx hb dL_law_506 ?_
  refine z_cst (v := 3) (by decide +kernel) ?_
  refine z_sld (v := (xs 3)) (j := 3) hx hb hX hbl hbA hS rfl (Nat.le_of_ble_eq_true rfl) rfl dL_law_507 ?_
  refine z_calli [(qm, zO 10 83 (zc71 u v))] [(qo, zJ K 1 (fun _ => 0))] [0] [1] hP hD hS hA rfl rfl (by decide +kernel) (by decide +kernel) (by decide +kernel) 125 1863522 rfl rfl (fun hPc hDc hF => z_runV (As := [.int (xs 1), .int (xs 2), .int (xs 3)]) (rest := []) ⟨hx, hb, hml, hown, hg⟩ (cX12_let_4 l K H.size qm (zc71 u v) (xs 1) (xs 2) (xs 3) (zc71_0 u v) (by rw [Int32.lt_iff_toInt_lt, show (0 : Int32).toInt = 0 from by decide]; omega) (by rw [Int32.lt_iff_toInt_lt, show (-1 : Int32).toInt = -1 from by decide]; omega) (by rw [Int32.lt_iff_toInt_lt, show (0 : Int32).toInt = 0 from by decide]; omega)) kV_RL_124 hd_X12_let rfl rfl ⟨(Nat.le_of_ble_eq_true rfl), (Nat.le_of_ble_eq_true rfl)⟩ hK hS hZ hPc hDc hF 0 rfl rfl rfl hl.1 rfl (Nat.le_of_ble_eq_true rfl) dL_law_508 ⟨(Nat.le_of_ble_eq_true rfl), (Nat.le_of_ble_eq_true rfl)⟩) (fun r6 u4 H locs w5 hP hD hS => ?_)
  subst w5
  have hP : va_P K.1 classes [(qo, zJ K 1 (fun _ => 0)), (qm, zO 10 83 (va_up (zc71 u v) 81 (.int 1)))] H := hP
  have hD : va_D A [(qo, zJ K 1 (fun _ => 0)), (qm, zO 10 83 (va_up (zc71 u v) 81 (.int 1)))] := hD
  refine lv_istore (lv' := [(6, .int 0), (5, .int 1), (4, .int 0), (3, .ref qo), (2, .ref qm), (1, .ref qx), (0, .ref b)]) hx hb dL_law_511 hl (by decide) rfl (fun ls hl => ?_)
  refine lv_aload_n hx hb dL_law_513 rfl (lv_at hl 4 rfl) ?_
  refine z_calli [(qm, zO 10 83 (va_up (zc71 u v) 81 (.int 1)))] [(qo, zJ K 1 (fun _ => 0))] [1] [0] hP hD hS hA rfl rfl (by decide +kernel) (by decide +kernel) (by decide +kernel) 125 1863522 rfl rfl (fun hPc hDc hF => z_runV (As := []) (rest := []) ⟨hx, hb, hml, hown, hg⟩ (cX12_thrown_2 l K H.size qm (va_up (zc71 u v) 81 (.int 1)) zu_eq) kV_RL_104 hd_X12_thrown rfl rfl ⟨(Nat.le_of_ble_eq_true rfl), (Nat.le_of_ble_eq_true rfl)⟩ hK hS hZ hPc hDc hF 0 rfl rfl rfl hl.1 rfl (Nat.le_of_ble_eq_true rfl) dL_law_514 ⟨(Nat.le_of_ble_eq_true rfl), (Nat.le_of_ble_eq_true rfl)⟩) (fun r9 u7 H locs w8 hP hD hS => ?_)
  subst w8
  have hP : va_P K.1 classes [(qo, zJ K 1 (fun _ => 0)), (qm, zO 10 83 (va_up (zc71 u v) 81 (.int 1)))] H := hP
  have hD : va_D A [(qo, zJ K 1 (fun _ => 0)), (qm, zO 10 83 (va_up (zc71 u v) 81 (.int 1)))] := hD
  refine lv_iload hx hb dL_law_517 (lv_at hl 1 rfl) ?_
  refine lv_icmp_eq (tgt := 524) hx hb dL_law_519 (by decide) (fun _ => ?_) (fun c => absurd (by decide) c)
  refine lv_iload hx hb dL_law_524 (lv_at hl 1 rfl) ?_
  refine lv_if_ne (tgt := 541) hx hb dL_law_526 (by decide) (fun _ => ?_) (fun c => absurd c (by decide))
  refine lv_goto (tgt := 2026) hx hb dL_law_541 (by decide) ?_
  exact law_back ⟨hx, hb, hr, hml, hown, hg, hX, hbl, hlocks, hK, hZ, hl9, hAA, hA, hbA⟩ (Nat.le_of_ble_eq_true rfl) (Nat.le_of_ble_eq_true rfl) hS (lv_sub hl [2, 6] rfl)
set_option maxHeartbeats 4000000 in
set_option maxRecDepth 100000 in
theorem lawS_5_4 {p : Program} {l : Launch} {e : Env} {s : State} {m : MethodId} {below : List Frame} {meth : Method} {c : Code} {b : Nat} {xs : Nat → Int32} {K : zK} {A : Nat → Prop} {H : Heap} {locs : List Loc} {ls : Array Slot} (C : zC p l s m meth c b xs K A) (qx qm qo : Nat) (u v : Nat → Nat) (h0 : 0 ≤ (xs 2).toInt) (h1 : 0 ≤ (xs 1).toInt) (h2 : (xs 1).toInt < 16) (hP : va_P K.1 classes (lwW K qx qm qo u v) H) (hD : va_D A (lwW K qx qm qo u v)) (hS : va_S A s.heap H locs) (hl : lv_has ls 7 [(4, .int 0), (3, .ref qo), (2, .ref qm), (1, .ref qx), (0, .ref b)]) : W p l e room_1 s m #[Value.ref b] below meth c H locs 124 1863516 (lw_Z below #[Value.ref b] s) (F0 m 464 ls []) := by
  obtain ⟨hx, hb, hr, hml, hown, hg, hX, hbl, hlocks, hK, hZ, hl9, hAA, hA, hbA⟩ := C
  have hP : va_P K.1 classes [(qx, zO 9 9 (zc0 u v)), ((u 0), zO 7 6 (zc1 u v)), (qm, zO 10 83 (zc71 u v)), (qo, zJ K 1 (fun _ => 0))] H := hP.sub [0, 1, 71, 123] rfl
  have hD : va_D A [(qx, zO 9 9 (zc0 u v)), ((u 0), zO 7 6 (zc1 u v)), (qm, zO 10 83 (zc71 u v)), (qo, zJ K 1 (fun _ => 0))] := hD.sub [0, 1, 71, 123] (by decide +kernel) rfl
  obtain ⟨t1, ht1, v1⟩ : ∃ j : Nat, j < 16 ∧ xs 1 = nI j := z_nat (n := 16) (by omega) (by omega) (by decide)
  refine lv_aload_n hx hb dL_law_464 rfl (lv_at hl 3 rfl) ?_
  refine lv_aload_n hx hb dL_law_465 rfl (lv_at hl 4 rfl) ?_
  refine lv_iload hx hb dL_law_466 (lv_at hl 0 rfl) ?_
  refine lv_iconst (v := 1) hx hb dL_law_468 (by decide) ?_
  refine lv_iadd hx hb dL_law_469 ?_
  refine z_cst (v := 1) (by decide +kernel) ?_
  refine z_sld (v := (nI t1)) (j := 1) hx hb hX hbl hbA hS rfl (Nat.le_of_ble_eq_true rfl) v1 dL_law_470 ?_
  refine lv_aload_n hx hb dL_law_471 rfl (lv_at hl 4 rfl) ?_
  refine lv_iload hx hb dL_law_472 (lv_at hl 0 rfl) ?_
  refine lv_iconst (v := 2) hx hb dL_law_474 (by decide) ?_
  refine lv_iadd hx hb dL_law_475 ?_
  refine z_cst (v := 2) (by decide +kernel) ?_
  refine z_sld (v := (xs 2)) (j := 2) hx hb hX hbl hbA hS rfl (Nat.le_of_ble_eq_true rfl) rfl dL_law_476 ?_
  refine lv_aload_n hx hb dL_law_477 rfl (lv_at hl 4 rfl) ?_
  refine lv_iload hx hb dL_law_478 (lv_at hl 0 rfl) ?_
  refine lv_iconst (v := 3) hx hb dL_law_480 (by decide) ?_
  refine lv_iadd hx hb dL_law_481 ?_
  refine z_cst (v := 3) (by decide +kernel) ?_
  refine z_sld (v := (xs 3)) (j := 3) hx hb hX hbl hbA hS rfl (Nat.le_of_ble_eq_true rfl) rfl dL_law_482 ?_
  refine lv_aload_n hx hb dL_law_483 rfl (lv_at hl 1 rfl) ?_
  refine z_hcalli [(qx, zO 9 9 (zc0 u v)), ((u 0), zO 7 6 (zc1 u v))] [(qm, zO 10 83 (zc71 u v)), (qo, zJ K 1 (fun _ => 0))] [0, 1] [2, 3] hP hD hS hA rfl rfl (by decide +kernel) (by decide +kernel) (by decide +kernel) 125 1863522 rfl rfl (fun hPc hDc hF => z_xrunH (As := [.ref qx, .int (nI t1), .int (xs 2), .int (xs 3), .ref qo]) (rest := []) ⟨hx, hb, hml, hown, hg⟩ (cL_let_4 l hl9 K H.size qx qo (u 0) (zc0 u v) (zc1 u v) t1 ht1 (xs 2) (xs 3) (zc0_0 u v) (by rw [Int32.lt_iff_toInt_lt, show (0 : Int32).toInt = 0 from by decide]; omega) (zc1_5 u v) (by rw [Int32.le_iff_toInt_le, show (0 : Int32).toInt = 0 from by decide]; omega)) kS_RL_121 hd_L_let rfl rfl ⟨(Nat.le_of_ble_eq_true rfl), (Nat.le_of_ble_eq_true rfl)⟩ hK hS hZ hPc hDc hF rfl hl.1 rfl (Nat.le_of_ble_eq_true rfl) dL_law_484 ⟨(Nat.le_of_ble_eq_true rfl), (Nat.le_of_ble_eq_true rfl)⟩) (fun r3 u1 H locs w2 hP hD hS => ?_)
  subst w2
  have hP : va_P K.1 classes [(qm, zO 10 83 (zc71 u v)), (qo, zJ K 1 (fun _ => 0))] H := hP
  have hD : va_D A [(qm, zO 10 83 (zc71 u v)), (qo, zJ K 1 (fun _ => 0))] := hD
  refine lv_istore (lv' := [(5, .int 1), (4, .int 0), (3, .ref qo), (2, .ref qm), (1, .ref qx), (0, .ref b)]) hx hb dL_law_487 hl (by decide) rfl (fun ls hl => ?_)
  refine lv_aload_n hx hb dL_law_489 rfl (lv_at hl 3 rfl) ?_
  refine lv_aload_n hx hb dL_law_490 rfl (lv_at hl 5 rfl) ?_
  refine lv_iload hx hb dL_law_491 (lv_at hl 1 rfl) ?_
  refine lv_iconst (v := 1) hx hb dL_law_493 (by decide) ?_
  refine lv_iadd hx hb dL_law_494 ?_
  refine z_cst (v := 1) (by decide +kernel) ?_
  refine z_sld (v := (nI t1)) (j := 1) hx hb hX hbl hbA hS rfl (Nat.le_of_ble_eq_true rfl) v1 dL_law_495 ?_
  refine lv_aload_n hx hb dL_law_496 rfl (lv_at hl 5 rfl) ?_
  refine lv_iload hx hb dL_law_497 (lv_at hl 1 rfl) ?_
  refine lv_iconst (v := 2) hx hb dL_law_499 (by decide) ?_
  refine lv_iadd hx hb dL_law_500 ?_
  refine z_cst (v := 2) (by decide +kernel) ?_
  refine z_sld (v := (xs 2)) (j := 2) hx hb hX hbl hbA hS rfl (Nat.le_of_ble_eq_true rfl) rfl dL_law_501 ?_
  refine lv_aload_n hx hb dL_law_502 rfl (lv_at hl 5 rfl) ?_
  refine lv_iload hx hb dL_law_503 (lv_at hl 1 rfl) ?_
  refine lv_iconst (v := 3) hx hb dL_law_505 (by decide) ?_
  refine lv_iadd hx hb dL_law_506 ?_
  refine z_cst (v := 3) (by decide +kernel) ?_
  refine z_sld (v := (xs 3)) (j := 3) hx hb hX hbl hbA hS rfl (Nat.le_of_ble_eq_true rfl) rfl dL_law_507 ?_
  refine z_calli [(qm, zO 10 83 (zc71 u v))] [(qo, zJ K 1 (fun _ => 0))] [0] [1] hP hD hS hA rfl rfl (by decide +kernel) (by decide +kernel) (by decide +kernel) 125 1863522 rfl rfl (fun hPc hDc hF => z_runV (As := [.int (nI t1), .int (xs 2), .int (xs 3)]) (rest := []) ⟨hx, hb, hml, hown, hg⟩ (cX12_let_5 l K H.size qm (zc71 u v) t1 ht1 (xs 2) (xs 3) (zc71_0 u v) (by rw [Int32.lt_iff_toInt_lt, show (0 : Int32).toInt = 0 from by decide]; omega) (by rw [Int32.lt_iff_toInt_lt, show (-1 : Int32).toInt = -1 from by decide]; omega)) kV_RL_124 hd_X12_let rfl rfl ⟨(Nat.le_of_ble_eq_true rfl), (Nat.le_of_ble_eq_true rfl)⟩ hK hS hZ hPc hDc hF 0 rfl rfl rfl hl.1 rfl (Nat.le_of_ble_eq_true rfl) dL_law_508 ⟨(Nat.le_of_ble_eq_true rfl), (Nat.le_of_ble_eq_true rfl)⟩) (fun r6 u4 H locs w5 hP hD hS => ?_)
  subst w5
  have hP : va_P K.1 classes [(qo, zJ K 1 (fun _ => 0)), (qm, zO 10 83 (va_up (zc71 u v) 81 (.int 1)))] H := hP
  have hD : va_D A [(qo, zJ K 1 (fun _ => 0)), (qm, zO 10 83 (va_up (zc71 u v) 81 (.int 1)))] := hD
  refine lv_istore (lv' := [(6, .int 0), (5, .int 1), (4, .int 0), (3, .ref qo), (2, .ref qm), (1, .ref qx), (0, .ref b)]) hx hb dL_law_511 hl (by decide) rfl (fun ls hl => ?_)
  refine lv_aload_n hx hb dL_law_513 rfl (lv_at hl 4 rfl) ?_
  refine z_calli [(qm, zO 10 83 (va_up (zc71 u v) 81 (.int 1)))] [(qo, zJ K 1 (fun _ => 0))] [1] [0] hP hD hS hA rfl rfl (by decide +kernel) (by decide +kernel) (by decide +kernel) 125 1863522 rfl rfl (fun hPc hDc hF => z_runV (As := []) (rest := []) ⟨hx, hb, hml, hown, hg⟩ (cX12_thrown_2 l K H.size qm (va_up (zc71 u v) 81 (.int 1)) zu_eq) kV_RL_104 hd_X12_thrown rfl rfl ⟨(Nat.le_of_ble_eq_true rfl), (Nat.le_of_ble_eq_true rfl)⟩ hK hS hZ hPc hDc hF 0 rfl rfl rfl hl.1 rfl (Nat.le_of_ble_eq_true rfl) dL_law_514 ⟨(Nat.le_of_ble_eq_true rfl), (Nat.le_of_ble_eq_true rfl)⟩) (fun r9 u7 H locs w8 hP hD hS => ?_)
  subst w8
  have hP : va_P K.1 classes [(qo, zJ K 1 (fun _ => 0)), (qm, zO 10 83 (va_up (zc71 u v) 81 (.int 1)))] H := hP
  have hD : va_D A [(qo, zJ K 1 (fun _ => 0)), (qm, zO 10 83 (va_up (zc71 u v) 81 (.int 1)))] := hD
  refine lv_iload hx hb dL_law_517 (lv_at hl 1 rfl) ?_
  refine lv_icmp_eq (tgt := 524) hx hb dL_law_519 (by decide) (fun _ => ?_) (fun c => absurd (by decide) c)
  refine lv_iload hx hb dL_law_524 (lv_at hl 1 rfl) ?_
  refine lv_if_ne (tgt := 541) hx hb dL_law_526 (by decide) (fun _ => ?_) (fun c => absurd c (by decide))
  refine lv_goto (tgt := 2026) hx hb dL_law_541 (by decide) ?_
  exact law_back ⟨hx, hb, hr, hml, hown, hg, hX, hbl, hlocks, hK, hZ, hl9, hAA, hA, hbA⟩ (Nat.le_of_ble_eq_true rfl) (Nat.le_of_ble_eq_true rfl) hS (lv_sub hl [2, 6] rfl)
set_option maxHeartbeats 4000000 in
set_option maxRecDepth 100000 in
theorem lawS_5_5 {p : Program} {l : Launch} {e : Env} {s : State} {m : MethodId} {below : List Frame} {meth : Method} {c : Code} {b : Nat} {xs : Nat → Int32} {K : zK} {A : Nat → Prop} {H : Heap} {locs : List Loc} {ls : Array Slot} (C : zC p l s m meth c b xs K A) (qx qm qo : Nat) (u v : Nat → Nat) (h0 : 0 ≤ (xs 2).toInt) (h1 : 0 ≤ (xs 1).toInt) (h2 : 16 ≤ (xs 1).toInt) (hP : va_P K.1 classes (lwW K qx qm qo u v) H) (hD : va_D A (lwW K qx qm qo u v)) (hS : va_S A s.heap H locs) (hl : lv_has ls 7 [(4, .int 0), (3, .ref qo), (2, .ref qm), (1, .ref qx), (0, .ref b)]) : W p l e room_1 s m #[Value.ref b] below meth c H locs 124 1863516 (lw_Z below #[Value.ref b] s) (F0 m 464 ls []) := by
  obtain ⟨hx, hb, hr, hml, hown, hg, hX, hbl, hlocks, hK, hZ, hl9, hAA, hA, hbA⟩ := C
  have hP : va_P K.1 classes [(qx, zO 9 9 (zc0 u v)), ((u 0), zO 7 6 (zc1 u v)), (qm, zO 10 83 (zc71 u v)), (qo, zJ K 1 (fun _ => 0))] H := hP.sub [0, 1, 71, 123] rfl
  have hD : va_D A [(qx, zO 9 9 (zc0 u v)), ((u 0), zO 7 6 (zc1 u v)), (qm, zO 10 83 (zc71 u v)), (qo, zJ K 1 (fun _ => 0))] := hD.sub [0, 1, 71, 123] (by decide +kernel) rfl
  refine lv_aload_n hx hb dL_law_464 rfl (lv_at hl 3 rfl) ?_
  refine lv_aload_n hx hb dL_law_465 rfl (lv_at hl 4 rfl) ?_
  refine lv_iload hx hb dL_law_466 (lv_at hl 0 rfl) ?_
  refine lv_iconst (v := 1) hx hb dL_law_468 (by decide) ?_
  refine lv_iadd hx hb dL_law_469 ?_
  refine z_cst (v := 1) (by decide +kernel) ?_
  refine z_sld (v := (xs 1)) (j := 1) hx hb hX hbl hbA hS rfl (Nat.le_of_ble_eq_true rfl) rfl dL_law_470 ?_
  refine lv_aload_n hx hb dL_law_471 rfl (lv_at hl 4 rfl) ?_
  refine lv_iload hx hb dL_law_472 (lv_at hl 0 rfl) ?_
  refine lv_iconst (v := 2) hx hb dL_law_474 (by decide) ?_
  refine lv_iadd hx hb dL_law_475 ?_
  refine z_cst (v := 2) (by decide +kernel) ?_
  refine z_sld (v := (xs 2)) (j := 2) hx hb hX hbl hbA hS rfl (Nat.le_of_ble_eq_true rfl) rfl dL_law_476 ?_
  refine lv_aload_n hx hb dL_law_477 rfl (lv_at hl 4 rfl) ?_
  refine lv_iload hx hb dL_law_478 (lv_at hl 0 rfl) ?_
  refine lv_iconst (v := 3) hx hb dL_law_480 (by decide) ?_
  refine lv_iadd hx hb dL_law_481 ?_
  refine z_cst (v := 3) (by decide +kernel) ?_
  refine z_sld (v := (xs 3)) (j := 3) hx hb hX hbl hbA hS rfl (Nat.le_of_ble_eq_true rfl) rfl dL_law_482 ?_
  refine lv_aload_n hx hb dL_law_483 rfl (lv_at hl 1 rfl) ?_
  refine z_hcalli [(qx, zO 9 9 (zc0 u v)), ((u 0), zO 7 6 (zc1 u v))] [(qm, zO 10 83 (zc71 u v)), (qo, zJ K 1 (fun _ => 0))] [0, 1] [2, 3] hP hD hS hA rfl rfl (by decide +kernel) (by decide +kernel) (by decide +kernel) 125 1863522 rfl rfl (fun hPc hDc hF => z_xrunH (As := [.ref qx, .int (xs 1), .int (xs 2), .int (xs 3), .ref qo]) (rest := []) ⟨hx, hb, hml, hown, hg⟩ (cL_let_3 l hl9 K H.size qx qo (u 0) (zc0 u v) (zc1 u v) (xs 1) (xs 2) (xs 3) (zc0_0 u v) (by rw [Int32.lt_iff_toInt_lt, show (0 : Int32).toInt = 0 from by decide]; omega) (zc1_5 u v) (by rw [Int32.le_iff_toInt_le, show (0 : Int32).toInt = 0 from by decide]; omega)) kS_RL_121 hd_L_let rfl rfl ⟨(Nat.le_of_ble_eq_true rfl), (Nat.le_of_ble_eq_true rfl)⟩ hK hS hZ hPc hDc hF rfl hl.1 rfl (Nat.le_of_ble_eq_true rfl) dL_law_484 ⟨(Nat.le_of_ble_eq_true rfl), (Nat.le_of_ble_eq_true rfl)⟩) (fun r3 u1 H locs w2 hP hD hS => ?_)
  subst w2
  have hP : va_P K.1 classes [(qm, zO 10 83 (zc71 u v)), (qo, zJ K 1 (fun _ => 0))] H := hP
  have hD : va_D A [(qm, zO 10 83 (zc71 u v)), (qo, zJ K 1 (fun _ => 0))] := hD
  refine lv_istore (lv' := [(5, .int 1), (4, .int 0), (3, .ref qo), (2, .ref qm), (1, .ref qx), (0, .ref b)]) hx hb dL_law_487 hl (by decide) rfl (fun ls hl => ?_)
  refine lv_aload_n hx hb dL_law_489 rfl (lv_at hl 3 rfl) ?_
  refine lv_aload_n hx hb dL_law_490 rfl (lv_at hl 5 rfl) ?_
  refine lv_iload hx hb dL_law_491 (lv_at hl 1 rfl) ?_
  refine lv_iconst (v := 1) hx hb dL_law_493 (by decide) ?_
  refine lv_iadd hx hb dL_law_494 ?_
  refine z_cst (v := 1) (by decide +kernel) ?_
  refine z_sld (v := (xs 1)) (j := 1) hx hb hX hbl hbA hS rfl (Nat.le_of_ble_eq_true rfl) rfl dL_law_495 ?_
  refine lv_aload_n hx hb dL_law_496 rfl (lv_at hl 5 rfl) ?_
  refine lv_iload hx hb dL_law_497 (lv_at hl 1 rfl) ?_
  refine lv_iconst (v := 2) hx hb dL_law_499 (by decide) ?_
  refine lv_iadd hx hb dL_law_500 ?_
  refine z_cst (v := 2) (by decide +kernel) ?_
  refine z_sld (v := (xs 2)) (j := 2) hx hb hX hbl hbA hS rfl (Nat.le_of_ble_eq_true rfl) rfl dL_law_501 ?_
  refine lv_aload_n hx hb dL_law_502 rfl (lv_at hl 5 rfl) ?_
  refine lv_iload hx hb dL_law_503 (lv_at hl 1 rfl) ?_
  refine lv_iconst (v := 3) hx hb dL_law_505 (by decide) ?_
  refine lv_iadd hx hb dL_law_506 ?_
  refine z_cst (v := 3) (by decide +kernel) ?_
  refine z_sld (v := (xs 3)) (j := 3) hx hb hX hbl hbA hS rfl (Nat.le_of_ble_eq_true rfl) rfl dL_law_507 ?_
  refine z_calli [(qm, zO 10 83 (zc71 u v))] [(qo, zJ K 1 (fun _ => 0))] [0] [1] hP hD hS hA rfl rfl (by decide +kernel) (by decide +kernel) (by decide +kernel) 125 1863522 rfl rfl (fun hPc hDc hF => z_runV (As := [.int (xs 1), .int (xs 2), .int (xs 3)]) (rest := []) ⟨hx, hb, hml, hown, hg⟩ (cX12_let_6 l K H.size qm (zc71 u v) (xs 1) (xs 2) (xs 3) (zc71_0 u v) (by rw [Int32.lt_iff_toInt_lt, show (0 : Int32).toInt = 0 from by decide]; omega) (by rw [Int32.lt_iff_toInt_lt, show (-1 : Int32).toInt = -1 from by decide]; omega) (by rw [Int32.lt_iff_toInt_lt, show (0 : Int32).toInt = 0 from by decide]; omega) (by rw [Int32.lt_iff_toInt_lt, show (15 : Int32).toInt = 15 from by decide]; omega)) kV_RL_124 hd_X12_let rfl rfl ⟨(Nat.le_of_ble_eq_true rfl), (Nat.le_of_ble_eq_true rfl)⟩ hK hS hZ hPc hDc hF 0 rfl rfl rfl hl.1 rfl (Nat.le_of_ble_eq_true rfl) dL_law_508 ⟨(Nat.le_of_ble_eq_true rfl), (Nat.le_of_ble_eq_true rfl)⟩) (fun r6 u4 H locs w5 hP hD hS => ?_)
  subst w5
  have hP : va_P K.1 classes [(qo, zJ K 1 (fun _ => 0)), (qm, zO 10 83 (va_up (zc71 u v) 81 (.int 1)))] H := hP
  have hD : va_D A [(qo, zJ K 1 (fun _ => 0)), (qm, zO 10 83 (va_up (zc71 u v) 81 (.int 1)))] := hD
  refine lv_istore (lv' := [(6, .int 0), (5, .int 1), (4, .int 0), (3, .ref qo), (2, .ref qm), (1, .ref qx), (0, .ref b)]) hx hb dL_law_511 hl (by decide) rfl (fun ls hl => ?_)
  refine lv_aload_n hx hb dL_law_513 rfl (lv_at hl 4 rfl) ?_
  refine z_calli [(qm, zO 10 83 (va_up (zc71 u v) 81 (.int 1)))] [(qo, zJ K 1 (fun _ => 0))] [1] [0] hP hD hS hA rfl rfl (by decide +kernel) (by decide +kernel) (by decide +kernel) 125 1863522 rfl rfl (fun hPc hDc hF => z_runV (As := []) (rest := []) ⟨hx, hb, hml, hown, hg⟩ (cX12_thrown_2 l K H.size qm (va_up (zc71 u v) 81 (.int 1)) zu_eq) kV_RL_104 hd_X12_thrown rfl rfl ⟨(Nat.le_of_ble_eq_true rfl), (Nat.le_of_ble_eq_true rfl)⟩ hK hS hZ hPc hDc hF 0 rfl rfl rfl hl.1 rfl (Nat.le_of_ble_eq_true rfl) dL_law_514 ⟨(Nat.le_of_ble_eq_true rfl), (Nat.le_of_ble_eq_true rfl)⟩) (fun r9 u7 H locs w8 hP hD hS => ?_)
  subst w8
  have hP : va_P K.1 classes [(qo, zJ K 1 (fun _ => 0)), (qm, zO 10 83 (va_up (zc71 u v) 81 (.int 1)))] H := hP
  have hD : va_D A [(qo, zJ K 1 (fun _ => 0)), (qm, zO 10 83 (va_up (zc71 u v) 81 (.int 1)))] := hD
  refine lv_iload hx hb dL_law_517 (lv_at hl 1 rfl) ?_
  refine lv_icmp_eq (tgt := 524) hx hb dL_law_519 (by decide) (fun _ => ?_) (fun c => absurd (by decide) c)
  refine lv_iload hx hb dL_law_524 (lv_at hl 1 rfl) ?_
  refine lv_if_ne (tgt := 541) hx hb dL_law_526 (by decide) (fun _ => ?_) (fun c => absurd c (by decide))
  refine lv_goto (tgt := 2026) hx hb dL_law_541 (by decide) ?_
  exact law_back ⟨hx, hb, hr, hml, hown, hg, hX, hbl, hlocks, hK, hZ, hl9, hAA, hA, hbA⟩ (Nat.le_of_ble_eq_true rfl) (Nat.le_of_ble_eq_true rfl) hS (lv_sub hl [2, 6] rfl)
theorem lawC_5 {p : Program} {l : Launch} {e : Env} {s : State} {m : MethodId} {below : List Frame} {meth : Method} {c : Code} {b : Nat} {xs : Nat → Int32} {K : zK} {A : Nat → Prop} {H : Heap} {locs : List Loc} {ls : Array Slot} (C : zC p l s m meth c b xs K A) (qx qm qo : Nat) (u v : Nat → Nat) (hP : va_P K.1 classes (lwW K qx qm qo u v) H) (hD : va_D A (lwW K qx qm qo u v)) (hS : va_S A s.heap H locs) (hl : lv_has ls 7 [(4, .int 0), (3, .ref qo), (2, .ref qm), (1, .ref qx), (0, .ref b)]) : W p l e room_1 s m #[Value.ref b] below meth c H locs 124 1863516 (lw_Z below #[Value.ref b] s) (F0 m 464 ls []) := by
  rcases z_split (xs 2) (0) with h0 | h0
  · rcases z_split (xs 1) (0) with h1 | h1
    · exact lawS_5_0 C qx qm qo u v h0 h1 hP hD hS hl
    · rcases z_split (xs 1) (16) with h2 | h2
      · exact lawS_5_1 C qx qm qo u v h0 h1 h2 hP hD hS hl
      · exact lawS_5_2 C qx qm qo u v h0 h1 h2 hP hD hS hl
  · rcases z_split (xs 1) (0) with h1 | h1
    · exact lawS_5_3 C qx qm qo u v h0 h1 hP hD hS hl
    · rcases z_split (xs 1) (16) with h2 | h2
      · exact lawS_5_4 C qx qm qo u v h0 h1 h2 hP hD hS hl
      · exact lawS_5_5 C qx qm qo u v h0 h1 h2 hP hD hS hl
set_option maxHeartbeats 4000000 in
set_option maxRecDepth 100000 in
theorem lawS_6_0 {p : Program} {l : Launch} {e : Env} {s : State} {m : MethodId} {below : List Frame} {meth : Method} {c : Code} {b : Nat} {xs : Nat → Int32} {K : zK} {A : Nat → Prop} {H : Heap} {locs : List Loc} {ls : Array Slot} (C : zC p l s m meth c b xs K A) (qx qm qo : Nat) (u v : Nat → Nat) (h0 : xs 2 = (-1)) (h1 : xs 3 = (-1)) (h2 : (xs 1).toInt < 0) (hP : va_P K.1 classes (lwW K qx qm qo u v) H) (hD : va_D A (lwW K qx qm qo u v)) (hS : va_S A s.heap H locs) (hl : lv_has ls 7 [(4, .int 0), (3, .ref qo), (2, .ref qm), (1, .ref qx), (0, .ref b)]) : W p l e room_1 s m #[Value.ref b] below meth c H locs 124 1863516 (lw_Z below #[Value.ref b] s) (F0 m 544 ls []) := by
  obtain ⟨hx, hb, hr, hml, hown, hg, hX, hbl, hlocks, hK, hZ, hl9, hAA, hA, hbA⟩ := C
  have hP : va_P K.1 classes [(qx, zO 9 9 (zc0 u v)), (qm, zO 10 83 (zc71 u v)), (qo, zJ K 1 (fun _ => 0))] H := hP.sub [0, 71, 123] rfl
  have hD : va_D A [(qx, zO 9 9 (zc0 u v)), (qm, zO 10 83 (zc71 u v)), (qo, zJ K 1 (fun _ => 0))] := hD.sub [0, 71, 123] (by decide +kernel) rfl
  refine lv_aload_n hx hb dL_law_544 rfl (lv_at hl 3 rfl) ?_
  refine lv_aload_n hx hb dL_law_545 rfl (lv_at hl 4 rfl) ?_
  refine lv_iload hx hb dL_law_546 (lv_at hl 0 rfl) ?_
  refine lv_iconst (v := 1) hx hb dL_law_548 (by decide) ?_
  refine lv_iadd hx hb dL_law_549 ?_
  refine z_cst (v := 1) (by decide +kernel) ?_
  refine z_sld (v := (xs 1)) (j := 1) hx hb hX hbl hbA hS rfl (Nat.le_of_ble_eq_true rfl) rfl dL_law_550 ?_
  refine lv_aload_n hx hb dL_law_551 rfl (lv_at hl 4 rfl) ?_
  refine lv_iload hx hb dL_law_552 (lv_at hl 0 rfl) ?_
  refine lv_iconst (v := 2) hx hb dL_law_554 (by decide) ?_
  refine lv_iadd hx hb dL_law_555 ?_
  refine z_cst (v := 2) (by decide +kernel) ?_
  refine z_sld (v := (-1)) (j := 2) hx hb hX hbl hbA hS rfl (Nat.le_of_ble_eq_true rfl) h0 dL_law_556 ?_
  refine lv_aload_n hx hb dL_law_557 rfl (lv_at hl 4 rfl) ?_
  refine lv_iload hx hb dL_law_558 (lv_at hl 0 rfl) ?_
  refine lv_iconst (v := 3) hx hb dL_law_560 (by decide) ?_
  refine lv_iadd hx hb dL_law_561 ?_
  refine z_cst (v := 3) (by decide +kernel) ?_
  refine z_sld (v := (-1)) (j := 3) hx hb hX hbl hbA hS rfl (Nat.le_of_ble_eq_true rfl) h1 dL_law_562 ?_
  refine lv_aload_n hx hb dL_law_563 rfl (lv_at hl 1 rfl) ?_
  refine z_hcalli [(qx, zO 9 9 (zc0 u v))] [(qm, zO 10 83 (zc71 u v)), (qo, zJ K 1 (fun _ => 0))] [0] [1, 2] hP hD hS hA rfl rfl (by decide +kernel) (by decide +kernel) (by decide +kernel) 125 1863522 rfl rfl (fun hPc hDc hF => z_xrunH (As := [.ref qx, .int (xs 1), .int (-1), .int (-1), .ref qo]) (rest := []) ⟨hx, hb, hml, hown, hg⟩ (cL_con_1 l hl9 K H.size qx qo (zc0 u v) (xs 1) (by rw [Int32.lt_iff_toInt_lt, show (0 : Int32).toInt = 0 from by decide]; omega)) kS_RL_125 hd_L_con rfl rfl ⟨(Nat.le_of_ble_eq_true rfl), (Nat.le_of_ble_eq_true rfl)⟩ hK hS hZ hPc hDc hF rfl hl.1 rfl (Nat.le_of_ble_eq_true rfl) dL_law_564 ⟨(Nat.le_of_ble_eq_true rfl), (Nat.le_of_ble_eq_true rfl)⟩) (fun r3 u1 H locs w2 hP hD hS => ?_)
  subst w2
  have hP : va_P K.1 classes [(qm, zO 10 83 (zc71 u v)), (qo, zJ K 1 (fun _ => 0))] H := hP
  have hD : va_D A [(qm, zO 10 83 (zc71 u v)), (qo, zJ K 1 (fun _ => 0))] := hD
  refine lv_istore (lv' := [(5, .int 2), (4, .int 0), (3, .ref qo), (2, .ref qm), (1, .ref qx), (0, .ref b)]) hx hb dL_law_567 hl (by decide) rfl (fun ls hl => ?_)
  refine lv_aload_n hx hb dL_law_569 rfl (lv_at hl 3 rfl) ?_
  refine lv_aload_n hx hb dL_law_570 rfl (lv_at hl 5 rfl) ?_
  refine lv_iload hx hb dL_law_571 (lv_at hl 1 rfl) ?_
  refine lv_iconst (v := 1) hx hb dL_law_573 (by decide) ?_
  refine lv_iadd hx hb dL_law_574 ?_
  refine z_cst (v := 1) (by decide +kernel) ?_
  refine z_sld (v := (xs 1)) (j := 1) hx hb hX hbl hbA hS rfl (Nat.le_of_ble_eq_true rfl) rfl dL_law_575 ?_
  refine lv_aload_n hx hb dL_law_576 rfl (lv_at hl 5 rfl) ?_
  refine lv_iload hx hb dL_law_577 (lv_at hl 1 rfl) ?_
  refine lv_iconst (v := 2) hx hb dL_law_579 (by decide) ?_
  refine lv_iadd hx hb dL_law_580 ?_
  refine z_cst (v := 2) (by decide +kernel) ?_
  refine z_sld (v := (-1)) (j := 2) hx hb hX hbl hbA hS rfl (Nat.le_of_ble_eq_true rfl) h0 dL_law_581 ?_
  refine lv_aload_n hx hb dL_law_582 rfl (lv_at hl 5 rfl) ?_
  refine lv_iload hx hb dL_law_583 (lv_at hl 1 rfl) ?_
  refine lv_iconst (v := 3) hx hb dL_law_585 (by decide) ?_
  refine lv_iadd hx hb dL_law_586 ?_
  refine z_cst (v := 3) (by decide +kernel) ?_
  refine z_sld (v := (-1)) (j := 3) hx hb hX hbl hbA hS rfl (Nat.le_of_ble_eq_true rfl) h1 dL_law_587 ?_
  refine z_calli [(qm, zO 10 83 (zc71 u v))] [(qo, zJ K 1 (fun _ => 0))] [0] [1] hP hD hS hA rfl rfl (by decide +kernel) (by decide +kernel) (by decide +kernel) 125 1863522 rfl rfl (fun hPc hDc hF => z_runV (As := [.int (xs 1), .int (-1), .int (-1)]) (rest := []) ⟨hx, hb, hml, hown, hg⟩ (cX12_con_1 l K H.size qm (zc71 u v) (xs 1) (by rw [Int32.lt_iff_toInt_lt, show (0 : Int32).toInt = 0 from by decide]; omega)) kV_RL_127 hd_X12_con rfl rfl ⟨(Nat.le_of_ble_eq_true rfl), (Nat.le_of_ble_eq_true rfl)⟩ hK hS hZ hPc hDc hF 0 rfl rfl rfl hl.1 rfl (Nat.le_of_ble_eq_true rfl) dL_law_588 ⟨(Nat.le_of_ble_eq_true rfl), (Nat.le_of_ble_eq_true rfl)⟩) (fun r6 u4 H locs w5 hP hD hS => ?_)
  subst w5
  have hP : va_P K.1 classes [(qo, zJ K 1 (fun _ => 0)), (qm, zO 10 83 (va_up (zc71 u v) 81 (.int 2)))] H := hP
  have hD : va_D A [(qo, zJ K 1 (fun _ => 0)), (qm, zO 10 83 (va_up (zc71 u v) 81 (.int 2)))] := hD
  refine lv_istore (lv' := [(6, .int 0), (5, .int 2), (4, .int 0), (3, .ref qo), (2, .ref qm), (1, .ref qx), (0, .ref b)]) hx hb dL_law_591 hl (by decide) rfl (fun ls hl => ?_)
  refine lv_aload_n hx hb dL_law_593 rfl (lv_at hl 4 rfl) ?_
  refine z_calli [(qm, zO 10 83 (va_up (zc71 u v) 81 (.int 2)))] [(qo, zJ K 1 (fun _ => 0))] [1] [0] hP hD hS hA rfl rfl (by decide +kernel) (by decide +kernel) (by decide +kernel) 125 1863522 rfl rfl (fun hPc hDc hF => z_runV (As := []) (rest := []) ⟨hx, hb, hml, hown, hg⟩ (cX12_thrown_3 l K H.size qm (va_up (zc71 u v) 81 (.int 2)) zu_eq) kV_RL_104 hd_X12_thrown rfl rfl ⟨(Nat.le_of_ble_eq_true rfl), (Nat.le_of_ble_eq_true rfl)⟩ hK hS hZ hPc hDc hF 0 rfl rfl rfl hl.1 rfl (Nat.le_of_ble_eq_true rfl) dL_law_594 ⟨(Nat.le_of_ble_eq_true rfl), (Nat.le_of_ble_eq_true rfl)⟩) (fun r9 u7 H locs w8 hP hD hS => ?_)
  subst w8
  have hP : va_P K.1 classes [(qo, zJ K 1 (fun _ => 0)), (qm, zO 10 83 (va_up (zc71 u v) 81 (.int 2)))] H := hP
  have hD : va_D A [(qo, zJ K 1 (fun _ => 0)), (qm, zO 10 83 (va_up (zc71 u v) 81 (.int 2)))] := hD
  refine lv_iload hx hb dL_law_597 (lv_at hl 1 rfl) ?_
  refine lv_icmp_eq (tgt := 604) hx hb dL_law_599 (by decide) (fun _ => ?_) (fun c => absurd (by decide) c)
  refine lv_iload hx hb dL_law_604 (lv_at hl 1 rfl) ?_
  refine lv_if_ne (tgt := 621) hx hb dL_law_606 (by decide) (fun _ => ?_) (fun c => absurd c (by decide))
  refine lv_goto (tgt := 2026) hx hb dL_law_621 (by decide) ?_
  exact law_back ⟨hx, hb, hr, hml, hown, hg, hX, hbl, hlocks, hK, hZ, hl9, hAA, hA, hbA⟩ (Nat.le_of_ble_eq_true rfl) (Nat.le_of_ble_eq_true rfl) hS (lv_sub hl [2, 6] rfl)
set_option maxHeartbeats 4000000 in
set_option maxRecDepth 100000 in
theorem lawS_6_1 {p : Program} {l : Launch} {e : Env} {s : State} {m : MethodId} {below : List Frame} {meth : Method} {c : Code} {b : Nat} {xs : Nat → Int32} {K : zK} {A : Nat → Prop} {H : Heap} {locs : List Loc} {ls : Array Slot} (C : zC p l s m meth c b xs K A) (qx qm qo : Nat) (u v : Nat → Nat) (h0 : xs 2 = (-1)) (h1 : xs 3 = (-1)) (h2 : 0 ≤ (xs 1).toInt) (h3 : (xs 1).toInt < 4) (hP : va_P K.1 classes (lwW K qx qm qo u v) H) (hD : va_D A (lwW K qx qm qo u v)) (hS : va_S A s.heap H locs) (hl : lv_has ls 7 [(4, .int 0), (3, .ref qo), (2, .ref qm), (1, .ref qx), (0, .ref b)]) : W p l e room_1 s m #[Value.ref b] below meth c H locs 124 1863516 (lw_Z below #[Value.ref b] s) (F0 m 544 ls []) := by
  obtain ⟨hx, hb, hr, hml, hown, hg, hX, hbl, hlocks, hK, hZ, hl9, hAA, hA, hbA⟩ := C
  have hP : va_P K.1 classes [(qx, zO 9 9 (zc0 u v)), ((u 0), zO 7 6 (zc1 u v)), ((u 1), zI K 200 (fun _ => 0)), ((u 2), zI K 200 (fun _ => 0)), ((u 3), zI K 200 (fun _ => 0)), ((u 4), zI K 200 (fun _ => 0)), ((u 5), zI K 600 (fun _ => 0)), ((u 6), zI K 200 (fun _ => 0)), ((u 7), zI K 200 (fun _ => 0)), (qm, zO 10 83 (zc71 u v)), ((v 0), zI K 200 (fun _ => 0)), ((v 1), zI K 200 (fun _ => 0)), ((v 2), zI K 200 (fun _ => 0)), ((v 3), zI K 200 (fun _ => 0)), ((v 4), zI K 200 (fun _ => 0)), ((v 5), zI K 600 (fun _ => 0)), ((v 6), zI K 200 (fun _ => 0)), (qo, zJ K 1 (fun _ => 0))] H := hP.sub [0, 1, 2, 3, 4, 5, 6, 7, 8, 71, 72, 73, 74, 75, 76, 77, 78, 123] rfl
  have hD : va_D A [(qx, zO 9 9 (zc0 u v)), ((u 0), zO 7 6 (zc1 u v)), ((u 1), zI K 200 (fun _ => 0)), ((u 2), zI K 200 (fun _ => 0)), ((u 3), zI K 200 (fun _ => 0)), ((u 4), zI K 200 (fun _ => 0)), ((u 5), zI K 600 (fun _ => 0)), ((u 6), zI K 200 (fun _ => 0)), ((u 7), zI K 200 (fun _ => 0)), (qm, zO 10 83 (zc71 u v)), ((v 0), zI K 200 (fun _ => 0)), ((v 1), zI K 200 (fun _ => 0)), ((v 2), zI K 200 (fun _ => 0)), ((v 3), zI K 200 (fun _ => 0)), ((v 4), zI K 200 (fun _ => 0)), ((v 5), zI K 600 (fun _ => 0)), ((v 6), zI K 200 (fun _ => 0)), (qo, zJ K 1 (fun _ => 0))] := hD.sub [0, 1, 2, 3, 4, 5, 6, 7, 8, 71, 72, 73, 74, 75, 76, 77, 78, 123] (by decide +kernel) rfl
  obtain ⟨t1, ht1, v1⟩ : ∃ j : Nat, j < 4 ∧ xs 1 = nI j := z_nat (n := 4) (by omega) (by omega) (by decide)
  refine lv_aload_n hx hb dL_law_544 rfl (lv_at hl 3 rfl) ?_
  refine lv_aload_n hx hb dL_law_545 rfl (lv_at hl 4 rfl) ?_
  refine lv_iload hx hb dL_law_546 (lv_at hl 0 rfl) ?_
  refine lv_iconst (v := 1) hx hb dL_law_548 (by decide) ?_
  refine lv_iadd hx hb dL_law_549 ?_
  refine z_cst (v := 1) (by decide +kernel) ?_
  refine z_sld (v := (nI t1)) (j := 1) hx hb hX hbl hbA hS rfl (Nat.le_of_ble_eq_true rfl) v1 dL_law_550 ?_
  refine lv_aload_n hx hb dL_law_551 rfl (lv_at hl 4 rfl) ?_
  refine lv_iload hx hb dL_law_552 (lv_at hl 0 rfl) ?_
  refine lv_iconst (v := 2) hx hb dL_law_554 (by decide) ?_
  refine lv_iadd hx hb dL_law_555 ?_
  refine z_cst (v := 2) (by decide +kernel) ?_
  refine z_sld (v := (-1)) (j := 2) hx hb hX hbl hbA hS rfl (Nat.le_of_ble_eq_true rfl) h0 dL_law_556 ?_
  refine lv_aload_n hx hb dL_law_557 rfl (lv_at hl 4 rfl) ?_
  refine lv_iload hx hb dL_law_558 (lv_at hl 0 rfl) ?_
  refine lv_iconst (v := 3) hx hb dL_law_560 (by decide) ?_
  refine lv_iadd hx hb dL_law_561 ?_
  refine z_cst (v := 3) (by decide +kernel) ?_
  refine z_sld (v := (-1)) (j := 3) hx hb hX hbl hbA hS rfl (Nat.le_of_ble_eq_true rfl) h1 dL_law_562 ?_
  refine lv_aload_n hx hb dL_law_563 rfl (lv_at hl 1 rfl) ?_
  refine z_hcalli [(qx, zO 9 9 (zc0 u v)), ((u 0), zO 7 6 (zc1 u v)), ((u 1), zI K 200 (fun _ => 0)), ((u 2), zI K 200 (fun _ => 0)), ((u 3), zI K 200 (fun _ => 0)), ((u 4), zI K 200 (fun _ => 0)), ((u 5), zI K 600 (fun _ => 0)), ((u 6), zI K 200 (fun _ => 0)), ((u 7), zI K 200 (fun _ => 0)), (qo, zJ K 1 (fun _ => 0))] [(qm, zO 10 83 (zc71 u v)), ((v 0), zI K 200 (fun _ => 0)), ((v 1), zI K 200 (fun _ => 0)), ((v 2), zI K 200 (fun _ => 0)), ((v 3), zI K 200 (fun _ => 0)), ((v 4), zI K 200 (fun _ => 0)), ((v 5), zI K 600 (fun _ => 0)), ((v 6), zI K 200 (fun _ => 0))] [0, 1, 2, 3, 4, 5, 6, 7, 8, 17] [9, 10, 11, 12, 13, 14, 15, 16] hP hD hS hA rfl rfl (by decide +kernel) (by decide +kernel) (by decide +kernel) 124 1863516 rfl rfl (fun hPc hDc hF => z_xrunH (As := [.ref qx, .int (nI t1), .int (-1), .int (-1), .ref qo]) (rest := []) ⟨hx, hb, hml, hown, hg⟩ (cL_con_2 l hl9 K H.size qx qo (u 0) (u 1) (u 2) (u 3) (u 4) (u 5) (u 6) (u 7) (zc0 u v) (zc1 u v) (fun _ => 0) (fun _ => 0) (fun _ => 0) (fun _ => 0) (fun _ => 0) (fun _ => 0) (fun _ => 0) (fun _ => 0) t1 ht1 (zc0_0 u v) (zc1_0 u v) (zc1_5 u v) (zc1_1 u v) (zc1_2 u v) (zc1_3 u v) (zc1_4 u v) (zc0_1 u v) (zc0_2 u v)) kS_RL_125 hd_L_con rfl rfl ⟨(Nat.le_of_ble_eq_true rfl), (Nat.le_of_ble_eq_true rfl)⟩ hK hS hZ hPc hDc hF rfl hl.1 rfl (Nat.le_of_ble_eq_true rfl) dL_law_564 ⟨(Nat.le_of_ble_eq_true rfl), (Nat.le_of_ble_eq_true rfl)⟩) (fun r3 u1 H locs w2 hP hD hS => ?_)
  subst w2
  have hP : va_P K.1 classes [(qm, zO 10 83 (zc71 u v)), ((v 0), zI K 200 (fun _ => 0)), ((v 1), zI K 200 (fun _ => 0)), ((v 2), zI K 200 (fun _ => 0)), ((v 3), zI K 200 (fun _ => 0)), ((v 4), zI K 200 (fun _ => 0)), ((v 5), zI K 600 (fun _ => 0)), ((v 6), zI K 200 (fun _ => 0)), (qo, zJ K 1 (va_up (fun _ => 0) 0 0))] H := hP
  have hD : va_D A [(qm, zO 10 83 (zc71 u v)), ((v 0), zI K 200 (fun _ => 0)), ((v 1), zI K 200 (fun _ => 0)), ((v 2), zI K 200 (fun _ => 0)), ((v 3), zI K 200 (fun _ => 0)), ((v 4), zI K 200 (fun _ => 0)), ((v 5), zI K 600 (fun _ => 0)), ((v 6), zI K 200 (fun _ => 0)), (qo, zJ K 1 (va_up (fun _ => 0) 0 0))] := hD
  refine lv_istore (lv' := [(5, .int 0), (4, .int 0), (3, .ref qo), (2, .ref qm), (1, .ref qx), (0, .ref b)]) hx hb dL_law_567 hl (by decide) rfl (fun ls hl => ?_)
  refine lv_aload_n hx hb dL_law_569 rfl (lv_at hl 3 rfl) ?_
  refine lv_aload_n hx hb dL_law_570 rfl (lv_at hl 5 rfl) ?_
  refine lv_iload hx hb dL_law_571 (lv_at hl 1 rfl) ?_
  refine lv_iconst (v := 1) hx hb dL_law_573 (by decide) ?_
  refine lv_iadd hx hb dL_law_574 ?_
  refine z_cst (v := 1) (by decide +kernel) ?_
  refine z_sld (v := (nI t1)) (j := 1) hx hb hX hbl hbA hS rfl (Nat.le_of_ble_eq_true rfl) v1 dL_law_575 ?_
  refine lv_aload_n hx hb dL_law_576 rfl (lv_at hl 5 rfl) ?_
  refine lv_iload hx hb dL_law_577 (lv_at hl 1 rfl) ?_
  refine lv_iconst (v := 2) hx hb dL_law_579 (by decide) ?_
  refine lv_iadd hx hb dL_law_580 ?_
  refine z_cst (v := 2) (by decide +kernel) ?_
  refine z_sld (v := (-1)) (j := 2) hx hb hX hbl hbA hS rfl (Nat.le_of_ble_eq_true rfl) h0 dL_law_581 ?_
  refine lv_aload_n hx hb dL_law_582 rfl (lv_at hl 5 rfl) ?_
  refine lv_iload hx hb dL_law_583 (lv_at hl 1 rfl) ?_
  refine lv_iconst (v := 3) hx hb dL_law_585 (by decide) ?_
  refine lv_iadd hx hb dL_law_586 ?_
  refine z_cst (v := 3) (by decide +kernel) ?_
  refine z_sld (v := (-1)) (j := 3) hx hb hX hbl hbA hS rfl (Nat.le_of_ble_eq_true rfl) h1 dL_law_587 ?_
  refine z_calli [(qm, zO 10 83 (zc71 u v)), ((v 0), zI K 200 (fun _ => 0)), ((v 1), zI K 200 (fun _ => 0)), ((v 2), zI K 200 (fun _ => 0)), ((v 3), zI K 200 (fun _ => 0)), ((v 5), zI K 600 (fun _ => 0)), ((v 4), zI K 200 (fun _ => 0)), ((v 6), zI K 200 (fun _ => 0))] [(qo, zJ K 1 (va_up (fun _ => 0) 0 0))] [0, 1, 2, 3, 4, 6, 5, 7] [8] hP hD hS hA rfl rfl (by decide +kernel) (by decide +kernel) (by decide +kernel) 124 1863516 rfl rfl (fun hPc hDc hF => z_runV (As := [.int (nI t1), .int (-1), .int (-1)]) (rest := []) ⟨hx, hb, hml, hown, hg⟩ (cX12_con_2 l K H.size qm (v 0) (v 1) (v 2) (v 3) (v 5) (v 4) (v 6) (zc71 u v) (fun _ => 0) (fun _ => 0) (fun _ => 0) (fun _ => 0) (fun _ => 0) (fun _ => 0) (fun _ => 0) t1 ht1 (zc71_0 u v) (zc71_1 u v) (zc71_2 u v) (zc71_3 u v) (zc71_4 u v) (zc71_6 u v) (zc71_5 u v) (zc71_7 u v)) kV_RL_127 hd_X12_con rfl rfl ⟨(Nat.le_of_ble_eq_true rfl), (Nat.le_of_ble_eq_true rfl)⟩ hK hS hZ hPc hDc hF 0 rfl rfl rfl hl.1 rfl (Nat.le_of_ble_eq_true rfl) dL_law_588 ⟨(Nat.le_of_ble_eq_true rfl), (Nat.le_of_ble_eq_true rfl)⟩) (fun r6 u4 H locs w5 hP hD hS => ?_)
  subst w5
  have hP : va_P K.1 classes [(qo, zJ K 1 (va_up (fun _ => 0) 0 0)), (qm, zO 10 83 (va_up (va_up (zc71 u v) 81 (.int 0)) 0 (.int 1)))] H := hP
  have hD : va_D A [(qo, zJ K 1 (va_up (fun _ => 0) 0 0)), (qm, zO 10 83 (va_up (va_up (zc71 u v) 81 (.int 0)) 0 (.int 1)))] := hD
  refine lv_istore (lv' := [(6, .int 0), (5, .int 0), (4, .int 0), (3, .ref qo), (2, .ref qm), (1, .ref qx), (0, .ref b)]) hx hb dL_law_591 hl (by decide) rfl (fun ls hl => ?_)
  refine lv_aload_n hx hb dL_law_593 rfl (lv_at hl 4 rfl) ?_
  refine z_calli [(qm, zO 10 83 (va_up (va_up (zc71 u v) 81 (.int 0)) 0 (.int 1)))] [(qo, zJ K 1 (va_up (fun _ => 0) 0 0))] [1] [0] hP hD hS hA rfl rfl (by decide +kernel) (by decide +kernel) (by decide +kernel) 124 1863516 rfl rfl (fun hPc hDc hF => z_runV (As := []) (rest := []) ⟨hx, hb, hml, hown, hg⟩ (cX12_thrown_1 l K H.size qm (va_up (va_up (zc71 u v) 81 (.int 0)) 0 (.int 1)) (zu_ne (by decide) zu_eq)) kV_RL_104 hd_X12_thrown rfl rfl ⟨(Nat.le_of_ble_eq_true rfl), (Nat.le_of_ble_eq_true rfl)⟩ hK hS hZ hPc hDc hF 0 rfl rfl rfl hl.1 rfl (Nat.le_of_ble_eq_true rfl) dL_law_594 ⟨(Nat.le_of_ble_eq_true rfl), (Nat.le_of_ble_eq_true rfl)⟩) (fun r9 u7 H locs w8 hP hD hS => ?_)
  subst w8
  have hP : va_P K.1 classes [(qo, zJ K 1 (va_up (fun _ => 0) 0 0)), (qm, zO 10 83 (va_up (va_up (zc71 u v) 81 (.int 0)) 0 (.int 1)))] H := hP
  have hD : va_D A [(qo, zJ K 1 (va_up (fun _ => 0) 0 0)), (qm, zO 10 83 (va_up (va_up (zc71 u v) 81 (.int 0)) 0 (.int 1)))] := hD
  refine lv_iload hx hb dL_law_597 (lv_at hl 1 rfl) ?_
  refine lv_icmp_eq (tgt := 604) hx hb dL_law_599 (by decide) (fun _ => ?_) (fun c => absurd (by decide) c)
  refine lv_iload hx hb dL_law_604 (lv_at hl 1 rfl) ?_
  refine lv_if_ne (tgt := 621) hx hb dL_law_606 (by decide) (fun c => absurd (by decide) c) (fun _ => ?_)
  refine lv_aload_n hx hb dL_law_609 rfl (lv_at hl 3 rfl) ?_
  refine lv_iconst (v := 0) hx hb dL_law_610 (by decide) ?_
  refine z_lald (v := 0) (j := 0) hx hb hK hP 0 rfl rfl (Nat.le_of_ble_eq_true rfl) (Nat.le_of_ble_eq_true rfl) zu_eq dL_law_611 ?_
  refine lv_iload hx hb dL_law_612 (lv_at hl 0 rfl) ?_
  refine lv_i2l hx hb dL_law_614 rfl ?_
  refine z_cstl (v := 0) (by decide +kernel) ?_
  refine W.lcmp hx hb dL_law_615 ?_
  refine z_cst (v := 0) (by decide +kernel) ?_
  refine lv_if_eq (tgt := 621) hx hb dL_law_616 (by decide) (fun _ => ?_) (fun c => absurd (by decide) c)
  refine lv_goto (tgt := 2026) hx hb dL_law_621 (by decide) ?_
  exact law_back ⟨hx, hb, hr, hml, hown, hg, hX, hbl, hlocks, hK, hZ, hl9, hAA, hA, hbA⟩ (Nat.le_of_ble_eq_true rfl) (Nat.le_of_ble_eq_true rfl) hS (lv_sub hl [2, 6] rfl)
set_option maxHeartbeats 4000000 in
set_option maxRecDepth 100000 in
theorem lawS_6_2 {p : Program} {l : Launch} {e : Env} {s : State} {m : MethodId} {below : List Frame} {meth : Method} {c : Code} {b : Nat} {xs : Nat → Int32} {K : zK} {A : Nat → Prop} {H : Heap} {locs : List Loc} {ls : Array Slot} (C : zC p l s m meth c b xs K A) (qx qm qo : Nat) (u v : Nat → Nat) (h0 : xs 2 = (-1)) (h1 : xs 3 = (-1)) (h2 : 0 ≤ (xs 1).toInt) (h3 : 4 ≤ (xs 1).toInt) (hP : va_P K.1 classes (lwW K qx qm qo u v) H) (hD : va_D A (lwW K qx qm qo u v)) (hS : va_S A s.heap H locs) (hl : lv_has ls 7 [(4, .int 0), (3, .ref qo), (2, .ref qm), (1, .ref qx), (0, .ref b)]) : W p l e room_1 s m #[Value.ref b] below meth c H locs 124 1863516 (lw_Z below #[Value.ref b] s) (F0 m 544 ls []) := by
  obtain ⟨hx, hb, hr, hml, hown, hg, hX, hbl, hlocks, hK, hZ, hl9, hAA, hA, hbA⟩ := C
  have hP : va_P K.1 classes [(qx, zO 9 9 (zc0 u v)), (qm, zO 10 83 (zc71 u v)), (qo, zJ K 1 (fun _ => 0))] H := hP.sub [0, 71, 123] rfl
  have hD : va_D A [(qx, zO 9 9 (zc0 u v)), (qm, zO 10 83 (zc71 u v)), (qo, zJ K 1 (fun _ => 0))] := hD.sub [0, 71, 123] (by decide +kernel) rfl
  refine lv_aload_n hx hb dL_law_544 rfl (lv_at hl 3 rfl) ?_
  refine lv_aload_n hx hb dL_law_545 rfl (lv_at hl 4 rfl) ?_
  refine lv_iload hx hb dL_law_546 (lv_at hl 0 rfl) ?_
  refine lv_iconst (v := 1) hx hb dL_law_548 (by decide) ?_
  refine lv_iadd hx hb dL_law_549 ?_
  refine z_cst (v := 1) (by decide +kernel) ?_
  refine z_sld (v := (xs 1)) (j := 1) hx hb hX hbl hbA hS rfl (Nat.le_of_ble_eq_true rfl) rfl dL_law_550 ?_
  refine lv_aload_n hx hb dL_law_551 rfl (lv_at hl 4 rfl) ?_
  refine lv_iload hx hb dL_law_552 (lv_at hl 0 rfl) ?_
  refine lv_iconst (v := 2) hx hb dL_law_554 (by decide) ?_
  refine lv_iadd hx hb dL_law_555 ?_
  refine z_cst (v := 2) (by decide +kernel) ?_
  refine z_sld (v := (-1)) (j := 2) hx hb hX hbl hbA hS rfl (Nat.le_of_ble_eq_true rfl) h0 dL_law_556 ?_
  refine lv_aload_n hx hb dL_law_557 rfl (lv_at hl 4 rfl) ?_
  refine lv_iload hx hb dL_law_558 (lv_at hl 0 rfl) ?_
  refine lv_iconst (v := 3) hx hb dL_law_560 (by decide) ?_
  refine lv_iadd hx hb dL_law_561 ?_
  refine z_cst (v := 3) (by decide +kernel) ?_
  refine z_sld (v := (-1)) (j := 3) hx hb hX hbl hbA hS rfl (Nat.le_of_ble_eq_true rfl) h1 dL_law_562 ?_
  refine lv_aload_n hx hb dL_law_563 rfl (lv_at hl 1 rfl) ?_
  refine z_hcalli [(qx, zO 9 9 (zc0 u v))] [(qm, zO 10 83 (zc71 u v)), (qo, zJ K 1 (fun _ => 0))] [0] [1, 2] hP hD hS hA rfl rfl (by decide +kernel) (by decide +kernel) (by decide +kernel) 125 1863522 rfl rfl (fun hPc hDc hF => z_xrunH (As := [.ref qx, .int (xs 1), .int (-1), .int (-1), .ref qo]) (rest := []) ⟨hx, hb, hml, hown, hg⟩ (cL_con_3 l hl9 K H.size qx qo (zc0 u v) (xs 1) (by rw [Int32.lt_iff_toInt_lt, show (0 : Int32).toInt = 0 from by decide]; omega) (by rw [Int32.lt_iff_toInt_lt, show (4 : Int32).toInt = 4 from by decide]; omega)) kS_RL_125 hd_L_con rfl rfl ⟨(Nat.le_of_ble_eq_true rfl), (Nat.le_of_ble_eq_true rfl)⟩ hK hS hZ hPc hDc hF rfl hl.1 rfl (Nat.le_of_ble_eq_true rfl) dL_law_564 ⟨(Nat.le_of_ble_eq_true rfl), (Nat.le_of_ble_eq_true rfl)⟩) (fun r3 u1 H locs w2 hP hD hS => ?_)
  subst w2
  have hP : va_P K.1 classes [(qm, zO 10 83 (zc71 u v)), (qo, zJ K 1 (fun _ => 0))] H := hP
  have hD : va_D A [(qm, zO 10 83 (zc71 u v)), (qo, zJ K 1 (fun _ => 0))] := hD
  refine lv_istore (lv' := [(5, .int 2), (4, .int 0), (3, .ref qo), (2, .ref qm), (1, .ref qx), (0, .ref b)]) hx hb dL_law_567 hl (by decide) rfl (fun ls hl => ?_)
  refine lv_aload_n hx hb dL_law_569 rfl (lv_at hl 3 rfl) ?_
  refine lv_aload_n hx hb dL_law_570 rfl (lv_at hl 5 rfl) ?_
  refine lv_iload hx hb dL_law_571 (lv_at hl 1 rfl) ?_
  refine lv_iconst (v := 1) hx hb dL_law_573 (by decide) ?_
  refine lv_iadd hx hb dL_law_574 ?_
  refine z_cst (v := 1) (by decide +kernel) ?_
  refine z_sld (v := (xs 1)) (j := 1) hx hb hX hbl hbA hS rfl (Nat.le_of_ble_eq_true rfl) rfl dL_law_575 ?_
  refine lv_aload_n hx hb dL_law_576 rfl (lv_at hl 5 rfl) ?_
  refine lv_iload hx hb dL_law_577 (lv_at hl 1 rfl) ?_
  refine lv_iconst (v := 2) hx hb dL_law_579 (by decide) ?_
  refine lv_iadd hx hb dL_law_580 ?_
  refine z_cst (v := 2) (by decide +kernel) ?_
  refine z_sld (v := (-1)) (j := 2) hx hb hX hbl hbA hS rfl (Nat.le_of_ble_eq_true rfl) h0 dL_law_581 ?_
  refine lv_aload_n hx hb dL_law_582 rfl (lv_at hl 5 rfl) ?_
  refine lv_iload hx hb dL_law_583 (lv_at hl 1 rfl) ?_
  refine lv_iconst (v := 3) hx hb dL_law_585 (by decide) ?_
  refine lv_iadd hx hb dL_law_586 ?_
  refine z_cst (v := 3) (by decide +kernel) ?_
  refine z_sld (v := (-1)) (j := 3) hx hb hX hbl hbA hS rfl (Nat.le_of_ble_eq_true rfl) h1 dL_law_587 ?_
  refine z_calli [(qm, zO 10 83 (zc71 u v))] [(qo, zJ K 1 (fun _ => 0))] [0] [1] hP hD hS hA rfl rfl (by decide +kernel) (by decide +kernel) (by decide +kernel) 125 1863522 rfl rfl (fun hPc hDc hF => z_runV (As := [.int (xs 1), .int (-1), .int (-1)]) (rest := []) ⟨hx, hb, hml, hown, hg⟩ (cX12_con_3 l K H.size qm (zc71 u v) (xs 1) (by rw [Int32.lt_iff_toInt_lt, show (0 : Int32).toInt = 0 from by decide]; omega) (by rw [Int32.lt_iff_toInt_lt, show (3 : Int32).toInt = 3 from by decide]; omega)) kV_RL_127 hd_X12_con rfl rfl ⟨(Nat.le_of_ble_eq_true rfl), (Nat.le_of_ble_eq_true rfl)⟩ hK hS hZ hPc hDc hF 0 rfl rfl rfl hl.1 rfl (Nat.le_of_ble_eq_true rfl) dL_law_588 ⟨(Nat.le_of_ble_eq_true rfl), (Nat.le_of_ble_eq_true rfl)⟩) (fun r6 u4 H locs w5 hP hD hS => ?_)
  subst w5
  have hP : va_P K.1 classes [(qo, zJ K 1 (fun _ => 0)), (qm, zO 10 83 (va_up (zc71 u v) 81 (.int 2)))] H := hP
  have hD : va_D A [(qo, zJ K 1 (fun _ => 0)), (qm, zO 10 83 (va_up (zc71 u v) 81 (.int 2)))] := hD
  refine lv_istore (lv' := [(6, .int 0), (5, .int 2), (4, .int 0), (3, .ref qo), (2, .ref qm), (1, .ref qx), (0, .ref b)]) hx hb dL_law_591 hl (by decide) rfl (fun ls hl => ?_)
  refine lv_aload_n hx hb dL_law_593 rfl (lv_at hl 4 rfl) ?_
  refine z_calli [(qm, zO 10 83 (va_up (zc71 u v) 81 (.int 2)))] [(qo, zJ K 1 (fun _ => 0))] [1] [0] hP hD hS hA rfl rfl (by decide +kernel) (by decide +kernel) (by decide +kernel) 125 1863522 rfl rfl (fun hPc hDc hF => z_runV (As := []) (rest := []) ⟨hx, hb, hml, hown, hg⟩ (cX12_thrown_3 l K H.size qm (va_up (zc71 u v) 81 (.int 2)) zu_eq) kV_RL_104 hd_X12_thrown rfl rfl ⟨(Nat.le_of_ble_eq_true rfl), (Nat.le_of_ble_eq_true rfl)⟩ hK hS hZ hPc hDc hF 0 rfl rfl rfl hl.1 rfl (Nat.le_of_ble_eq_true rfl) dL_law_594 ⟨(Nat.le_of_ble_eq_true rfl), (Nat.le_of_ble_eq_true rfl)⟩) (fun r9 u7 H locs w8 hP hD hS => ?_)
  subst w8
  have hP : va_P K.1 classes [(qo, zJ K 1 (fun _ => 0)), (qm, zO 10 83 (va_up (zc71 u v) 81 (.int 2)))] H := hP
  have hD : va_D A [(qo, zJ K 1 (fun _ => 0)), (qm, zO 10 83 (va_up (zc71 u v) 81 (.int 2)))] := hD
  refine lv_iload hx hb dL_law_597 (lv_at hl 1 rfl) ?_
  refine lv_icmp_eq (tgt := 604) hx hb dL_law_599 (by decide) (fun _ => ?_) (fun c => absurd (by decide) c)
  refine lv_iload hx hb dL_law_604 (lv_at hl 1 rfl) ?_
  refine lv_if_ne (tgt := 621) hx hb dL_law_606 (by decide) (fun _ => ?_) (fun c => absurd c (by decide))
  refine lv_goto (tgt := 2026) hx hb dL_law_621 (by decide) ?_
  exact law_back ⟨hx, hb, hr, hml, hown, hg, hX, hbl, hlocks, hK, hZ, hl9, hAA, hA, hbA⟩ (Nat.le_of_ble_eq_true rfl) (Nat.le_of_ble_eq_true rfl) hS (lv_sub hl [2, 6] rfl)
set_option maxHeartbeats 4000000 in
set_option maxRecDepth 100000 in
theorem lawS_6_3 {p : Program} {l : Launch} {e : Env} {s : State} {m : MethodId} {below : List Frame} {meth : Method} {c : Code} {b : Nat} {xs : Nat → Int32} {K : zK} {A : Nat → Prop} {H : Heap} {locs : List Loc} {ls : Array Slot} (C : zC p l s m meth c b xs K A) (qx qm qo : Nat) (u v : Nat → Nat) (h0 : xs 2 = (-1)) (h1 : ¬ xs 3 = (-1)) (h2 : (xs 3).toInt < 0) (hP : va_P K.1 classes (lwW K qx qm qo u v) H) (hD : va_D A (lwW K qx qm qo u v)) (hS : va_S A s.heap H locs) (hl : lv_has ls 7 [(4, .int 0), (3, .ref qo), (2, .ref qm), (1, .ref qx), (0, .ref b)]) : W p l e room_1 s m #[Value.ref b] below meth c H locs 124 1863516 (lw_Z below #[Value.ref b] s) (F0 m 544 ls []) := by
  obtain ⟨hx, hb, hr, hml, hown, hg, hX, hbl, hlocks, hK, hZ, hl9, hAA, hA, hbA⟩ := C
  have hP : va_P K.1 classes [(qx, zO 9 9 (zc0 u v)), ((u 0), zO 7 6 (zc1 u v)), (qm, zO 10 83 (zc71 u v)), (qo, zJ K 1 (fun _ => 0))] H := hP.sub [0, 1, 71, 123] rfl
  have hD : va_D A [(qx, zO 9 9 (zc0 u v)), ((u 0), zO 7 6 (zc1 u v)), (qm, zO 10 83 (zc71 u v)), (qo, zJ K 1 (fun _ => 0))] := hD.sub [0, 1, 71, 123] (by decide +kernel) rfl
  refine lv_aload_n hx hb dL_law_544 rfl (lv_at hl 3 rfl) ?_
  refine lv_aload_n hx hb dL_law_545 rfl (lv_at hl 4 rfl) ?_
  refine lv_iload hx hb dL_law_546 (lv_at hl 0 rfl) ?_
  refine lv_iconst (v := 1) hx hb dL_law_548 (by decide) ?_
  refine lv_iadd hx hb dL_law_549 ?_
  refine z_cst (v := 1) (by decide +kernel) ?_
  refine z_sld (v := (xs 1)) (j := 1) hx hb hX hbl hbA hS rfl (Nat.le_of_ble_eq_true rfl) rfl dL_law_550 ?_
  refine lv_aload_n hx hb dL_law_551 rfl (lv_at hl 4 rfl) ?_
  refine lv_iload hx hb dL_law_552 (lv_at hl 0 rfl) ?_
  refine lv_iconst (v := 2) hx hb dL_law_554 (by decide) ?_
  refine lv_iadd hx hb dL_law_555 ?_
  refine z_cst (v := 2) (by decide +kernel) ?_
  refine z_sld (v := (-1)) (j := 2) hx hb hX hbl hbA hS rfl (Nat.le_of_ble_eq_true rfl) h0 dL_law_556 ?_
  refine lv_aload_n hx hb dL_law_557 rfl (lv_at hl 4 rfl) ?_
  refine lv_iload hx hb dL_law_558 (lv_at hl 0 rfl) ?_
  refine lv_iconst (v := 3) hx hb dL_law_560 (by decide) ?_
  refine lv_iadd hx hb dL_law_561 ?_
  refine z_cst (v := 3) (by decide +kernel) ?_
  refine z_sld (v := (xs 3)) (j := 3) hx hb hX hbl hbA hS rfl (Nat.le_of_ble_eq_true rfl) rfl dL_law_562 ?_
  refine lv_aload_n hx hb dL_law_563 rfl (lv_at hl 1 rfl) ?_
  refine z_hcalli [(qx, zO 9 9 (zc0 u v)), ((u 0), zO 7 6 (zc1 u v))] [(qm, zO 10 83 (zc71 u v)), (qo, zJ K 1 (fun _ => 0))] [0, 1] [2, 3] hP hD hS hA rfl rfl (by decide +kernel) (by decide +kernel) (by decide +kernel) 125 1863522 rfl rfl (fun hPc hDc hF => z_xrunH (As := [.ref qx, .int (xs 1), .int (-1), .int (xs 3), .ref qo]) (rest := []) ⟨hx, hb, hml, hown, hg⟩ (cL_con_4 l hl9 K H.size qx qo (u 0) (zc0 u v) (zc1 u v) (xs 1) (xs 3) h1 (zc0_0 u v) (by rw [Int32.lt_iff_toInt_lt, show (0 : Int32).toInt = 0 from by decide]; omega)) kS_RL_125 hd_L_con rfl rfl ⟨(Nat.le_of_ble_eq_true rfl), (Nat.le_of_ble_eq_true rfl)⟩ hK hS hZ hPc hDc hF rfl hl.1 rfl (Nat.le_of_ble_eq_true rfl) dL_law_564 ⟨(Nat.le_of_ble_eq_true rfl), (Nat.le_of_ble_eq_true rfl)⟩) (fun r3 u1 H locs w2 hP hD hS => ?_)
  subst w2
  have hP : va_P K.1 classes [(qm, zO 10 83 (zc71 u v)), (qo, zJ K 1 (fun _ => 0))] H := hP
  have hD : va_D A [(qm, zO 10 83 (zc71 u v)), (qo, zJ K 1 (fun _ => 0))] := hD
  refine lv_istore (lv' := [(5, .int 1), (4, .int 0), (3, .ref qo), (2, .ref qm), (1, .ref qx), (0, .ref b)]) hx hb dL_law_567 hl (by decide) rfl (fun ls hl => ?_)
  refine lv_aload_n hx hb dL_law_569 rfl (lv_at hl 3 rfl) ?_
  refine lv_aload_n hx hb dL_law_570 rfl (lv_at hl 5 rfl) ?_
  refine lv_iload hx hb dL_law_571 (lv_at hl 1 rfl) ?_
  refine lv_iconst (v := 1) hx hb dL_law_573 (by decide) ?_
  refine lv_iadd hx hb dL_law_574 ?_
  refine z_cst (v := 1) (by decide +kernel) ?_
  refine z_sld (v := (xs 1)) (j := 1) hx hb hX hbl hbA hS rfl (Nat.le_of_ble_eq_true rfl) rfl dL_law_575 ?_
  refine lv_aload_n hx hb dL_law_576 rfl (lv_at hl 5 rfl) ?_
  refine lv_iload hx hb dL_law_577 (lv_at hl 1 rfl) ?_
  refine lv_iconst (v := 2) hx hb dL_law_579 (by decide) ?_
  refine lv_iadd hx hb dL_law_580 ?_
  refine z_cst (v := 2) (by decide +kernel) ?_
  refine z_sld (v := (-1)) (j := 2) hx hb hX hbl hbA hS rfl (Nat.le_of_ble_eq_true rfl) h0 dL_law_581 ?_
  refine lv_aload_n hx hb dL_law_582 rfl (lv_at hl 5 rfl) ?_
  refine lv_iload hx hb dL_law_583 (lv_at hl 1 rfl) ?_
  refine lv_iconst (v := 3) hx hb dL_law_585 (by decide) ?_
  refine lv_iadd hx hb dL_law_586 ?_
  refine z_cst (v := 3) (by decide +kernel) ?_
  refine z_sld (v := (xs 3)) (j := 3) hx hb hX hbl hbA hS rfl (Nat.le_of_ble_eq_true rfl) rfl dL_law_587 ?_
  refine z_calli [(qm, zO 10 83 (zc71 u v))] [(qo, zJ K 1 (fun _ => 0))] [0] [1] hP hD hS hA rfl rfl (by decide +kernel) (by decide +kernel) (by decide +kernel) 125 1863522 rfl rfl (fun hPc hDc hF => z_runV (As := [.int (xs 1), .int (-1), .int (xs 3)]) (rest := []) ⟨hx, hb, hml, hown, hg⟩ (cX12_con_4 l K H.size qm (zc71 u v) (xs 1) (xs 3) h1 (zc71_0 u v) (by rw [Int32.lt_iff_toInt_lt, show (0 : Int32).toInt = 0 from by decide]; omega)) kV_RL_127 hd_X12_con rfl rfl ⟨(Nat.le_of_ble_eq_true rfl), (Nat.le_of_ble_eq_true rfl)⟩ hK hS hZ hPc hDc hF 0 rfl rfl rfl hl.1 rfl (Nat.le_of_ble_eq_true rfl) dL_law_588 ⟨(Nat.le_of_ble_eq_true rfl), (Nat.le_of_ble_eq_true rfl)⟩) (fun r6 u4 H locs w5 hP hD hS => ?_)
  subst w5
  have hP : va_P K.1 classes [(qo, zJ K 1 (fun _ => 0)), (qm, zO 10 83 (va_up (zc71 u v) 81 (.int 1)))] H := hP
  have hD : va_D A [(qo, zJ K 1 (fun _ => 0)), (qm, zO 10 83 (va_up (zc71 u v) 81 (.int 1)))] := hD
  refine lv_istore (lv' := [(6, .int 0), (5, .int 1), (4, .int 0), (3, .ref qo), (2, .ref qm), (1, .ref qx), (0, .ref b)]) hx hb dL_law_591 hl (by decide) rfl (fun ls hl => ?_)
  refine lv_aload_n hx hb dL_law_593 rfl (lv_at hl 4 rfl) ?_
  refine z_calli [(qm, zO 10 83 (va_up (zc71 u v) 81 (.int 1)))] [(qo, zJ K 1 (fun _ => 0))] [1] [0] hP hD hS hA rfl rfl (by decide +kernel) (by decide +kernel) (by decide +kernel) 125 1863522 rfl rfl (fun hPc hDc hF => z_runV (As := []) (rest := []) ⟨hx, hb, hml, hown, hg⟩ (cX12_thrown_2 l K H.size qm (va_up (zc71 u v) 81 (.int 1)) zu_eq) kV_RL_104 hd_X12_thrown rfl rfl ⟨(Nat.le_of_ble_eq_true rfl), (Nat.le_of_ble_eq_true rfl)⟩ hK hS hZ hPc hDc hF 0 rfl rfl rfl hl.1 rfl (Nat.le_of_ble_eq_true rfl) dL_law_594 ⟨(Nat.le_of_ble_eq_true rfl), (Nat.le_of_ble_eq_true rfl)⟩) (fun r9 u7 H locs w8 hP hD hS => ?_)
  subst w8
  have hP : va_P K.1 classes [(qo, zJ K 1 (fun _ => 0)), (qm, zO 10 83 (va_up (zc71 u v) 81 (.int 1)))] H := hP
  have hD : va_D A [(qo, zJ K 1 (fun _ => 0)), (qm, zO 10 83 (va_up (zc71 u v) 81 (.int 1)))] := hD
  refine lv_iload hx hb dL_law_597 (lv_at hl 1 rfl) ?_
  refine lv_icmp_eq (tgt := 604) hx hb dL_law_599 (by decide) (fun _ => ?_) (fun c => absurd (by decide) c)
  refine lv_iload hx hb dL_law_604 (lv_at hl 1 rfl) ?_
  refine lv_if_ne (tgt := 621) hx hb dL_law_606 (by decide) (fun _ => ?_) (fun c => absurd c (by decide))
  refine lv_goto (tgt := 2026) hx hb dL_law_621 (by decide) ?_
  exact law_back ⟨hx, hb, hr, hml, hown, hg, hX, hbl, hlocks, hK, hZ, hl9, hAA, hA, hbA⟩ (Nat.le_of_ble_eq_true rfl) (Nat.le_of_ble_eq_true rfl) hS (lv_sub hl [2, 6] rfl)
set_option maxHeartbeats 4000000 in
set_option maxRecDepth 100000 in
theorem lawS_6_4 {p : Program} {l : Launch} {e : Env} {s : State} {m : MethodId} {below : List Frame} {meth : Method} {c : Code} {b : Nat} {xs : Nat → Int32} {K : zK} {A : Nat → Prop} {H : Heap} {locs : List Loc} {ls : Array Slot} (C : zC p l s m meth c b xs K A) (qx qm qo : Nat) (u v : Nat → Nat) (h0 : xs 2 = (-1)) (h1 : ¬ xs 3 = (-1)) (h2 : 0 ≤ (xs 3).toInt) (hP : va_P K.1 classes (lwW K qx qm qo u v) H) (hD : va_D A (lwW K qx qm qo u v)) (hS : va_S A s.heap H locs) (hl : lv_has ls 7 [(4, .int 0), (3, .ref qo), (2, .ref qm), (1, .ref qx), (0, .ref b)]) : W p l e room_1 s m #[Value.ref b] below meth c H locs 124 1863516 (lw_Z below #[Value.ref b] s) (F0 m 544 ls []) := by
  obtain ⟨hx, hb, hr, hml, hown, hg, hX, hbl, hlocks, hK, hZ, hl9, hAA, hA, hbA⟩ := C
  have hP : va_P K.1 classes [(qx, zO 9 9 (zc0 u v)), ((u 0), zO 7 6 (zc1 u v)), (qm, zO 10 83 (zc71 u v)), (qo, zJ K 1 (fun _ => 0))] H := hP.sub [0, 1, 71, 123] rfl
  have hD : va_D A [(qx, zO 9 9 (zc0 u v)), ((u 0), zO 7 6 (zc1 u v)), (qm, zO 10 83 (zc71 u v)), (qo, zJ K 1 (fun _ => 0))] := hD.sub [0, 1, 71, 123] (by decide +kernel) rfl
  refine lv_aload_n hx hb dL_law_544 rfl (lv_at hl 3 rfl) ?_
  refine lv_aload_n hx hb dL_law_545 rfl (lv_at hl 4 rfl) ?_
  refine lv_iload hx hb dL_law_546 (lv_at hl 0 rfl) ?_
  refine lv_iconst (v := 1) hx hb dL_law_548 (by decide) ?_
  refine lv_iadd hx hb dL_law_549 ?_
  refine z_cst (v := 1) (by decide +kernel) ?_
  refine z_sld (v := (xs 1)) (j := 1) hx hb hX hbl hbA hS rfl (Nat.le_of_ble_eq_true rfl) rfl dL_law_550 ?_
  refine lv_aload_n hx hb dL_law_551 rfl (lv_at hl 4 rfl) ?_
  refine lv_iload hx hb dL_law_552 (lv_at hl 0 rfl) ?_
  refine lv_iconst (v := 2) hx hb dL_law_554 (by decide) ?_
  refine lv_iadd hx hb dL_law_555 ?_
  refine z_cst (v := 2) (by decide +kernel) ?_
  refine z_sld (v := (-1)) (j := 2) hx hb hX hbl hbA hS rfl (Nat.le_of_ble_eq_true rfl) h0 dL_law_556 ?_
  refine lv_aload_n hx hb dL_law_557 rfl (lv_at hl 4 rfl) ?_
  refine lv_iload hx hb dL_law_558 (lv_at hl 0 rfl) ?_
  refine lv_iconst (v := 3) hx hb dL_law_560 (by decide) ?_
  refine lv_iadd hx hb dL_law_561 ?_
  refine z_cst (v := 3) (by decide +kernel) ?_
  refine z_sld (v := (xs 3)) (j := 3) hx hb hX hbl hbA hS rfl (Nat.le_of_ble_eq_true rfl) rfl dL_law_562 ?_
  refine lv_aload_n hx hb dL_law_563 rfl (lv_at hl 1 rfl) ?_
  refine z_hcalli [(qx, zO 9 9 (zc0 u v)), ((u 0), zO 7 6 (zc1 u v))] [(qm, zO 10 83 (zc71 u v)), (qo, zJ K 1 (fun _ => 0))] [0, 1] [2, 3] hP hD hS hA rfl rfl (by decide +kernel) (by decide +kernel) (by decide +kernel) 125 1863522 rfl rfl (fun hPc hDc hF => z_xrunH (As := [.ref qx, .int (xs 1), .int (-1), .int (xs 3), .ref qo]) (rest := []) ⟨hx, hb, hml, hown, hg⟩ (cL_con_5 l hl9 K H.size qx qo (u 0) (zc0 u v) (zc1 u v) (xs 1) (xs 3) (fun c9 => absurd (congrArg Int32.toInt c9) (by rw [show (-1 : Int32).toInt = -1 from by decide]; omega)) (zc0_0 u v) (by rw [Int32.lt_iff_toInt_lt, show (0 : Int32).toInt = 0 from by decide]; omega) (zc1_5 u v) (by rw [Int32.le_iff_toInt_le, show (0 : Int32).toInt = 0 from by decide]; omega)) kS_RL_125 hd_L_con rfl rfl ⟨(Nat.le_of_ble_eq_true rfl), (Nat.le_of_ble_eq_true rfl)⟩ hK hS hZ hPc hDc hF rfl hl.1 rfl (Nat.le_of_ble_eq_true rfl) dL_law_564 ⟨(Nat.le_of_ble_eq_true rfl), (Nat.le_of_ble_eq_true rfl)⟩) (fun r3 u1 H locs w2 hP hD hS => ?_)
  subst w2
  have hP : va_P K.1 classes [(qm, zO 10 83 (zc71 u v)), (qo, zJ K 1 (fun _ => 0))] H := hP
  have hD : va_D A [(qm, zO 10 83 (zc71 u v)), (qo, zJ K 1 (fun _ => 0))] := hD
  refine lv_istore (lv' := [(5, .int 1), (4, .int 0), (3, .ref qo), (2, .ref qm), (1, .ref qx), (0, .ref b)]) hx hb dL_law_567 hl (by decide) rfl (fun ls hl => ?_)
  refine lv_aload_n hx hb dL_law_569 rfl (lv_at hl 3 rfl) ?_
  refine lv_aload_n hx hb dL_law_570 rfl (lv_at hl 5 rfl) ?_
  refine lv_iload hx hb dL_law_571 (lv_at hl 1 rfl) ?_
  refine lv_iconst (v := 1) hx hb dL_law_573 (by decide) ?_
  refine lv_iadd hx hb dL_law_574 ?_
  refine z_cst (v := 1) (by decide +kernel) ?_
  refine z_sld (v := (xs 1)) (j := 1) hx hb hX hbl hbA hS rfl (Nat.le_of_ble_eq_true rfl) rfl dL_law_575 ?_
  refine lv_aload_n hx hb dL_law_576 rfl (lv_at hl 5 rfl) ?_
  refine lv_iload hx hb dL_law_577 (lv_at hl 1 rfl) ?_
  refine lv_iconst (v := 2) hx hb dL_law_579 (by decide) ?_
  refine lv_iadd hx hb dL_law_580 ?_
  refine z_cst (v := 2) (by decide +kernel) ?_
  refine z_sld (v := (-1)) (j := 2) hx hb hX hbl hbA hS rfl (Nat.le_of_ble_eq_true rfl) h0 dL_law_581 ?_
  refine lv_aload_n hx hb dL_law_582 rfl (lv_at hl 5 rfl) ?_
  refine lv_iload hx hb dL_law_583 (lv_at hl 1 rfl) ?_
  refine lv_iconst (v := 3) hx hb dL_law_585 (by decide) ?_
  refine lv_iadd hx hb dL_law_586 ?_
  refine z_cst (v := 3) (by decide +kernel) ?_
  refine z_sld (v := (xs 3)) (j := 3) hx hb hX hbl hbA hS rfl (Nat.le_of_ble_eq_true rfl) rfl dL_law_587 ?_
  refine z_calli [(qm, zO 10 83 (zc71 u v))] [(qo, zJ K 1 (fun _ => 0))] [0] [1] hP hD hS hA rfl rfl (by decide +kernel) (by decide +kernel) (by decide +kernel) 125 1863522 rfl rfl (fun hPc hDc hF => z_runV (As := [.int (xs 1), .int (-1), .int (xs 3)]) (rest := []) ⟨hx, hb, hml, hown, hg⟩ (cX12_con_5 l K H.size qm (zc71 u v) (xs 1) (xs 3) (fun c9 => absurd (congrArg Int32.toInt c9) (by rw [show (-1 : Int32).toInt = -1 from by decide]; omega)) (zc71_0 u v) (by rw [Int32.lt_iff_toInt_lt, show (0 : Int32).toInt = 0 from by decide]; omega) (by rw [Int32.lt_iff_toInt_lt, show (-1 : Int32).toInt = -1 from by decide]; omega)) kV_RL_127 hd_X12_con rfl rfl ⟨(Nat.le_of_ble_eq_true rfl), (Nat.le_of_ble_eq_true rfl)⟩ hK hS hZ hPc hDc hF 0 rfl rfl rfl hl.1 rfl (Nat.le_of_ble_eq_true rfl) dL_law_588 ⟨(Nat.le_of_ble_eq_true rfl), (Nat.le_of_ble_eq_true rfl)⟩) (fun r6 u4 H locs w5 hP hD hS => ?_)
  subst w5
  have hP : va_P K.1 classes [(qo, zJ K 1 (fun _ => 0)), (qm, zO 10 83 (va_up (zc71 u v) 81 (.int 1)))] H := hP
  have hD : va_D A [(qo, zJ K 1 (fun _ => 0)), (qm, zO 10 83 (va_up (zc71 u v) 81 (.int 1)))] := hD
  refine lv_istore (lv' := [(6, .int 0), (5, .int 1), (4, .int 0), (3, .ref qo), (2, .ref qm), (1, .ref qx), (0, .ref b)]) hx hb dL_law_591 hl (by decide) rfl (fun ls hl => ?_)
  refine lv_aload_n hx hb dL_law_593 rfl (lv_at hl 4 rfl) ?_
  refine z_calli [(qm, zO 10 83 (va_up (zc71 u v) 81 (.int 1)))] [(qo, zJ K 1 (fun _ => 0))] [1] [0] hP hD hS hA rfl rfl (by decide +kernel) (by decide +kernel) (by decide +kernel) 125 1863522 rfl rfl (fun hPc hDc hF => z_runV (As := []) (rest := []) ⟨hx, hb, hml, hown, hg⟩ (cX12_thrown_2 l K H.size qm (va_up (zc71 u v) 81 (.int 1)) zu_eq) kV_RL_104 hd_X12_thrown rfl rfl ⟨(Nat.le_of_ble_eq_true rfl), (Nat.le_of_ble_eq_true rfl)⟩ hK hS hZ hPc hDc hF 0 rfl rfl rfl hl.1 rfl (Nat.le_of_ble_eq_true rfl) dL_law_594 ⟨(Nat.le_of_ble_eq_true rfl), (Nat.le_of_ble_eq_true rfl)⟩) (fun r9 u7 H locs w8 hP hD hS => ?_)
  subst w8
  have hP : va_P K.1 classes [(qo, zJ K 1 (fun _ => 0)), (qm, zO 10 83 (va_up (zc71 u v) 81 (.int 1)))] H := hP
  have hD : va_D A [(qo, zJ K 1 (fun _ => 0)), (qm, zO 10 83 (va_up (zc71 u v) 81 (.int 1)))] := hD
  refine lv_iload hx hb dL_law_597 (lv_at hl 1 rfl) ?_
  refine lv_icmp_eq (tgt := 604) hx hb dL_law_599 (by decide) (fun _ => ?_) (fun c => absurd (by decide) c)
  refine lv_iload hx hb dL_law_604 (lv_at hl 1 rfl) ?_
  refine lv_if_ne (tgt := 621) hx hb dL_law_606 (by decide) (fun _ => ?_) (fun c => absurd c (by decide))
  refine lv_goto (tgt := 2026) hx hb dL_law_621 (by decide) ?_
  exact law_back ⟨hx, hb, hr, hml, hown, hg, hX, hbl, hlocks, hK, hZ, hl9, hAA, hA, hbA⟩ (Nat.le_of_ble_eq_true rfl) (Nat.le_of_ble_eq_true rfl) hS (lv_sub hl [2, 6] rfl)
set_option maxHeartbeats 4000000 in
set_option maxRecDepth 100000 in
theorem lawS_6_5 {p : Program} {l : Launch} {e : Env} {s : State} {m : MethodId} {below : List Frame} {meth : Method} {c : Code} {b : Nat} {xs : Nat → Int32} {K : zK} {A : Nat → Prop} {H : Heap} {locs : List Loc} {ls : Array Slot} (C : zC p l s m meth c b xs K A) (qx qm qo : Nat) (u v : Nat → Nat) (h0 : ¬ xs 2 = (-1)) (h1 : (xs 2).toInt < 0) (hP : va_P K.1 classes (lwW K qx qm qo u v) H) (hD : va_D A (lwW K qx qm qo u v)) (hS : va_S A s.heap H locs) (hl : lv_has ls 7 [(4, .int 0), (3, .ref qo), (2, .ref qm), (1, .ref qx), (0, .ref b)]) : W p l e room_1 s m #[Value.ref b] below meth c H locs 124 1863516 (lw_Z below #[Value.ref b] s) (F0 m 544 ls []) := by
  obtain ⟨hx, hb, hr, hml, hown, hg, hX, hbl, hlocks, hK, hZ, hl9, hAA, hA, hbA⟩ := C
  have hP : va_P K.1 classes [(qx, zO 9 9 (zc0 u v)), ((u 0), zO 7 6 (zc1 u v)), (qm, zO 10 83 (zc71 u v)), (qo, zJ K 1 (fun _ => 0))] H := hP.sub [0, 1, 71, 123] rfl
  have hD : va_D A [(qx, zO 9 9 (zc0 u v)), ((u 0), zO 7 6 (zc1 u v)), (qm, zO 10 83 (zc71 u v)), (qo, zJ K 1 (fun _ => 0))] := hD.sub [0, 1, 71, 123] (by decide +kernel) rfl
  refine lv_aload_n hx hb dL_law_544 rfl (lv_at hl 3 rfl) ?_
  refine lv_aload_n hx hb dL_law_545 rfl (lv_at hl 4 rfl) ?_
  refine lv_iload hx hb dL_law_546 (lv_at hl 0 rfl) ?_
  refine lv_iconst (v := 1) hx hb dL_law_548 (by decide) ?_
  refine lv_iadd hx hb dL_law_549 ?_
  refine z_cst (v := 1) (by decide +kernel) ?_
  refine z_sld (v := (xs 1)) (j := 1) hx hb hX hbl hbA hS rfl (Nat.le_of_ble_eq_true rfl) rfl dL_law_550 ?_
  refine lv_aload_n hx hb dL_law_551 rfl (lv_at hl 4 rfl) ?_
  refine lv_iload hx hb dL_law_552 (lv_at hl 0 rfl) ?_
  refine lv_iconst (v := 2) hx hb dL_law_554 (by decide) ?_
  refine lv_iadd hx hb dL_law_555 ?_
  refine z_cst (v := 2) (by decide +kernel) ?_
  refine z_sld (v := (xs 2)) (j := 2) hx hb hX hbl hbA hS rfl (Nat.le_of_ble_eq_true rfl) rfl dL_law_556 ?_
  refine lv_aload_n hx hb dL_law_557 rfl (lv_at hl 4 rfl) ?_
  refine lv_iload hx hb dL_law_558 (lv_at hl 0 rfl) ?_
  refine lv_iconst (v := 3) hx hb dL_law_560 (by decide) ?_
  refine lv_iadd hx hb dL_law_561 ?_
  refine z_cst (v := 3) (by decide +kernel) ?_
  refine z_sld (v := (xs 3)) (j := 3) hx hb hX hbl hbA hS rfl (Nat.le_of_ble_eq_true rfl) rfl dL_law_562 ?_
  refine lv_aload_n hx hb dL_law_563 rfl (lv_at hl 1 rfl) ?_
  refine z_hcalli [(qx, zO 9 9 (zc0 u v)), ((u 0), zO 7 6 (zc1 u v))] [(qm, zO 10 83 (zc71 u v)), (qo, zJ K 1 (fun _ => 0))] [0, 1] [2, 3] hP hD hS hA rfl rfl (by decide +kernel) (by decide +kernel) (by decide +kernel) 125 1863522 rfl rfl (fun hPc hDc hF => z_xrunH (As := [.ref qx, .int (xs 1), .int (xs 2), .int (xs 3), .ref qo]) (rest := []) ⟨hx, hb, hml, hown, hg⟩ (cL_con_6 l hl9 K H.size qx qo (u 0) (zc0 u v) (zc1 u v) (xs 1) (xs 2) (xs 3) h0 (zc0_0 u v) (by rw [Int32.lt_iff_toInt_lt, show (0 : Int32).toInt = 0 from by decide]; omega)) kS_RL_125 hd_L_con rfl rfl ⟨(Nat.le_of_ble_eq_true rfl), (Nat.le_of_ble_eq_true rfl)⟩ hK hS hZ hPc hDc hF rfl hl.1 rfl (Nat.le_of_ble_eq_true rfl) dL_law_564 ⟨(Nat.le_of_ble_eq_true rfl), (Nat.le_of_ble_eq_true rfl)⟩) (fun r3 u1 H locs w2 hP hD hS => ?_)
  subst w2
  have hP : va_P K.1 classes [(qm, zO 10 83 (zc71 u v)), (qo, zJ K 1 (fun _ => 0))] H := hP
  have hD : va_D A [(qm, zO 10 83 (zc71 u v)), (qo, zJ K 1 (fun _ => 0))] := hD
  refine lv_istore (lv' := [(5, .int 1), (4, .int 0), (3, .ref qo), (2, .ref qm), (1, .ref qx), (0, .ref b)]) hx hb dL_law_567 hl (by decide) rfl (fun ls hl => ?_)
  refine lv_aload_n hx hb dL_law_569 rfl (lv_at hl 3 rfl) ?_
  refine lv_aload_n hx hb dL_law_570 rfl (lv_at hl 5 rfl) ?_
  refine lv_iload hx hb dL_law_571 (lv_at hl 1 rfl) ?_
  refine lv_iconst (v := 1) hx hb dL_law_573 (by decide) ?_
  refine lv_iadd hx hb dL_law_574 ?_
  refine z_cst (v := 1) (by decide +kernel) ?_
  refine z_sld (v := (xs 1)) (j := 1) hx hb hX hbl hbA hS rfl (Nat.le_of_ble_eq_true rfl) rfl dL_law_575 ?_
  refine lv_aload_n hx hb dL_law_576 rfl (lv_at hl 5 rfl) ?_
  refine lv_iload hx hb dL_law_577 (lv_at hl 1 rfl) ?_
  refine lv_iconst (v := 2) hx hb dL_law_579 (by decide) ?_
  refine lv_iadd hx hb dL_law_580 ?_
  refine z_cst (v := 2) (by decide +kernel) ?_
  refine z_sld (v := (xs 2)) (j := 2) hx hb hX hbl hbA hS rfl (Nat.le_of_ble_eq_true rfl) rfl dL_law_581 ?_
  refine lv_aload_n hx hb dL_law_582 rfl (lv_at hl 5 rfl) ?_
  refine lv_iload hx hb dL_law_583 (lv_at hl 1 rfl) ?_
  refine lv_iconst (v := 3) hx hb dL_law_585 (by decide) ?_
  refine lv_iadd hx hb dL_law_586 ?_
  refine z_cst (v := 3) (by decide +kernel) ?_
  refine z_sld (v := (xs 3)) (j := 3) hx hb hX hbl hbA hS rfl (Nat.le_of_ble_eq_true rfl) rfl dL_law_587 ?_
  refine z_calli [(qm, zO 10 83 (zc71 u v))] [(qo, zJ K 1 (fun _ => 0))] [0] [1] hP hD hS hA rfl rfl (by decide +kernel) (by decide +kernel) (by decide +kernel) 125 1863522 rfl rfl (fun hPc hDc hF => z_runV (As := [.int (xs 1), .int (xs 2), .int (xs 3)]) (rest := []) ⟨hx, hb, hml, hown, hg⟩ (cX12_con_6 l K H.size qm (zc71 u v) (xs 1) (xs 2) (xs 3) h0 (zc71_0 u v) (by rw [Int32.lt_iff_toInt_lt, show (0 : Int32).toInt = 0 from by decide]; omega)) kV_RL_127 hd_X12_con rfl rfl ⟨(Nat.le_of_ble_eq_true rfl), (Nat.le_of_ble_eq_true rfl)⟩ hK hS hZ hPc hDc hF 0 rfl rfl rfl hl.1 rfl (Nat.le_of_ble_eq_true rfl) dL_law_588 ⟨(Nat.le_of_ble_eq_true rfl), (Nat.le_of_ble_eq_true rfl)⟩) (fun r6 u4 H locs w5 hP hD hS => ?_)
  subst w5
  have hP : va_P K.1 classes [(qo, zJ K 1 (fun _ => 0)), (qm, zO 10 83 (va_up (zc71 u v) 81 (.int 1)))] H := hP
  have hD : va_D A [(qo, zJ K 1 (fun _ => 0)), (qm, zO 10 83 (va_up (zc71 u v) 81 (.int 1)))] := hD
  refine lv_istore (lv' := [(6, .int 0), (5, .int 1), (4, .int 0), (3, .ref qo), (2, .ref qm), (1, .ref qx), (0, .ref b)]) hx hb dL_law_591 hl (by decide) rfl (fun ls hl => ?_)
  refine lv_aload_n hx hb dL_law_593 rfl (lv_at hl 4 rfl) ?_
  refine z_calli [(qm, zO 10 83 (va_up (zc71 u v) 81 (.int 1)))] [(qo, zJ K 1 (fun _ => 0))] [1] [0] hP hD hS hA rfl rfl (by decide +kernel) (by decide +kernel) (by decide +kernel) 125 1863522 rfl rfl (fun hPc hDc hF => z_runV (As := []) (rest := []) ⟨hx, hb, hml, hown, hg⟩ (cX12_thrown_2 l K H.size qm (va_up (zc71 u v) 81 (.int 1)) zu_eq) kV_RL_104 hd_X12_thrown rfl rfl ⟨(Nat.le_of_ble_eq_true rfl), (Nat.le_of_ble_eq_true rfl)⟩ hK hS hZ hPc hDc hF 0 rfl rfl rfl hl.1 rfl (Nat.le_of_ble_eq_true rfl) dL_law_594 ⟨(Nat.le_of_ble_eq_true rfl), (Nat.le_of_ble_eq_true rfl)⟩) (fun r9 u7 H locs w8 hP hD hS => ?_)
  subst w8
  have hP : va_P K.1 classes [(qo, zJ K 1 (fun _ => 0)), (qm, zO 10 83 (va_up (zc71 u v) 81 (.int 1)))] H := hP
  have hD : va_D A [(qo, zJ K 1 (fun _ => 0)), (qm, zO 10 83 (va_up (zc71 u v) 81 (.int 1)))] := hD
  refine lv_iload hx hb dL_law_597 (lv_at hl 1 rfl) ?_
  refine lv_icmp_eq (tgt := 604) hx hb dL_law_599 (by decide) (fun _ => ?_) (fun c => absurd (by decide) c)
  refine lv_iload hx hb dL_law_604 (lv_at hl 1 rfl) ?_
  refine lv_if_ne (tgt := 621) hx hb dL_law_606 (by decide) (fun _ => ?_) (fun c => absurd c (by decide))
  refine lv_goto (tgt := 2026) hx hb dL_law_621 (by decide) ?_
  exact law_back ⟨hx, hb, hr, hml, hown, hg, hX, hbl, hlocks, hK, hZ, hl9, hAA, hA, hbA⟩ (Nat.le_of_ble_eq_true rfl) (Nat.le_of_ble_eq_true rfl) hS (lv_sub hl [2, 6] rfl)
set_option maxHeartbeats 4000000 in
set_option maxRecDepth 100000 in
theorem lawS_6_6 {p : Program} {l : Launch} {e : Env} {s : State} {m : MethodId} {below : List Frame} {meth : Method} {c : Code} {b : Nat} {xs : Nat → Int32} {K : zK} {A : Nat → Prop} {H : Heap} {locs : List Loc} {ls : Array Slot} (C : zC p l s m meth c b xs K A) (qx qm qo : Nat) (u v : Nat → Nat) (h0 : ¬ xs 2 = (-1)) (h1 : 0 ≤ (xs 2).toInt) (hP : va_P K.1 classes (lwW K qx qm qo u v) H) (hD : va_D A (lwW K qx qm qo u v)) (hS : va_S A s.heap H locs) (hl : lv_has ls 7 [(4, .int 0), (3, .ref qo), (2, .ref qm), (1, .ref qx), (0, .ref b)]) : W p l e room_1 s m #[Value.ref b] below meth c H locs 124 1863516 (lw_Z below #[Value.ref b] s) (F0 m 544 ls []) := by
  obtain ⟨hx, hb, hr, hml, hown, hg, hX, hbl, hlocks, hK, hZ, hl9, hAA, hA, hbA⟩ := C
  have hP : va_P K.1 classes [(qx, zO 9 9 (zc0 u v)), ((u 0), zO 7 6 (zc1 u v)), (qm, zO 10 83 (zc71 u v)), (qo, zJ K 1 (fun _ => 0))] H := hP.sub [0, 1, 71, 123] rfl
  have hD : va_D A [(qx, zO 9 9 (zc0 u v)), ((u 0), zO 7 6 (zc1 u v)), (qm, zO 10 83 (zc71 u v)), (qo, zJ K 1 (fun _ => 0))] := hD.sub [0, 1, 71, 123] (by decide +kernel) rfl
  refine lv_aload_n hx hb dL_law_544 rfl (lv_at hl 3 rfl) ?_
  refine lv_aload_n hx hb dL_law_545 rfl (lv_at hl 4 rfl) ?_
  refine lv_iload hx hb dL_law_546 (lv_at hl 0 rfl) ?_
  refine lv_iconst (v := 1) hx hb dL_law_548 (by decide) ?_
  refine lv_iadd hx hb dL_law_549 ?_
  refine z_cst (v := 1) (by decide +kernel) ?_
  refine z_sld (v := (xs 1)) (j := 1) hx hb hX hbl hbA hS rfl (Nat.le_of_ble_eq_true rfl) rfl dL_law_550 ?_
  refine lv_aload_n hx hb dL_law_551 rfl (lv_at hl 4 rfl) ?_
  refine lv_iload hx hb dL_law_552 (lv_at hl 0 rfl) ?_
  refine lv_iconst (v := 2) hx hb dL_law_554 (by decide) ?_
  refine lv_iadd hx hb dL_law_555 ?_
  refine z_cst (v := 2) (by decide +kernel) ?_
  refine z_sld (v := (xs 2)) (j := 2) hx hb hX hbl hbA hS rfl (Nat.le_of_ble_eq_true rfl) rfl dL_law_556 ?_
  refine lv_aload_n hx hb dL_law_557 rfl (lv_at hl 4 rfl) ?_
  refine lv_iload hx hb dL_law_558 (lv_at hl 0 rfl) ?_
  refine lv_iconst (v := 3) hx hb dL_law_560 (by decide) ?_
  refine lv_iadd hx hb dL_law_561 ?_
  refine z_cst (v := 3) (by decide +kernel) ?_
  refine z_sld (v := (xs 3)) (j := 3) hx hb hX hbl hbA hS rfl (Nat.le_of_ble_eq_true rfl) rfl dL_law_562 ?_
  refine lv_aload_n hx hb dL_law_563 rfl (lv_at hl 1 rfl) ?_
  refine z_hcalli [(qx, zO 9 9 (zc0 u v)), ((u 0), zO 7 6 (zc1 u v))] [(qm, zO 10 83 (zc71 u v)), (qo, zJ K 1 (fun _ => 0))] [0, 1] [2, 3] hP hD hS hA rfl rfl (by decide +kernel) (by decide +kernel) (by decide +kernel) 125 1863522 rfl rfl (fun hPc hDc hF => z_xrunH (As := [.ref qx, .int (xs 1), .int (xs 2), .int (xs 3), .ref qo]) (rest := []) ⟨hx, hb, hml, hown, hg⟩ (cL_con_7 l hl9 K H.size qx qo (u 0) (zc0 u v) (zc1 u v) (xs 1) (xs 2) (xs 3) (fun c9 => absurd (congrArg Int32.toInt c9) (by rw [show (-1 : Int32).toInt = -1 from by decide]; omega)) (zc0_0 u v) (by rw [Int32.lt_iff_toInt_lt, show (0 : Int32).toInt = 0 from by decide]; omega) (zc1_5 u v) (by rw [Int32.le_iff_toInt_le, show (0 : Int32).toInt = 0 from by decide]; omega)) kS_RL_125 hd_L_con rfl rfl ⟨(Nat.le_of_ble_eq_true rfl), (Nat.le_of_ble_eq_true rfl)⟩ hK hS hZ hPc hDc hF rfl hl.1 rfl (Nat.le_of_ble_eq_true rfl) dL_law_564 ⟨(Nat.le_of_ble_eq_true rfl), (Nat.le_of_ble_eq_true rfl)⟩) (fun r3 u1 H locs w2 hP hD hS => ?_)
  subst w2
  have hP : va_P K.1 classes [(qm, zO 10 83 (zc71 u v)), (qo, zJ K 1 (fun _ => 0))] H := hP
  have hD : va_D A [(qm, zO 10 83 (zc71 u v)), (qo, zJ K 1 (fun _ => 0))] := hD
  refine lv_istore (lv' := [(5, .int 1), (4, .int 0), (3, .ref qo), (2, .ref qm), (1, .ref qx), (0, .ref b)]) hx hb dL_law_567 hl (by decide) rfl (fun ls hl => ?_)
  refine lv_aload_n hx hb dL_law_569 rfl (lv_at hl 3 rfl) ?_
  refine lv_aload_n hx hb dL_law_570 rfl (lv_at hl 5 rfl) ?_
  refine lv_iload hx hb dL_law_571 (lv_at hl 1 rfl) ?_
  refine lv_iconst (v := 1) hx hb dL_law_573 (by decide) ?_
  refine lv_iadd hx hb dL_law_574 ?_
  refine z_cst (v := 1) (by decide +kernel) ?_
  refine z_sld (v := (xs 1)) (j := 1) hx hb hX hbl hbA hS rfl (Nat.le_of_ble_eq_true rfl) rfl dL_law_575 ?_
  refine lv_aload_n hx hb dL_law_576 rfl (lv_at hl 5 rfl) ?_
  refine lv_iload hx hb dL_law_577 (lv_at hl 1 rfl) ?_
  refine lv_iconst (v := 2) hx hb dL_law_579 (by decide) ?_
  refine lv_iadd hx hb dL_law_580 ?_
  refine z_cst (v := 2) (by decide +kernel) ?_
  refine z_sld (v := (xs 2)) (j := 2) hx hb hX hbl hbA hS rfl (Nat.le_of_ble_eq_true rfl) rfl dL_law_581 ?_
  refine lv_aload_n hx hb dL_law_582 rfl (lv_at hl 5 rfl) ?_
  refine lv_iload hx hb dL_law_583 (lv_at hl 1 rfl) ?_
  refine lv_iconst (v := 3) hx hb dL_law_585 (by decide) ?_
  refine lv_iadd hx hb dL_law_586 ?_
  refine z_cst (v := 3) (by decide +kernel) ?_
  refine z_sld (v := (xs 3)) (j := 3) hx hb hX hbl hbA hS rfl (Nat.le_of_ble_eq_true rfl) rfl dL_law_587 ?_
  refine z_calli [(qm, zO 10 83 (zc71 u v))] [(qo, zJ K 1 (fun _ => 0))] [0] [1] hP hD hS hA rfl rfl (by decide +kernel) (by decide +kernel) (by decide +kernel) 125 1863522 rfl rfl (fun hPc hDc hF => z_runV (As := [.int (xs 1), .int (xs 2), .int (xs 3)]) (rest := []) ⟨hx, hb, hml, hown, hg⟩ (cX12_con_7 l K H.size qm (zc71 u v) (xs 1) (xs 2) (xs 3) (fun c9 => absurd (congrArg Int32.toInt c9) (by rw [show (-1 : Int32).toInt = -1 from by decide]; omega)) (zc71_0 u v) (by rw [Int32.lt_iff_toInt_lt, show (0 : Int32).toInt = 0 from by decide]; omega) (by rw [Int32.lt_iff_toInt_lt, show (-1 : Int32).toInt = -1 from by decide]; omega)) kV_RL_127 hd_X12_con rfl rfl ⟨(Nat.le_of_ble_eq_true rfl), (Nat.le_of_ble_eq_true rfl)⟩ hK hS hZ hPc hDc hF 0 rfl rfl rfl hl.1 rfl (Nat.le_of_ble_eq_true rfl) dL_law_588 ⟨(Nat.le_of_ble_eq_true rfl), (Nat.le_of_ble_eq_true rfl)⟩) (fun r6 u4 H locs w5 hP hD hS => ?_)
  subst w5
  have hP : va_P K.1 classes [(qo, zJ K 1 (fun _ => 0)), (qm, zO 10 83 (va_up (zc71 u v) 81 (.int 1)))] H := hP
  have hD : va_D A [(qo, zJ K 1 (fun _ => 0)), (qm, zO 10 83 (va_up (zc71 u v) 81 (.int 1)))] := hD
  refine lv_istore (lv' := [(6, .int 0), (5, .int 1), (4, .int 0), (3, .ref qo), (2, .ref qm), (1, .ref qx), (0, .ref b)]) hx hb dL_law_591 hl (by decide) rfl (fun ls hl => ?_)
  refine lv_aload_n hx hb dL_law_593 rfl (lv_at hl 4 rfl) ?_
  refine z_calli [(qm, zO 10 83 (va_up (zc71 u v) 81 (.int 1)))] [(qo, zJ K 1 (fun _ => 0))] [1] [0] hP hD hS hA rfl rfl (by decide +kernel) (by decide +kernel) (by decide +kernel) 125 1863522 rfl rfl (fun hPc hDc hF => z_runV (As := []) (rest := []) ⟨hx, hb, hml, hown, hg⟩ (cX12_thrown_2 l K H.size qm (va_up (zc71 u v) 81 (.int 1)) zu_eq) kV_RL_104 hd_X12_thrown rfl rfl ⟨(Nat.le_of_ble_eq_true rfl), (Nat.le_of_ble_eq_true rfl)⟩ hK hS hZ hPc hDc hF 0 rfl rfl rfl hl.1 rfl (Nat.le_of_ble_eq_true rfl) dL_law_594 ⟨(Nat.le_of_ble_eq_true rfl), (Nat.le_of_ble_eq_true rfl)⟩) (fun r9 u7 H locs w8 hP hD hS => ?_)
  subst w8
  have hP : va_P K.1 classes [(qo, zJ K 1 (fun _ => 0)), (qm, zO 10 83 (va_up (zc71 u v) 81 (.int 1)))] H := hP
  have hD : va_D A [(qo, zJ K 1 (fun _ => 0)), (qm, zO 10 83 (va_up (zc71 u v) 81 (.int 1)))] := hD
  refine lv_iload hx hb dL_law_597 (lv_at hl 1 rfl) ?_
  refine lv_icmp_eq (tgt := 604) hx hb dL_law_599 (by decide) (fun _ => ?_) (fun c => absurd (by decide) c)
  refine lv_iload hx hb dL_law_604 (lv_at hl 1 rfl) ?_
  refine lv_if_ne (tgt := 621) hx hb dL_law_606 (by decide) (fun _ => ?_) (fun c => absurd c (by decide))
  refine lv_goto (tgt := 2026) hx hb dL_law_621 (by decide) ?_
  exact law_back ⟨hx, hb, hr, hml, hown, hg, hX, hbl, hlocks, hK, hZ, hl9, hAA, hA, hbA⟩ (Nat.le_of_ble_eq_true rfl) (Nat.le_of_ble_eq_true rfl) hS (lv_sub hl [2, 6] rfl)
theorem lawC_6 {p : Program} {l : Launch} {e : Env} {s : State} {m : MethodId} {below : List Frame} {meth : Method} {c : Code} {b : Nat} {xs : Nat → Int32} {K : zK} {A : Nat → Prop} {H : Heap} {locs : List Loc} {ls : Array Slot} (C : zC p l s m meth c b xs K A) (qx qm qo : Nat) (u v : Nat → Nat) (hP : va_P K.1 classes (lwW K qx qm qo u v) H) (hD : va_D A (lwW K qx qm qo u v)) (hS : va_S A s.heap H locs) (hl : lv_has ls 7 [(4, .int 0), (3, .ref qo), (2, .ref qm), (1, .ref qx), (0, .ref b)]) : W p l e room_1 s m #[Value.ref b] below meth c H locs 124 1863516 (lw_Z below #[Value.ref b] s) (F0 m 544 ls []) := by
  rcases Classical.em (xs 2 = (-1)) with h0 | h0
  · rcases Classical.em (xs 3 = (-1)) with h1 | h1
    · rcases z_split (xs 1) (0) with h2 | h2
      · exact lawS_6_0 C qx qm qo u v h0 h1 h2 hP hD hS hl
      · rcases z_split (xs 1) (4) with h3 | h3
        · exact lawS_6_1 C qx qm qo u v h0 h1 h2 h3 hP hD hS hl
        · exact lawS_6_2 C qx qm qo u v h0 h1 h2 h3 hP hD hS hl
    · rcases z_split (xs 3) (0) with h2 | h2
      · exact lawS_6_3 C qx qm qo u v h0 h1 h2 hP hD hS hl
      · exact lawS_6_4 C qx qm qo u v h0 h1 h2 hP hD hS hl
  · rcases z_split (xs 2) (0) with h1 | h1
    · exact lawS_6_5 C qx qm qo u v h0 h1 hP hD hS hl
    · exact lawS_6_6 C qx qm qo u v h0 h1 hP hD hS hl
set_option maxHeartbeats 4000000 in
set_option maxRecDepth 100000 in
theorem lawS_7_0 {p : Program} {l : Launch} {e : Env} {s : State} {m : MethodId} {below : List Frame} {meth : Method} {c : Code} {b : Nat} {xs : Nat → Int32} {K : zK} {A : Nat → Prop} {H : Heap} {locs : List Loc} {ls : Array Slot} (C : zC p l s m meth c b xs K A) (qx qm qo : Nat) (u v : Nat → Nat) (h0 : (xs 1).toInt < 0) (h1 : (xs 2).toInt < 0) (hP : va_P K.1 classes (lwW K qx qm qo u v) H) (hD : va_D A (lwW K qx qm qo u v)) (hS : va_S A s.heap H locs) (hl : lv_has ls 7 [(4, .int 0), (3, .ref qo), (2, .ref qm), (1, .ref qx), (0, .ref b)]) : W p l e room_1 s m #[Value.ref b] below meth c H locs 124 1863516 (lw_Z below #[Value.ref b] s) (F0 m 624 ls []) := by
  obtain ⟨hx, hb, hr, hml, hown, hg, hX, hbl, hlocks, hK, hZ, hl9, hAA, hA, hbA⟩ := C
  have hP : va_P K.1 classes [(qx, zO 9 9 (zc0 u v)), ((u 0), zO 7 6 (zc1 u v)), (qm, zO 10 83 (zc71 u v)), (qo, zJ K 1 (fun _ => 0))] H := hP.sub [0, 1, 71, 123] rfl
  have hD : va_D A [(qx, zO 9 9 (zc0 u v)), ((u 0), zO 7 6 (zc1 u v)), (qm, zO 10 83 (zc71 u v)), (qo, zJ K 1 (fun _ => 0))] := hD.sub [0, 1, 71, 123] (by decide +kernel) rfl
  refine lv_aload_n hx hb dL_law_624 rfl (lv_at hl 3 rfl) ?_
  refine lv_aload_n hx hb dL_law_625 rfl (lv_at hl 4 rfl) ?_
  refine lv_iload hx hb dL_law_626 (lv_at hl 0 rfl) ?_
  refine lv_iconst (v := 1) hx hb dL_law_628 (by decide) ?_
  refine lv_iadd hx hb dL_law_629 ?_
  refine z_cst (v := 1) (by decide +kernel) ?_
  refine z_sld (v := (xs 1)) (j := 1) hx hb hX hbl hbA hS rfl (Nat.le_of_ble_eq_true rfl) rfl dL_law_630 ?_
  refine lv_aload_n hx hb dL_law_631 rfl (lv_at hl 4 rfl) ?_
  refine lv_iload hx hb dL_law_632 (lv_at hl 0 rfl) ?_
  refine lv_iconst (v := 2) hx hb dL_law_634 (by decide) ?_
  refine lv_iadd hx hb dL_law_635 ?_
  refine z_cst (v := 2) (by decide +kernel) ?_
  refine z_sld (v := (xs 2)) (j := 2) hx hb hX hbl hbA hS rfl (Nat.le_of_ble_eq_true rfl) rfl dL_law_636 ?_
  refine lv_aload_n hx hb dL_law_637 rfl (lv_at hl 4 rfl) ?_
  refine lv_iload hx hb dL_law_638 (lv_at hl 0 rfl) ?_
  refine lv_iconst (v := 3) hx hb dL_law_640 (by decide) ?_
  refine lv_iadd hx hb dL_law_641 ?_
  refine z_cst (v := 3) (by decide +kernel) ?_
  refine z_sld (v := (xs 3)) (j := 3) hx hb hX hbl hbA hS rfl (Nat.le_of_ble_eq_true rfl) rfl dL_law_642 ?_
  refine lv_aload_n hx hb dL_law_643 rfl (lv_at hl 4 rfl) ?_
  refine lv_iload hx hb dL_law_644 (lv_at hl 0 rfl) ?_
  refine lv_iconst (v := 4) hx hb dL_law_646 (by decide) ?_
  refine lv_iadd hx hb dL_law_647 ?_
  refine z_cst (v := 4) (by decide +kernel) ?_
  refine z_sld (v := (xs 4)) (j := 4) hx hb hX hbl hbA hS rfl (Nat.le_of_ble_eq_true rfl) rfl dL_law_648 ?_
  refine lv_aload_n hx hb dL_law_649 rfl (lv_at hl 4 rfl) ?_
  refine lv_iload hx hb dL_law_650 (lv_at hl 0 rfl) ?_
  refine lv_iconst (v := 5) hx hb dL_law_652 (by decide) ?_
  refine lv_iadd hx hb dL_law_653 ?_
  refine z_cst (v := 5) (by decide +kernel) ?_
  refine z_sld (v := (xs 5)) (j := 5) hx hb hX hbl hbA hS rfl (Nat.le_of_ble_eq_true rfl) rfl dL_law_654 ?_
  refine lv_aload_n hx hb dL_law_655 rfl (lv_at hl 4 rfl) ?_
  refine lv_iload hx hb dL_law_656 (lv_at hl 0 rfl) ?_
  refine lv_bipush (v := 6) hx hb dL_law_658 (by decide) ?_
  refine lv_iadd hx hb dL_law_660 ?_
  refine z_cst (v := 6) (by decide +kernel) ?_
  refine z_sld (v := (xs 6)) (j := 6) hx hb hX hbl hbA hS rfl (Nat.le_of_ble_eq_true rfl) rfl dL_law_661 ?_
  refine lv_aload_n hx hb dL_law_662 rfl (lv_at hl 1 rfl) ?_
  refine z_hcalli [(qx, zO 9 9 (zc0 u v)), ((u 0), zO 7 6 (zc1 u v))] [(qm, zO 10 83 (zc71 u v)), (qo, zJ K 1 (fun _ => 0))] [0, 1] [2, 3] hP hD hS hA rfl rfl (by decide +kernel) (by decide +kernel) (by decide +kernel) 125 1863522 rfl rfl (fun hPc hDc hF => z_xrunH (As := [.ref qx, .int (xs 1), .int (xs 2), .int (xs 3), .int (xs 4), .int (xs 5), .int (xs 6), .ref qo]) (rest := []) ⟨hx, hb, hml, hown, hg⟩ (cL_match_1 l hl9 K H.size qx qo (u 0) (zc0 u v) (zc1 u v) (xs 1) (xs 2) (xs 3) (xs 4) (xs 5) (xs 6) (zc0_0 u v) (by rw [Int32.lt_iff_toInt_lt, show (0 : Int32).toInt = 0 from by decide]; omega)) kS_RL_128 hd_L_match rfl rfl ⟨(Nat.le_of_ble_eq_true rfl), (Nat.le_of_ble_eq_true rfl)⟩ hK hS hZ hPc hDc hF rfl hl.1 rfl (Nat.le_of_ble_eq_true rfl) dL_law_663 ⟨(Nat.le_of_ble_eq_true rfl), (Nat.le_of_ble_eq_true rfl)⟩) (fun r3 u1 H locs w2 hP hD hS => ?_)
  subst w2
  have hP : va_P K.1 classes [(qm, zO 10 83 (zc71 u v)), (qo, zJ K 1 (fun _ => 0))] H := hP
  have hD : va_D A [(qm, zO 10 83 (zc71 u v)), (qo, zJ K 1 (fun _ => 0))] := hD
  refine lv_istore (lv' := [(5, .int 1), (4, .int 0), (3, .ref qo), (2, .ref qm), (1, .ref qx), (0, .ref b)]) hx hb dL_law_666 hl (by decide) rfl (fun ls hl => ?_)
  refine lv_aload_n hx hb dL_law_668 rfl (lv_at hl 3 rfl) ?_
  refine lv_aload_n hx hb dL_law_669 rfl (lv_at hl 5 rfl) ?_
  refine lv_iload hx hb dL_law_670 (lv_at hl 1 rfl) ?_
  refine lv_iconst (v := 1) hx hb dL_law_672 (by decide) ?_
  refine lv_iadd hx hb dL_law_673 ?_
  refine z_cst (v := 1) (by decide +kernel) ?_
  refine z_sld (v := (xs 1)) (j := 1) hx hb hX hbl hbA hS rfl (Nat.le_of_ble_eq_true rfl) rfl dL_law_674 ?_
  refine lv_aload_n hx hb dL_law_675 rfl (lv_at hl 5 rfl) ?_
  refine lv_iload hx hb dL_law_676 (lv_at hl 1 rfl) ?_
  refine lv_iconst (v := 2) hx hb dL_law_678 (by decide) ?_
  refine lv_iadd hx hb dL_law_679 ?_
  refine z_cst (v := 2) (by decide +kernel) ?_
  refine z_sld (v := (xs 2)) (j := 2) hx hb hX hbl hbA hS rfl (Nat.le_of_ble_eq_true rfl) rfl dL_law_680 ?_
  refine lv_aload_n hx hb dL_law_681 rfl (lv_at hl 5 rfl) ?_
  refine lv_iload hx hb dL_law_682 (lv_at hl 1 rfl) ?_
  refine lv_iconst (v := 3) hx hb dL_law_684 (by decide) ?_
  refine lv_iadd hx hb dL_law_685 ?_
  refine z_cst (v := 3) (by decide +kernel) ?_
  refine z_sld (v := (xs 3)) (j := 3) hx hb hX hbl hbA hS rfl (Nat.le_of_ble_eq_true rfl) rfl dL_law_686 ?_
  refine lv_aload_n hx hb dL_law_687 rfl (lv_at hl 5 rfl) ?_
  refine lv_iload hx hb dL_law_688 (lv_at hl 1 rfl) ?_
  refine lv_iconst (v := 4) hx hb dL_law_690 (by decide) ?_
  refine lv_iadd hx hb dL_law_691 ?_
  refine z_cst (v := 4) (by decide +kernel) ?_
  refine z_sld (v := (xs 4)) (j := 4) hx hb hX hbl hbA hS rfl (Nat.le_of_ble_eq_true rfl) rfl dL_law_692 ?_
  refine lv_aload_n hx hb dL_law_693 rfl (lv_at hl 5 rfl) ?_
  refine lv_iload hx hb dL_law_694 (lv_at hl 1 rfl) ?_
  refine lv_iconst (v := 5) hx hb dL_law_696 (by decide) ?_
  refine lv_iadd hx hb dL_law_697 ?_
  refine z_cst (v := 5) (by decide +kernel) ?_
  refine z_sld (v := (xs 5)) (j := 5) hx hb hX hbl hbA hS rfl (Nat.le_of_ble_eq_true rfl) rfl dL_law_698 ?_
  refine lv_aload_n hx hb dL_law_699 rfl (lv_at hl 5 rfl) ?_
  refine lv_iload hx hb dL_law_700 (lv_at hl 1 rfl) ?_
  refine lv_bipush (v := 6) hx hb dL_law_702 (by decide) ?_
  refine lv_iadd hx hb dL_law_704 ?_
  refine z_cst (v := 6) (by decide +kernel) ?_
  refine z_sld (v := (xs 6)) (j := 6) hx hb hX hbl hbA hS rfl (Nat.le_of_ble_eq_true rfl) rfl dL_law_705 ?_
  refine z_calli [(qm, zO 10 83 (zc71 u v))] [(qo, zJ K 1 (fun _ => 0))] [0] [1] hP hD hS hA rfl rfl (by decide +kernel) (by decide +kernel) (by decide +kernel) 125 1863522 rfl rfl (fun hPc hDc hF => z_runV (As := [.int (xs 1), .int (xs 2), .int (xs 3), .int (xs 4), .int (xs 5), .int (xs 6)]) (rest := []) ⟨hx, hb, hml, hown, hg⟩ (cX12_match_1 l K H.size qm (zc71 u v) (xs 1) (xs 2) (xs 3) (xs 4) (xs 5) (xs 6) (zc71_0 u v) (by rw [Int32.lt_iff_toInt_lt, show (0 : Int32).toInt = 0 from by decide]; omega) (by rw [Int32.lt_iff_toInt_lt, show (0 : Int32).toInt = 0 from by decide]; omega)) kV_RL_131 hd_X12_match rfl rfl ⟨(Nat.le_of_ble_eq_true rfl), (Nat.le_of_ble_eq_true rfl)⟩ hK hS hZ hPc hDc hF 0 rfl rfl rfl hl.1 rfl (Nat.le_of_ble_eq_true rfl) dL_law_706 ⟨(Nat.le_of_ble_eq_true rfl), (Nat.le_of_ble_eq_true rfl)⟩) (fun r6 u4 H locs w5 hP hD hS => ?_)
  subst w5
  have hP : va_P K.1 classes [(qo, zJ K 1 (fun _ => 0)), (qm, zO 10 83 (va_up (zc71 u v) 81 (.int 1)))] H := hP
  have hD : va_D A [(qo, zJ K 1 (fun _ => 0)), (qm, zO 10 83 (va_up (zc71 u v) 81 (.int 1)))] := hD
  refine lv_istore (lv' := [(6, .int 0), (5, .int 1), (4, .int 0), (3, .ref qo), (2, .ref qm), (1, .ref qx), (0, .ref b)]) hx hb dL_law_709 hl (by decide) rfl (fun ls hl => ?_)
  refine lv_aload_n hx hb dL_law_711 rfl (lv_at hl 4 rfl) ?_
  refine z_calli [(qm, zO 10 83 (va_up (zc71 u v) 81 (.int 1)))] [(qo, zJ K 1 (fun _ => 0))] [1] [0] hP hD hS hA rfl rfl (by decide +kernel) (by decide +kernel) (by decide +kernel) 125 1863522 rfl rfl (fun hPc hDc hF => z_runV (As := []) (rest := []) ⟨hx, hb, hml, hown, hg⟩ (cX12_thrown_2 l K H.size qm (va_up (zc71 u v) 81 (.int 1)) zu_eq) kV_RL_104 hd_X12_thrown rfl rfl ⟨(Nat.le_of_ble_eq_true rfl), (Nat.le_of_ble_eq_true rfl)⟩ hK hS hZ hPc hDc hF 0 rfl rfl rfl hl.1 rfl (Nat.le_of_ble_eq_true rfl) dL_law_712 ⟨(Nat.le_of_ble_eq_true rfl), (Nat.le_of_ble_eq_true rfl)⟩) (fun r9 u7 H locs w8 hP hD hS => ?_)
  subst w8
  have hP : va_P K.1 classes [(qo, zJ K 1 (fun _ => 0)), (qm, zO 10 83 (va_up (zc71 u v) 81 (.int 1)))] H := hP
  have hD : va_D A [(qo, zJ K 1 (fun _ => 0)), (qm, zO 10 83 (va_up (zc71 u v) 81 (.int 1)))] := hD
  refine lv_iload hx hb dL_law_715 (lv_at hl 1 rfl) ?_
  refine lv_icmp_eq (tgt := 722) hx hb dL_law_717 (by decide) (fun _ => ?_) (fun c => absurd (by decide) c)
  refine lv_iload hx hb dL_law_722 (lv_at hl 1 rfl) ?_
  refine lv_if_ne (tgt := 739) hx hb dL_law_724 (by decide) (fun _ => ?_) (fun c => absurd c (by decide))
  refine lv_goto (tgt := 2026) hx hb dL_law_739 (by decide) ?_
  exact law_back ⟨hx, hb, hr, hml, hown, hg, hX, hbl, hlocks, hK, hZ, hl9, hAA, hA, hbA⟩ (Nat.le_of_ble_eq_true rfl) (Nat.le_of_ble_eq_true rfl) hS (lv_sub hl [2, 6] rfl)
set_option maxHeartbeats 4000000 in
set_option maxRecDepth 100000 in
theorem lawS_7_1 {p : Program} {l : Launch} {e : Env} {s : State} {m : MethodId} {below : List Frame} {meth : Method} {c : Code} {b : Nat} {xs : Nat → Int32} {K : zK} {A : Nat → Prop} {H : Heap} {locs : List Loc} {ls : Array Slot} (C : zC p l s m meth c b xs K A) (qx qm qo : Nat) (u v : Nat → Nat) (h0 : (xs 1).toInt < 0) (h1 : 0 ≤ (xs 2).toInt) (h2 : (xs 2).toInt < 4) (h3 : (xs 3).toInt < 0) (hP : va_P K.1 classes (lwW K qx qm qo u v) H) (hD : va_D A (lwW K qx qm qo u v)) (hS : va_S A s.heap H locs) (hl : lv_has ls 7 [(4, .int 0), (3, .ref qo), (2, .ref qm), (1, .ref qx), (0, .ref b)]) : W p l e room_1 s m #[Value.ref b] below meth c H locs 124 1863516 (lw_Z below #[Value.ref b] s) (F0 m 624 ls []) := by
  obtain ⟨hx, hb, hr, hml, hown, hg, hX, hbl, hlocks, hK, hZ, hl9, hAA, hA, hbA⟩ := C
  have hP : va_P K.1 classes [(qx, zO 9 9 (zc0 u v)), ((u 0), zO 7 6 (zc1 u v)), (qm, zO 10 83 (zc71 u v)), (qo, zJ K 1 (fun _ => 0))] H := hP.sub [0, 1, 71, 123] rfl
  have hD : va_D A [(qx, zO 9 9 (zc0 u v)), ((u 0), zO 7 6 (zc1 u v)), (qm, zO 10 83 (zc71 u v)), (qo, zJ K 1 (fun _ => 0))] := hD.sub [0, 1, 71, 123] (by decide +kernel) rfl
  obtain ⟨t2, ht2, v2⟩ : ∃ j : Nat, j < 4 ∧ xs 2 = nI j := z_nat (n := 4) (by omega) (by omega) (by decide)
  refine lv_aload_n hx hb dL_law_624 rfl (lv_at hl 3 rfl) ?_
  refine lv_aload_n hx hb dL_law_625 rfl (lv_at hl 4 rfl) ?_
  refine lv_iload hx hb dL_law_626 (lv_at hl 0 rfl) ?_
  refine lv_iconst (v := 1) hx hb dL_law_628 (by decide) ?_
  refine lv_iadd hx hb dL_law_629 ?_
  refine z_cst (v := 1) (by decide +kernel) ?_
  refine z_sld (v := (xs 1)) (j := 1) hx hb hX hbl hbA hS rfl (Nat.le_of_ble_eq_true rfl) rfl dL_law_630 ?_
  refine lv_aload_n hx hb dL_law_631 rfl (lv_at hl 4 rfl) ?_
  refine lv_iload hx hb dL_law_632 (lv_at hl 0 rfl) ?_
  refine lv_iconst (v := 2) hx hb dL_law_634 (by decide) ?_
  refine lv_iadd hx hb dL_law_635 ?_
  refine z_cst (v := 2) (by decide +kernel) ?_
  refine z_sld (v := (nI t2)) (j := 2) hx hb hX hbl hbA hS rfl (Nat.le_of_ble_eq_true rfl) v2 dL_law_636 ?_
  refine lv_aload_n hx hb dL_law_637 rfl (lv_at hl 4 rfl) ?_
  refine lv_iload hx hb dL_law_638 (lv_at hl 0 rfl) ?_
  refine lv_iconst (v := 3) hx hb dL_law_640 (by decide) ?_
  refine lv_iadd hx hb dL_law_641 ?_
  refine z_cst (v := 3) (by decide +kernel) ?_
  refine z_sld (v := (xs 3)) (j := 3) hx hb hX hbl hbA hS rfl (Nat.le_of_ble_eq_true rfl) rfl dL_law_642 ?_
  refine lv_aload_n hx hb dL_law_643 rfl (lv_at hl 4 rfl) ?_
  refine lv_iload hx hb dL_law_644 (lv_at hl 0 rfl) ?_
  refine lv_iconst (v := 4) hx hb dL_law_646 (by decide) ?_
  refine lv_iadd hx hb dL_law_647 ?_
  refine z_cst (v := 4) (by decide +kernel) ?_
  refine z_sld (v := (xs 4)) (j := 4) hx hb hX hbl hbA hS rfl (Nat.le_of_ble_eq_true rfl) rfl dL_law_648 ?_
  refine lv_aload_n hx hb dL_law_649 rfl (lv_at hl 4 rfl) ?_
  refine lv_iload hx hb dL_law_650 (lv_at hl 0 rfl) ?_
  refine lv_iconst (v := 5) hx hb dL_law_652 (by decide) ?_
  refine lv_iadd hx hb dL_law_653 ?_
  refine z_cst (v := 5) (by decide +kernel) ?_
  refine z_sld (v := (xs 5)) (j := 5) hx hb hX hbl hbA hS rfl (Nat.le_of_ble_eq_true rfl) rfl dL_law_654 ?_
  refine lv_aload_n hx hb dL_law_655 rfl (lv_at hl 4 rfl) ?_
  refine lv_iload hx hb dL_law_656 (lv_at hl 0 rfl) ?_
  refine lv_bipush (v := 6) hx hb dL_law_658 (by decide) ?_
  refine lv_iadd hx hb dL_law_660 ?_
  refine z_cst (v := 6) (by decide +kernel) ?_
  refine z_sld (v := (xs 6)) (j := 6) hx hb hX hbl hbA hS rfl (Nat.le_of_ble_eq_true rfl) rfl dL_law_661 ?_
  refine lv_aload_n hx hb dL_law_662 rfl (lv_at hl 1 rfl) ?_
  refine z_hcalli [(qx, zO 9 9 (zc0 u v)), ((u 0), zO 7 6 (zc1 u v))] [(qm, zO 10 83 (zc71 u v)), (qo, zJ K 1 (fun _ => 0))] [0, 1] [2, 3] hP hD hS hA rfl rfl (by decide +kernel) (by decide +kernel) (by decide +kernel) 125 1863522 rfl rfl (fun hPc hDc hF => z_xrunH (As := [.ref qx, .int (xs 1), .int (nI t2), .int (xs 3), .int (xs 4), .int (xs 5), .int (xs 6), .ref qo]) (rest := []) ⟨hx, hb, hml, hown, hg⟩ (cL_match_2 l hl9 K H.size qx qo (u 0) (zc0 u v) (zc1 u v) (xs 1) t2 ht2 (xs 3) (xs 4) (xs 5) (xs 6) (zc0_0 u v) (by rw [Int32.lt_iff_toInt_lt, show (0 : Int32).toInt = 0 from by decide]; omega)) kS_RL_128 hd_L_match rfl rfl ⟨(Nat.le_of_ble_eq_true rfl), (Nat.le_of_ble_eq_true rfl)⟩ hK hS hZ hPc hDc hF rfl hl.1 rfl (Nat.le_of_ble_eq_true rfl) dL_law_663 ⟨(Nat.le_of_ble_eq_true rfl), (Nat.le_of_ble_eq_true rfl)⟩) (fun r3 u1 H locs w2 hP hD hS => ?_)
  subst w2
  have hP : va_P K.1 classes [(qm, zO 10 83 (zc71 u v)), (qo, zJ K 1 (fun _ => 0))] H := hP
  have hD : va_D A [(qm, zO 10 83 (zc71 u v)), (qo, zJ K 1 (fun _ => 0))] := hD
  refine lv_istore (lv' := [(5, .int 1), (4, .int 0), (3, .ref qo), (2, .ref qm), (1, .ref qx), (0, .ref b)]) hx hb dL_law_666 hl (by decide) rfl (fun ls hl => ?_)
  refine lv_aload_n hx hb dL_law_668 rfl (lv_at hl 3 rfl) ?_
  refine lv_aload_n hx hb dL_law_669 rfl (lv_at hl 5 rfl) ?_
  refine lv_iload hx hb dL_law_670 (lv_at hl 1 rfl) ?_
  refine lv_iconst (v := 1) hx hb dL_law_672 (by decide) ?_
  refine lv_iadd hx hb dL_law_673 ?_
  refine z_cst (v := 1) (by decide +kernel) ?_
  refine z_sld (v := (xs 1)) (j := 1) hx hb hX hbl hbA hS rfl (Nat.le_of_ble_eq_true rfl) rfl dL_law_674 ?_
  refine lv_aload_n hx hb dL_law_675 rfl (lv_at hl 5 rfl) ?_
  refine lv_iload hx hb dL_law_676 (lv_at hl 1 rfl) ?_
  refine lv_iconst (v := 2) hx hb dL_law_678 (by decide) ?_
  refine lv_iadd hx hb dL_law_679 ?_
  refine z_cst (v := 2) (by decide +kernel) ?_
  refine z_sld (v := (nI t2)) (j := 2) hx hb hX hbl hbA hS rfl (Nat.le_of_ble_eq_true rfl) v2 dL_law_680 ?_
  refine lv_aload_n hx hb dL_law_681 rfl (lv_at hl 5 rfl) ?_
  refine lv_iload hx hb dL_law_682 (lv_at hl 1 rfl) ?_
  refine lv_iconst (v := 3) hx hb dL_law_684 (by decide) ?_
  refine lv_iadd hx hb dL_law_685 ?_
  refine z_cst (v := 3) (by decide +kernel) ?_
  refine z_sld (v := (xs 3)) (j := 3) hx hb hX hbl hbA hS rfl (Nat.le_of_ble_eq_true rfl) rfl dL_law_686 ?_
  refine lv_aload_n hx hb dL_law_687 rfl (lv_at hl 5 rfl) ?_
  refine lv_iload hx hb dL_law_688 (lv_at hl 1 rfl) ?_
  refine lv_iconst (v := 4) hx hb dL_law_690 (by decide) ?_
  refine lv_iadd hx hb dL_law_691 ?_
  refine z_cst (v := 4) (by decide +kernel) ?_
  refine z_sld (v := (xs 4)) (j := 4) hx hb hX hbl hbA hS rfl (Nat.le_of_ble_eq_true rfl) rfl dL_law_692 ?_
  refine lv_aload_n hx hb dL_law_693 rfl (lv_at hl 5 rfl) ?_
  refine lv_iload hx hb dL_law_694 (lv_at hl 1 rfl) ?_
  refine lv_iconst (v := 5) hx hb dL_law_696 (by decide) ?_
  refine lv_iadd hx hb dL_law_697 ?_
  refine z_cst (v := 5) (by decide +kernel) ?_
  refine z_sld (v := (xs 5)) (j := 5) hx hb hX hbl hbA hS rfl (Nat.le_of_ble_eq_true rfl) rfl dL_law_698 ?_
  refine lv_aload_n hx hb dL_law_699 rfl (lv_at hl 5 rfl) ?_
  refine lv_iload hx hb dL_law_700 (lv_at hl 1 rfl) ?_
  refine lv_bipush (v := 6) hx hb dL_law_702 (by decide) ?_
  refine lv_iadd hx hb dL_law_704 ?_
  refine z_cst (v := 6) (by decide +kernel) ?_
  refine z_sld (v := (xs 6)) (j := 6) hx hb hX hbl hbA hS rfl (Nat.le_of_ble_eq_true rfl) rfl dL_law_705 ?_
  refine z_calli [(qm, zO 10 83 (zc71 u v))] [(qo, zJ K 1 (fun _ => 0))] [0] [1] hP hD hS hA rfl rfl (by decide +kernel) (by decide +kernel) (by decide +kernel) 125 1863522 rfl rfl (fun hPc hDc hF => z_runV (As := [.int (xs 1), .int (nI t2), .int (xs 3), .int (xs 4), .int (xs 5), .int (xs 6)]) (rest := []) ⟨hx, hb, hml, hown, hg⟩ (cX12_match_2 l K H.size qm (zc71 u v) (xs 1) t2 ht2 (xs 3) (xs 4) (xs 5) (xs 6) (zc71_0 u v) (by rw [Int32.lt_iff_toInt_lt, show (0 : Int32).toInt = 0 from by decide]; omega) (by rw [Int32.lt_iff_toInt_lt, show (0 : Int32).toInt = 0 from by decide]; omega)) kV_RL_131 hd_X12_match rfl rfl ⟨(Nat.le_of_ble_eq_true rfl), (Nat.le_of_ble_eq_true rfl)⟩ hK hS hZ hPc hDc hF 0 rfl rfl rfl hl.1 rfl (Nat.le_of_ble_eq_true rfl) dL_law_706 ⟨(Nat.le_of_ble_eq_true rfl), (Nat.le_of_ble_eq_true rfl)⟩) (fun r6 u4 H locs w5 hP hD hS => ?_)
  subst w5
  have hP : va_P K.1 classes [(qo, zJ K 1 (fun _ => 0)), (qm, zO 10 83 (va_up (zc71 u v) 81 (.int 1)))] H := hP
  have hD : va_D A [(qo, zJ K 1 (fun _ => 0)), (qm, zO 10 83 (va_up (zc71 u v) 81 (.int 1)))] := hD
  refine lv_istore (lv' := [(6, .int 0), (5, .int 1), (4, .int 0), (3, .ref qo), (2, .ref qm), (1, .ref qx), (0, .ref b)]) hx hb dL_law_709 hl (by decide) rfl (fun ls hl => ?_)
  refine lv_aload_n hx hb dL_law_711 rfl (lv_at hl 4 rfl) ?_
  refine z_calli [(qm, zO 10 83 (va_up (zc71 u v) 81 (.int 1)))] [(qo, zJ K 1 (fun _ => 0))] [1] [0] hP hD hS hA rfl rfl (by decide +kernel) (by decide +kernel) (by decide +kernel) 125 1863522 rfl rfl (fun hPc hDc hF => z_runV (As := []) (rest := []) ⟨hx, hb, hml, hown, hg⟩ (cX12_thrown_2 l K H.size qm (va_up (zc71 u v) 81 (.int 1)) zu_eq) kV_RL_104 hd_X12_thrown rfl rfl ⟨(Nat.le_of_ble_eq_true rfl), (Nat.le_of_ble_eq_true rfl)⟩ hK hS hZ hPc hDc hF 0 rfl rfl rfl hl.1 rfl (Nat.le_of_ble_eq_true rfl) dL_law_712 ⟨(Nat.le_of_ble_eq_true rfl), (Nat.le_of_ble_eq_true rfl)⟩) (fun r9 u7 H locs w8 hP hD hS => ?_)
  subst w8
  have hP : va_P K.1 classes [(qo, zJ K 1 (fun _ => 0)), (qm, zO 10 83 (va_up (zc71 u v) 81 (.int 1)))] H := hP
  have hD : va_D A [(qo, zJ K 1 (fun _ => 0)), (qm, zO 10 83 (va_up (zc71 u v) 81 (.int 1)))] := hD
  refine lv_iload hx hb dL_law_715 (lv_at hl 1 rfl) ?_
  refine lv_icmp_eq (tgt := 722) hx hb dL_law_717 (by decide) (fun _ => ?_) (fun c => absurd (by decide) c)
  refine lv_iload hx hb dL_law_722 (lv_at hl 1 rfl) ?_
  refine lv_if_ne (tgt := 739) hx hb dL_law_724 (by decide) (fun _ => ?_) (fun c => absurd c (by decide))
  refine lv_goto (tgt := 2026) hx hb dL_law_739 (by decide) ?_
  exact law_back ⟨hx, hb, hr, hml, hown, hg, hX, hbl, hlocks, hK, hZ, hl9, hAA, hA, hbA⟩ (Nat.le_of_ble_eq_true rfl) (Nat.le_of_ble_eq_true rfl) hS (lv_sub hl [2, 6] rfl)
set_option maxHeartbeats 4000000 in
set_option maxRecDepth 100000 in
theorem lawS_7_2 {p : Program} {l : Launch} {e : Env} {s : State} {m : MethodId} {below : List Frame} {meth : Method} {c : Code} {b : Nat} {xs : Nat → Int32} {K : zK} {A : Nat → Prop} {H : Heap} {locs : List Loc} {ls : Array Slot} (C : zC p l s m meth c b xs K A) (qx qm qo : Nat) (u v : Nat → Nat) (h0 : (xs 1).toInt < 0) (h1 : 0 ≤ (xs 2).toInt) (h2 : (xs 2).toInt < 4) (h3 : 0 ≤ (xs 3).toInt) (h4 : (xs 3).toInt < 16) (h5 : (xs 4).toInt < 0) (hP : va_P K.1 classes (lwW K qx qm qo u v) H) (hD : va_D A (lwW K qx qm qo u v)) (hS : va_S A s.heap H locs) (hl : lv_has ls 7 [(4, .int 0), (3, .ref qo), (2, .ref qm), (1, .ref qx), (0, .ref b)]) : W p l e room_1 s m #[Value.ref b] below meth c H locs 124 1863516 (lw_Z below #[Value.ref b] s) (F0 m 624 ls []) := by
  obtain ⟨hx, hb, hr, hml, hown, hg, hX, hbl, hlocks, hK, hZ, hl9, hAA, hA, hbA⟩ := C
  have hP : va_P K.1 classes [(qx, zO 9 9 (zc0 u v)), ((u 0), zO 7 6 (zc1 u v)), (qm, zO 10 83 (zc71 u v)), (qo, zJ K 1 (fun _ => 0))] H := hP.sub [0, 1, 71, 123] rfl
  have hD : va_D A [(qx, zO 9 9 (zc0 u v)), ((u 0), zO 7 6 (zc1 u v)), (qm, zO 10 83 (zc71 u v)), (qo, zJ K 1 (fun _ => 0))] := hD.sub [0, 1, 71, 123] (by decide +kernel) rfl
  obtain ⟨t2, ht2, v2⟩ : ∃ j : Nat, j < 4 ∧ xs 2 = nI j := z_nat (n := 4) (by omega) (by omega) (by decide)
  obtain ⟨t3, ht3, v3⟩ : ∃ j : Nat, j < 16 ∧ xs 3 = nI j := z_nat (n := 16) (by omega) (by omega) (by decide)
  refine lv_aload_n hx hb dL_law_624 rfl (lv_at hl 3 rfl) ?_
  refine lv_aload_n hx hb dL_law_625 rfl (lv_at hl 4 rfl) ?_
  refine lv_iload hx hb dL_law_626 (lv_at hl 0 rfl) ?_
  refine lv_iconst (v := 1) hx hb dL_law_628 (by decide) ?_
  refine lv_iadd hx hb dL_law_629 ?_
  refine z_cst (v := 1) (by decide +kernel) ?_
  refine z_sld (v := (xs 1)) (j := 1) hx hb hX hbl hbA hS rfl (Nat.le_of_ble_eq_true rfl) rfl dL_law_630 ?_
  refine lv_aload_n hx hb dL_law_631 rfl (lv_at hl 4 rfl) ?_
  refine lv_iload hx hb dL_law_632 (lv_at hl 0 rfl) ?_
  refine lv_iconst (v := 2) hx hb dL_law_634 (by decide) ?_
  refine lv_iadd hx hb dL_law_635 ?_
  refine z_cst (v := 2) (by decide +kernel) ?_
  refine z_sld (v := (nI t2)) (j := 2) hx hb hX hbl hbA hS rfl (Nat.le_of_ble_eq_true rfl) v2 dL_law_636 ?_
  refine lv_aload_n hx hb dL_law_637 rfl (lv_at hl 4 rfl) ?_
  refine lv_iload hx hb dL_law_638 (lv_at hl 0 rfl) ?_
  refine lv_iconst (v := 3) hx hb dL_law_640 (by decide) ?_
  refine lv_iadd hx hb dL_law_641 ?_
  refine z_cst (v := 3) (by decide +kernel) ?_
  refine z_sld (v := (nI t3)) (j := 3) hx hb hX hbl hbA hS rfl (Nat.le_of_ble_eq_true rfl) v3 dL_law_642 ?_
  refine lv_aload_n hx hb dL_law_643 rfl (lv_at hl 4 rfl) ?_
  refine lv_iload hx hb dL_law_644 (lv_at hl 0 rfl) ?_
  refine lv_iconst (v := 4) hx hb dL_law_646 (by decide) ?_
  refine lv_iadd hx hb dL_law_647 ?_
  refine z_cst (v := 4) (by decide +kernel) ?_
  refine z_sld (v := (xs 4)) (j := 4) hx hb hX hbl hbA hS rfl (Nat.le_of_ble_eq_true rfl) rfl dL_law_648 ?_
  refine lv_aload_n hx hb dL_law_649 rfl (lv_at hl 4 rfl) ?_
  refine lv_iload hx hb dL_law_650 (lv_at hl 0 rfl) ?_
  refine lv_iconst (v := 5) hx hb dL_law_652 (by decide) ?_
  refine lv_iadd hx hb dL_law_653 ?_
  refine z_cst (v := 5) (by decide +kernel) ?_
  refine z_sld (v := (xs 5)) (j := 5) hx hb hX hbl hbA hS rfl (Nat.le_of_ble_eq_true rfl) rfl dL_law_654 ?_
  refine lv_aload_n hx hb dL_law_655 rfl (lv_at hl 4 rfl) ?_
  refine lv_iload hx hb dL_law_656 (lv_at hl 0 rfl) ?_
  refine lv_bipush (v := 6) hx hb dL_law_658 (by decide) ?_
  refine lv_iadd hx hb dL_law_660 ?_
  refine z_cst (v := 6) (by decide +kernel) ?_
  refine z_sld (v := (xs 6)) (j := 6) hx hb hX hbl hbA hS rfl (Nat.le_of_ble_eq_true rfl) rfl dL_law_661 ?_
  refine lv_aload_n hx hb dL_law_662 rfl (lv_at hl 1 rfl) ?_
  refine z_hcalli [(qx, zO 9 9 (zc0 u v)), ((u 0), zO 7 6 (zc1 u v))] [(qm, zO 10 83 (zc71 u v)), (qo, zJ K 1 (fun _ => 0))] [0, 1] [2, 3] hP hD hS hA rfl rfl (by decide +kernel) (by decide +kernel) (by decide +kernel) 125 1863522 rfl rfl (fun hPc hDc hF => z_xrunH (As := [.ref qx, .int (xs 1), .int (nI t2), .int (nI t3), .int (xs 4), .int (xs 5), .int (xs 6), .ref qo]) (rest := []) ⟨hx, hb, hml, hown, hg⟩ (cL_match_3 l hl9 K H.size qx qo (u 0) (zc0 u v) (zc1 u v) (xs 1) t2 ht2 t3 ht3 (xs 4) (xs 5) (xs 6) (zc0_0 u v) (by rw [Int32.lt_iff_toInt_lt, show (0 : Int32).toInt = 0 from by decide]; omega)) kS_RL_128 hd_L_match rfl rfl ⟨(Nat.le_of_ble_eq_true rfl), (Nat.le_of_ble_eq_true rfl)⟩ hK hS hZ hPc hDc hF rfl hl.1 rfl (Nat.le_of_ble_eq_true rfl) dL_law_663 ⟨(Nat.le_of_ble_eq_true rfl), (Nat.le_of_ble_eq_true rfl)⟩) (fun r3 u1 H locs w2 hP hD hS => ?_)
  subst w2
  have hP : va_P K.1 classes [(qm, zO 10 83 (zc71 u v)), (qo, zJ K 1 (fun _ => 0))] H := hP
  have hD : va_D A [(qm, zO 10 83 (zc71 u v)), (qo, zJ K 1 (fun _ => 0))] := hD
  refine lv_istore (lv' := [(5, .int 1), (4, .int 0), (3, .ref qo), (2, .ref qm), (1, .ref qx), (0, .ref b)]) hx hb dL_law_666 hl (by decide) rfl (fun ls hl => ?_)
  refine lv_aload_n hx hb dL_law_668 rfl (lv_at hl 3 rfl) ?_
  refine lv_aload_n hx hb dL_law_669 rfl (lv_at hl 5 rfl) ?_
  refine lv_iload hx hb dL_law_670 (lv_at hl 1 rfl) ?_
  refine lv_iconst (v := 1) hx hb dL_law_672 (by decide) ?_
  refine lv_iadd hx hb dL_law_673 ?_
  refine z_cst (v := 1) (by decide +kernel) ?_
  refine z_sld (v := (xs 1)) (j := 1) hx hb hX hbl hbA hS rfl (Nat.le_of_ble_eq_true rfl) rfl dL_law_674 ?_
  refine lv_aload_n hx hb dL_law_675 rfl (lv_at hl 5 rfl) ?_
  refine lv_iload hx hb dL_law_676 (lv_at hl 1 rfl) ?_
  refine lv_iconst (v := 2) hx hb dL_law_678 (by decide) ?_
  refine lv_iadd hx hb dL_law_679 ?_
  refine z_cst (v := 2) (by decide +kernel) ?_
  refine z_sld (v := (nI t2)) (j := 2) hx hb hX hbl hbA hS rfl (Nat.le_of_ble_eq_true rfl) v2 dL_law_680 ?_
  refine lv_aload_n hx hb dL_law_681 rfl (lv_at hl 5 rfl) ?_
  refine lv_iload hx hb dL_law_682 (lv_at hl 1 rfl) ?_
  refine lv_iconst (v := 3) hx hb dL_law_684 (by decide) ?_
  refine lv_iadd hx hb dL_law_685 ?_
  refine z_cst (v := 3) (by decide +kernel) ?_
  refine z_sld (v := (nI t3)) (j := 3) hx hb hX hbl hbA hS rfl (Nat.le_of_ble_eq_true rfl) v3 dL_law_686 ?_
  refine lv_aload_n hx hb dL_law_687 rfl (lv_at hl 5 rfl) ?_
  refine lv_iload hx hb dL_law_688 (lv_at hl 1 rfl) ?_
  refine lv_iconst (v := 4) hx hb dL_law_690 (by decide) ?_
  refine lv_iadd hx hb dL_law_691 ?_
  refine z_cst (v := 4) (by decide +kernel) ?_
  refine z_sld (v := (xs 4)) (j := 4) hx hb hX hbl hbA hS rfl (Nat.le_of_ble_eq_true rfl) rfl dL_law_692 ?_
  refine lv_aload_n hx hb dL_law_693 rfl (lv_at hl 5 rfl) ?_
  refine lv_iload hx hb dL_law_694 (lv_at hl 1 rfl) ?_
  refine lv_iconst (v := 5) hx hb dL_law_696 (by decide) ?_
  refine lv_iadd hx hb dL_law_697 ?_
  refine z_cst (v := 5) (by decide +kernel) ?_
  refine z_sld (v := (xs 5)) (j := 5) hx hb hX hbl hbA hS rfl (Nat.le_of_ble_eq_true rfl) rfl dL_law_698 ?_
  refine lv_aload_n hx hb dL_law_699 rfl (lv_at hl 5 rfl) ?_
  refine lv_iload hx hb dL_law_700 (lv_at hl 1 rfl) ?_
  refine lv_bipush (v := 6) hx hb dL_law_702 (by decide) ?_
  refine lv_iadd hx hb dL_law_704 ?_
  refine z_cst (v := 6) (by decide +kernel) ?_
  refine z_sld (v := (xs 6)) (j := 6) hx hb hX hbl hbA hS rfl (Nat.le_of_ble_eq_true rfl) rfl dL_law_705 ?_
  refine z_calli [(qm, zO 10 83 (zc71 u v))] [(qo, zJ K 1 (fun _ => 0))] [0] [1] hP hD hS hA rfl rfl (by decide +kernel) (by decide +kernel) (by decide +kernel) 125 1863522 rfl rfl (fun hPc hDc hF => z_runV (As := [.int (xs 1), .int (nI t2), .int (nI t3), .int (xs 4), .int (xs 5), .int (xs 6)]) (rest := []) ⟨hx, hb, hml, hown, hg⟩ (cX12_match_3 l K H.size qm (zc71 u v) (xs 1) t2 ht2 t3 ht3 (xs 4) (xs 5) (xs 6) (zc71_0 u v) (by rw [Int32.lt_iff_toInt_lt, show (0 : Int32).toInt = 0 from by decide]; omega) (by rw [Int32.lt_iff_toInt_lt, show (0 : Int32).toInt = 0 from by decide]; omega)) kV_RL_131 hd_X12_match rfl rfl ⟨(Nat.le_of_ble_eq_true rfl), (Nat.le_of_ble_eq_true rfl)⟩ hK hS hZ hPc hDc hF 0 rfl rfl rfl hl.1 rfl (Nat.le_of_ble_eq_true rfl) dL_law_706 ⟨(Nat.le_of_ble_eq_true rfl), (Nat.le_of_ble_eq_true rfl)⟩) (fun r6 u4 H locs w5 hP hD hS => ?_)
  subst w5
  have hP : va_P K.1 classes [(qo, zJ K 1 (fun _ => 0)), (qm, zO 10 83 (va_up (zc71 u v) 81 (.int 1)))] H := hP
  have hD : va_D A [(qo, zJ K 1 (fun _ => 0)), (qm, zO 10 83 (va_up (zc71 u v) 81 (.int 1)))] := hD
  refine lv_istore (lv' := [(6, .int 0), (5, .int 1), (4, .int 0), (3, .ref qo), (2, .ref qm), (1, .ref qx), (0, .ref b)]) hx hb dL_law_709 hl (by decide) rfl (fun ls hl => ?_)
  refine lv_aload_n hx hb dL_law_711 rfl (lv_at hl 4 rfl) ?_
  refine z_calli [(qm, zO 10 83 (va_up (zc71 u v) 81 (.int 1)))] [(qo, zJ K 1 (fun _ => 0))] [1] [0] hP hD hS hA rfl rfl (by decide +kernel) (by decide +kernel) (by decide +kernel) 125 1863522 rfl rfl (fun hPc hDc hF => z_runV (As := []) (rest := []) ⟨hx, hb, hml, hown, hg⟩ (cX12_thrown_2 l K H.size qm (va_up (zc71 u v) 81 (.int 1)) zu_eq) kV_RL_104 hd_X12_thrown rfl rfl ⟨(Nat.le_of_ble_eq_true rfl), (Nat.le_of_ble_eq_true rfl)⟩ hK hS hZ hPc hDc hF 0 rfl rfl rfl hl.1 rfl (Nat.le_of_ble_eq_true rfl) dL_law_712 ⟨(Nat.le_of_ble_eq_true rfl), (Nat.le_of_ble_eq_true rfl)⟩) (fun r9 u7 H locs w8 hP hD hS => ?_)
  subst w8
  have hP : va_P K.1 classes [(qo, zJ K 1 (fun _ => 0)), (qm, zO 10 83 (va_up (zc71 u v) 81 (.int 1)))] H := hP
  have hD : va_D A [(qo, zJ K 1 (fun _ => 0)), (qm, zO 10 83 (va_up (zc71 u v) 81 (.int 1)))] := hD
  refine lv_iload hx hb dL_law_715 (lv_at hl 1 rfl) ?_
  refine lv_icmp_eq (tgt := 722) hx hb dL_law_717 (by decide) (fun _ => ?_) (fun c => absurd (by decide) c)
  refine lv_iload hx hb dL_law_722 (lv_at hl 1 rfl) ?_
  refine lv_if_ne (tgt := 739) hx hb dL_law_724 (by decide) (fun _ => ?_) (fun c => absurd c (by decide))
  refine lv_goto (tgt := 2026) hx hb dL_law_739 (by decide) ?_
  exact law_back ⟨hx, hb, hr, hml, hown, hg, hX, hbl, hlocks, hK, hZ, hl9, hAA, hA, hbA⟩ (Nat.le_of_ble_eq_true rfl) (Nat.le_of_ble_eq_true rfl) hS (lv_sub hl [2, 6] rfl)
set_option maxHeartbeats 4000000 in
set_option maxRecDepth 100000 in
theorem lawS_7_3 {p : Program} {l : Launch} {e : Env} {s : State} {m : MethodId} {below : List Frame} {meth : Method} {c : Code} {b : Nat} {xs : Nat → Int32} {K : zK} {A : Nat → Prop} {H : Heap} {locs : List Loc} {ls : Array Slot} (C : zC p l s m meth c b xs K A) (qx qm qo : Nat) (u v : Nat → Nat) (h0 : (xs 1).toInt < 0) (h1 : 0 ≤ (xs 2).toInt) (h2 : (xs 2).toInt < 4) (h3 : 0 ≤ (xs 3).toInt) (h4 : (xs 3).toInt < 16) (h5 : 0 ≤ (xs 4).toInt) (h6 : (xs 4).toInt < 16) (hP : va_P K.1 classes (lwW K qx qm qo u v) H) (hD : va_D A (lwW K qx qm qo u v)) (hS : va_S A s.heap H locs) (hl : lv_has ls 7 [(4, .int 0), (3, .ref qo), (2, .ref qm), (1, .ref qx), (0, .ref b)]) : W p l e room_1 s m #[Value.ref b] below meth c H locs 124 1863516 (lw_Z below #[Value.ref b] s) (F0 m 624 ls []) := by
  obtain ⟨hx, hb, hr, hml, hown, hg, hX, hbl, hlocks, hK, hZ, hl9, hAA, hA, hbA⟩ := C
  have hP : va_P K.1 classes [(qx, zO 9 9 (zc0 u v)), ((u 0), zO 7 6 (zc1 u v)), (qm, zO 10 83 (zc71 u v)), (qo, zJ K 1 (fun _ => 0))] H := hP.sub [0, 1, 71, 123] rfl
  have hD : va_D A [(qx, zO 9 9 (zc0 u v)), ((u 0), zO 7 6 (zc1 u v)), (qm, zO 10 83 (zc71 u v)), (qo, zJ K 1 (fun _ => 0))] := hD.sub [0, 1, 71, 123] (by decide +kernel) rfl
  obtain ⟨t2, ht2, v2⟩ : ∃ j : Nat, j < 4 ∧ xs 2 = nI j := z_nat (n := 4) (by omega) (by omega) (by decide)
  obtain ⟨t3, ht3, v3⟩ : ∃ j : Nat, j < 16 ∧ xs 3 = nI j := z_nat (n := 16) (by omega) (by omega) (by decide)
  obtain ⟨t4, ht4, v4⟩ : ∃ j : Nat, j < 16 ∧ xs 4 = nI j := z_nat (n := 16) (by omega) (by omega) (by decide)
  refine lv_aload_n hx hb dL_law_624 rfl (lv_at hl 3 rfl) ?_
  refine lv_aload_n hx hb dL_law_625 rfl (lv_at hl 4 rfl) ?_
  refine lv_iload hx hb dL_law_626 (lv_at hl 0 rfl) ?_
  refine lv_iconst (v := 1) hx hb dL_law_628 (by decide) ?_
  refine lv_iadd hx hb dL_law_629 ?_
  refine z_cst (v := 1) (by decide +kernel) ?_
  refine z_sld (v := (xs 1)) (j := 1) hx hb hX hbl hbA hS rfl (Nat.le_of_ble_eq_true rfl) rfl dL_law_630 ?_
  refine lv_aload_n hx hb dL_law_631 rfl (lv_at hl 4 rfl) ?_
  refine lv_iload hx hb dL_law_632 (lv_at hl 0 rfl) ?_
  refine lv_iconst (v := 2) hx hb dL_law_634 (by decide) ?_
  refine lv_iadd hx hb dL_law_635 ?_
  refine z_cst (v := 2) (by decide +kernel) ?_
  refine z_sld (v := (nI t2)) (j := 2) hx hb hX hbl hbA hS rfl (Nat.le_of_ble_eq_true rfl) v2 dL_law_636 ?_
  refine lv_aload_n hx hb dL_law_637 rfl (lv_at hl 4 rfl) ?_
  refine lv_iload hx hb dL_law_638 (lv_at hl 0 rfl) ?_
  refine lv_iconst (v := 3) hx hb dL_law_640 (by decide) ?_
  refine lv_iadd hx hb dL_law_641 ?_
  refine z_cst (v := 3) (by decide +kernel) ?_
  refine z_sld (v := (nI t3)) (j := 3) hx hb hX hbl hbA hS rfl (Nat.le_of_ble_eq_true rfl) v3 dL_law_642 ?_
  refine lv_aload_n hx hb dL_law_643 rfl (lv_at hl 4 rfl) ?_
  refine lv_iload hx hb dL_law_644 (lv_at hl 0 rfl) ?_
  refine lv_iconst (v := 4) hx hb dL_law_646 (by decide) ?_
  refine lv_iadd hx hb dL_law_647 ?_
  refine z_cst (v := 4) (by decide +kernel) ?_
  refine z_sld (v := (nI t4)) (j := 4) hx hb hX hbl hbA hS rfl (Nat.le_of_ble_eq_true rfl) v4 dL_law_648 ?_
  refine lv_aload_n hx hb dL_law_649 rfl (lv_at hl 4 rfl) ?_
  refine lv_iload hx hb dL_law_650 (lv_at hl 0 rfl) ?_
  refine lv_iconst (v := 5) hx hb dL_law_652 (by decide) ?_
  refine lv_iadd hx hb dL_law_653 ?_
  refine z_cst (v := 5) (by decide +kernel) ?_
  refine z_sld (v := (xs 5)) (j := 5) hx hb hX hbl hbA hS rfl (Nat.le_of_ble_eq_true rfl) rfl dL_law_654 ?_
  refine lv_aload_n hx hb dL_law_655 rfl (lv_at hl 4 rfl) ?_
  refine lv_iload hx hb dL_law_656 (lv_at hl 0 rfl) ?_
  refine lv_bipush (v := 6) hx hb dL_law_658 (by decide) ?_
  refine lv_iadd hx hb dL_law_660 ?_
  refine z_cst (v := 6) (by decide +kernel) ?_
  refine z_sld (v := (xs 6)) (j := 6) hx hb hX hbl hbA hS rfl (Nat.le_of_ble_eq_true rfl) rfl dL_law_661 ?_
  refine lv_aload_n hx hb dL_law_662 rfl (lv_at hl 1 rfl) ?_
  refine z_hcalli [(qx, zO 9 9 (zc0 u v)), ((u 0), zO 7 6 (zc1 u v))] [(qm, zO 10 83 (zc71 u v)), (qo, zJ K 1 (fun _ => 0))] [0, 1] [2, 3] hP hD hS hA rfl rfl (by decide +kernel) (by decide +kernel) (by decide +kernel) 125 1863522 rfl rfl (fun hPc hDc hF => z_xrunH (As := [.ref qx, .int (xs 1), .int (nI t2), .int (nI t3), .int (nI t4), .int (xs 5), .int (xs 6), .ref qo]) (rest := []) ⟨hx, hb, hml, hown, hg⟩ (cL_match_4 l hl9 K H.size qx qo (u 0) (zc0 u v) (zc1 u v) (xs 1) t2 ht2 t3 ht3 t4 ht4 (xs 5) (xs 6) (zc0_0 u v) (by rw [Int32.lt_iff_toInt_lt, show (0 : Int32).toInt = 0 from by decide]; omega)) kS_RL_128 hd_L_match rfl rfl ⟨(Nat.le_of_ble_eq_true rfl), (Nat.le_of_ble_eq_true rfl)⟩ hK hS hZ hPc hDc hF rfl hl.1 rfl (Nat.le_of_ble_eq_true rfl) dL_law_663 ⟨(Nat.le_of_ble_eq_true rfl), (Nat.le_of_ble_eq_true rfl)⟩) (fun r3 u1 H locs w2 hP hD hS => ?_)
  subst w2
  have hP : va_P K.1 classes [(qm, zO 10 83 (zc71 u v)), (qo, zJ K 1 (fun _ => 0))] H := hP
  have hD : va_D A [(qm, zO 10 83 (zc71 u v)), (qo, zJ K 1 (fun _ => 0))] := hD
  refine lv_istore (lv' := [(5, .int 1), (4, .int 0), (3, .ref qo), (2, .ref qm), (1, .ref qx), (0, .ref b)]) hx hb dL_law_666 hl (by decide) rfl (fun ls hl => ?_)
  refine lv_aload_n hx hb dL_law_668 rfl (lv_at hl 3 rfl) ?_
  refine lv_aload_n hx hb dL_law_669 rfl (lv_at hl 5 rfl) ?_
  refine lv_iload hx hb dL_law_670 (lv_at hl 1 rfl) ?_
  refine lv_iconst (v := 1) hx hb dL_law_672 (by decide) ?_
  refine lv_iadd hx hb dL_law_673 ?_
  refine z_cst (v := 1) (by decide +kernel) ?_
  refine z_sld (v := (xs 1)) (j := 1) hx hb hX hbl hbA hS rfl (Nat.le_of_ble_eq_true rfl) rfl dL_law_674 ?_
  refine lv_aload_n hx hb dL_law_675 rfl (lv_at hl 5 rfl) ?_
  refine lv_iload hx hb dL_law_676 (lv_at hl 1 rfl) ?_
  refine lv_iconst (v := 2) hx hb dL_law_678 (by decide) ?_
  refine lv_iadd hx hb dL_law_679 ?_
  refine z_cst (v := 2) (by decide +kernel) ?_
  refine z_sld (v := (nI t2)) (j := 2) hx hb hX hbl hbA hS rfl (Nat.le_of_ble_eq_true rfl) v2 dL_law_680 ?_
  refine lv_aload_n hx hb dL_law_681 rfl (lv_at hl 5 rfl) ?_
  refine lv_iload hx hb dL_law_682 (lv_at hl 1 rfl) ?_
  refine lv_iconst (v := 3) hx hb dL_law_684 (by decide) ?_
  refine lv_iadd hx hb dL_law_685 ?_
  refine z_cst (v := 3) (by decide +kernel) ?_
  refine z_sld (v := (nI t3)) (j := 3) hx hb hX hbl hbA hS rfl (Nat.le_of_ble_eq_true rfl) v3 dL_law_686 ?_
  refine lv_aload_n hx hb dL_law_687 rfl (lv_at hl 5 rfl) ?_
  refine lv_iload hx hb dL_law_688 (lv_at hl 1 rfl) ?_
  refine lv_iconst (v := 4) hx hb dL_law_690 (by decide) ?_
  refine lv_iadd hx hb dL_law_691 ?_
  refine z_cst (v := 4) (by decide +kernel) ?_
  refine z_sld (v := (nI t4)) (j := 4) hx hb hX hbl hbA hS rfl (Nat.le_of_ble_eq_true rfl) v4 dL_law_692 ?_
  refine lv_aload_n hx hb dL_law_693 rfl (lv_at hl 5 rfl) ?_
  refine lv_iload hx hb dL_law_694 (lv_at hl 1 rfl) ?_
  refine lv_iconst (v := 5) hx hb dL_law_696 (by decide) ?_
  refine lv_iadd hx hb dL_law_697 ?_
  refine z_cst (v := 5) (by decide +kernel) ?_
  refine z_sld (v := (xs 5)) (j := 5) hx hb hX hbl hbA hS rfl (Nat.le_of_ble_eq_true rfl) rfl dL_law_698 ?_
  refine lv_aload_n hx hb dL_law_699 rfl (lv_at hl 5 rfl) ?_
  refine lv_iload hx hb dL_law_700 (lv_at hl 1 rfl) ?_
  refine lv_bipush (v := 6) hx hb dL_law_702 (by decide) ?_
  refine lv_iadd hx hb dL_law_704 ?_
  refine z_cst (v := 6) (by decide +kernel) ?_
  refine z_sld (v := (xs 6)) (j := 6) hx hb hX hbl hbA hS rfl (Nat.le_of_ble_eq_true rfl) rfl dL_law_705 ?_
  refine z_calli [(qm, zO 10 83 (zc71 u v))] [(qo, zJ K 1 (fun _ => 0))] [0] [1] hP hD hS hA rfl rfl (by decide +kernel) (by decide +kernel) (by decide +kernel) 125 1863522 rfl rfl (fun hPc hDc hF => z_runV (As := [.int (xs 1), .int (nI t2), .int (nI t3), .int (nI t4), .int (xs 5), .int (xs 6)]) (rest := []) ⟨hx, hb, hml, hown, hg⟩ (cX12_match_4 l K H.size qm (zc71 u v) (xs 1) t2 ht2 t3 ht3 t4 ht4 (xs 5) (xs 6) (zc71_0 u v) (by rw [Int32.lt_iff_toInt_lt, show (0 : Int32).toInt = 0 from by decide]; omega)) kV_RL_131 hd_X12_match rfl rfl ⟨(Nat.le_of_ble_eq_true rfl), (Nat.le_of_ble_eq_true rfl)⟩ hK hS hZ hPc hDc hF 0 rfl rfl rfl hl.1 rfl (Nat.le_of_ble_eq_true rfl) dL_law_706 ⟨(Nat.le_of_ble_eq_true rfl), (Nat.le_of_ble_eq_true rfl)⟩) (fun r6 u4 H locs w5 hP hD hS => ?_)
  subst w5
  have hP : va_P K.1 classes [(qo, zJ K 1 (fun _ => 0)), (qm, zO 10 83 (va_up (zc71 u v) 81 (.int 1)))] H := hP
  have hD : va_D A [(qo, zJ K 1 (fun _ => 0)), (qm, zO 10 83 (va_up (zc71 u v) 81 (.int 1)))] := hD
  refine lv_istore (lv' := [(6, .int 0), (5, .int 1), (4, .int 0), (3, .ref qo), (2, .ref qm), (1, .ref qx), (0, .ref b)]) hx hb dL_law_709 hl (by decide) rfl (fun ls hl => ?_)
  refine lv_aload_n hx hb dL_law_711 rfl (lv_at hl 4 rfl) ?_
  refine z_calli [(qm, zO 10 83 (va_up (zc71 u v) 81 (.int 1)))] [(qo, zJ K 1 (fun _ => 0))] [1] [0] hP hD hS hA rfl rfl (by decide +kernel) (by decide +kernel) (by decide +kernel) 125 1863522 rfl rfl (fun hPc hDc hF => z_runV (As := []) (rest := []) ⟨hx, hb, hml, hown, hg⟩ (cX12_thrown_2 l K H.size qm (va_up (zc71 u v) 81 (.int 1)) zu_eq) kV_RL_104 hd_X12_thrown rfl rfl ⟨(Nat.le_of_ble_eq_true rfl), (Nat.le_of_ble_eq_true rfl)⟩ hK hS hZ hPc hDc hF 0 rfl rfl rfl hl.1 rfl (Nat.le_of_ble_eq_true rfl) dL_law_712 ⟨(Nat.le_of_ble_eq_true rfl), (Nat.le_of_ble_eq_true rfl)⟩) (fun r9 u7 H locs w8 hP hD hS => ?_)
  subst w8
  have hP : va_P K.1 classes [(qo, zJ K 1 (fun _ => 0)), (qm, zO 10 83 (va_up (zc71 u v) 81 (.int 1)))] H := hP
  have hD : va_D A [(qo, zJ K 1 (fun _ => 0)), (qm, zO 10 83 (va_up (zc71 u v) 81 (.int 1)))] := hD
  refine lv_iload hx hb dL_law_715 (lv_at hl 1 rfl) ?_
  refine lv_icmp_eq (tgt := 722) hx hb dL_law_717 (by decide) (fun _ => ?_) (fun c => absurd (by decide) c)
  refine lv_iload hx hb dL_law_722 (lv_at hl 1 rfl) ?_
  refine lv_if_ne (tgt := 739) hx hb dL_law_724 (by decide) (fun _ => ?_) (fun c => absurd c (by decide))
  refine lv_goto (tgt := 2026) hx hb dL_law_739 (by decide) ?_
  exact law_back ⟨hx, hb, hr, hml, hown, hg, hX, hbl, hlocks, hK, hZ, hl9, hAA, hA, hbA⟩ (Nat.le_of_ble_eq_true rfl) (Nat.le_of_ble_eq_true rfl) hS (lv_sub hl [2, 6] rfl)
set_option maxHeartbeats 4000000 in
set_option maxRecDepth 100000 in
theorem lawS_7_4 {p : Program} {l : Launch} {e : Env} {s : State} {m : MethodId} {below : List Frame} {meth : Method} {c : Code} {b : Nat} {xs : Nat → Int32} {K : zK} {A : Nat → Prop} {H : Heap} {locs : List Loc} {ls : Array Slot} (C : zC p l s m meth c b xs K A) (qx qm qo : Nat) (u v : Nat → Nat) (h0 : (xs 1).toInt < 0) (h1 : 0 ≤ (xs 2).toInt) (h2 : (xs 2).toInt < 4) (h3 : 0 ≤ (xs 3).toInt) (h4 : (xs 3).toInt < 16) (h5 : 0 ≤ (xs 4).toInt) (h6 : 16 ≤ (xs 4).toInt) (hP : va_P K.1 classes (lwW K qx qm qo u v) H) (hD : va_D A (lwW K qx qm qo u v)) (hS : va_S A s.heap H locs) (hl : lv_has ls 7 [(4, .int 0), (3, .ref qo), (2, .ref qm), (1, .ref qx), (0, .ref b)]) : W p l e room_1 s m #[Value.ref b] below meth c H locs 124 1863516 (lw_Z below #[Value.ref b] s) (F0 m 624 ls []) := by
  obtain ⟨hx, hb, hr, hml, hown, hg, hX, hbl, hlocks, hK, hZ, hl9, hAA, hA, hbA⟩ := C
  have hP : va_P K.1 classes [(qx, zO 9 9 (zc0 u v)), ((u 0), zO 7 6 (zc1 u v)), (qm, zO 10 83 (zc71 u v)), (qo, zJ K 1 (fun _ => 0))] H := hP.sub [0, 1, 71, 123] rfl
  have hD : va_D A [(qx, zO 9 9 (zc0 u v)), ((u 0), zO 7 6 (zc1 u v)), (qm, zO 10 83 (zc71 u v)), (qo, zJ K 1 (fun _ => 0))] := hD.sub [0, 1, 71, 123] (by decide +kernel) rfl
  obtain ⟨t2, ht2, v2⟩ : ∃ j : Nat, j < 4 ∧ xs 2 = nI j := z_nat (n := 4) (by omega) (by omega) (by decide)
  obtain ⟨t3, ht3, v3⟩ : ∃ j : Nat, j < 16 ∧ xs 3 = nI j := z_nat (n := 16) (by omega) (by omega) (by decide)
  refine lv_aload_n hx hb dL_law_624 rfl (lv_at hl 3 rfl) ?_
  refine lv_aload_n hx hb dL_law_625 rfl (lv_at hl 4 rfl) ?_
  refine lv_iload hx hb dL_law_626 (lv_at hl 0 rfl) ?_
  refine lv_iconst (v := 1) hx hb dL_law_628 (by decide) ?_
  refine lv_iadd hx hb dL_law_629 ?_
  refine z_cst (v := 1) (by decide +kernel) ?_
  refine z_sld (v := (xs 1)) (j := 1) hx hb hX hbl hbA hS rfl (Nat.le_of_ble_eq_true rfl) rfl dL_law_630 ?_
  refine lv_aload_n hx hb dL_law_631 rfl (lv_at hl 4 rfl) ?_
  refine lv_iload hx hb dL_law_632 (lv_at hl 0 rfl) ?_
  refine lv_iconst (v := 2) hx hb dL_law_634 (by decide) ?_
  refine lv_iadd hx hb dL_law_635 ?_
  refine z_cst (v := 2) (by decide +kernel) ?_
  refine z_sld (v := (nI t2)) (j := 2) hx hb hX hbl hbA hS rfl (Nat.le_of_ble_eq_true rfl) v2 dL_law_636 ?_
  refine lv_aload_n hx hb dL_law_637 rfl (lv_at hl 4 rfl) ?_
  refine lv_iload hx hb dL_law_638 (lv_at hl 0 rfl) ?_
  refine lv_iconst (v := 3) hx hb dL_law_640 (by decide) ?_
  refine lv_iadd hx hb dL_law_641 ?_
  refine z_cst (v := 3) (by decide +kernel) ?_
  refine z_sld (v := (nI t3)) (j := 3) hx hb hX hbl hbA hS rfl (Nat.le_of_ble_eq_true rfl) v3 dL_law_642 ?_
  refine lv_aload_n hx hb dL_law_643 rfl (lv_at hl 4 rfl) ?_
  refine lv_iload hx hb dL_law_644 (lv_at hl 0 rfl) ?_
  refine lv_iconst (v := 4) hx hb dL_law_646 (by decide) ?_
  refine lv_iadd hx hb dL_law_647 ?_
  refine z_cst (v := 4) (by decide +kernel) ?_
  refine z_sld (v := (xs 4)) (j := 4) hx hb hX hbl hbA hS rfl (Nat.le_of_ble_eq_true rfl) rfl dL_law_648 ?_
  refine lv_aload_n hx hb dL_law_649 rfl (lv_at hl 4 rfl) ?_
  refine lv_iload hx hb dL_law_650 (lv_at hl 0 rfl) ?_
  refine lv_iconst (v := 5) hx hb dL_law_652 (by decide) ?_
  refine lv_iadd hx hb dL_law_653 ?_
  refine z_cst (v := 5) (by decide +kernel) ?_
  refine z_sld (v := (xs 5)) (j := 5) hx hb hX hbl hbA hS rfl (Nat.le_of_ble_eq_true rfl) rfl dL_law_654 ?_
  refine lv_aload_n hx hb dL_law_655 rfl (lv_at hl 4 rfl) ?_
  refine lv_iload hx hb dL_law_656 (lv_at hl 0 rfl) ?_
  refine lv_bipush (v := 6) hx hb dL_law_658 (by decide) ?_
  refine lv_iadd hx hb dL_law_660 ?_
  refine z_cst (v := 6) (by decide +kernel) ?_
  refine z_sld (v := (xs 6)) (j := 6) hx hb hX hbl hbA hS rfl (Nat.le_of_ble_eq_true rfl) rfl dL_law_661 ?_
  refine lv_aload_n hx hb dL_law_662 rfl (lv_at hl 1 rfl) ?_
  refine z_hcalli [(qx, zO 9 9 (zc0 u v)), ((u 0), zO 7 6 (zc1 u v))] [(qm, zO 10 83 (zc71 u v)), (qo, zJ K 1 (fun _ => 0))] [0, 1] [2, 3] hP hD hS hA rfl rfl (by decide +kernel) (by decide +kernel) (by decide +kernel) 125 1863522 rfl rfl (fun hPc hDc hF => z_xrunH (As := [.ref qx, .int (xs 1), .int (nI t2), .int (nI t3), .int (xs 4), .int (xs 5), .int (xs 6), .ref qo]) (rest := []) ⟨hx, hb, hml, hown, hg⟩ (cL_match_3 l hl9 K H.size qx qo (u 0) (zc0 u v) (zc1 u v) (xs 1) t2 ht2 t3 ht3 (xs 4) (xs 5) (xs 6) (zc0_0 u v) (by rw [Int32.lt_iff_toInt_lt, show (0 : Int32).toInt = 0 from by decide]; omega)) kS_RL_128 hd_L_match rfl rfl ⟨(Nat.le_of_ble_eq_true rfl), (Nat.le_of_ble_eq_true rfl)⟩ hK hS hZ hPc hDc hF rfl hl.1 rfl (Nat.le_of_ble_eq_true rfl) dL_law_663 ⟨(Nat.le_of_ble_eq_true rfl), (Nat.le_of_ble_eq_true rfl)⟩) (fun r3 u1 H locs w2 hP hD hS => ?_)
  subst w2
  have hP : va_P K.1 classes [(qm, zO 10 83 (zc71 u v)), (qo, zJ K 1 (fun _ => 0))] H := hP
  have hD : va_D A [(qm, zO 10 83 (zc71 u v)), (qo, zJ K 1 (fun _ => 0))] := hD
  refine lv_istore (lv' := [(5, .int 1), (4, .int 0), (3, .ref qo), (2, .ref qm), (1, .ref qx), (0, .ref b)]) hx hb dL_law_666 hl (by decide) rfl (fun ls hl => ?_)
  refine lv_aload_n hx hb dL_law_668 rfl (lv_at hl 3 rfl) ?_
  refine lv_aload_n hx hb dL_law_669 rfl (lv_at hl 5 rfl) ?_
  refine lv_iload hx hb dL_law_670 (lv_at hl 1 rfl) ?_
  refine lv_iconst (v := 1) hx hb dL_law_672 (by decide) ?_
  refine lv_iadd hx hb dL_law_673 ?_
  refine z_cst (v := 1) (by decide +kernel) ?_
  refine z_sld (v := (xs 1)) (j := 1) hx hb hX hbl hbA hS rfl (Nat.le_of_ble_eq_true rfl) rfl dL_law_674 ?_
  refine lv_aload_n hx hb dL_law_675 rfl (lv_at hl 5 rfl) ?_
  refine lv_iload hx hb dL_law_676 (lv_at hl 1 rfl) ?_
  refine lv_iconst (v := 2) hx hb dL_law_678 (by decide) ?_
  refine lv_iadd hx hb dL_law_679 ?_
  refine z_cst (v := 2) (by decide +kernel) ?_
  refine z_sld (v := (nI t2)) (j := 2) hx hb hX hbl hbA hS rfl (Nat.le_of_ble_eq_true rfl) v2 dL_law_680 ?_
  refine lv_aload_n hx hb dL_law_681 rfl (lv_at hl 5 rfl) ?_
  refine lv_iload hx hb dL_law_682 (lv_at hl 1 rfl) ?_
  refine lv_iconst (v := 3) hx hb dL_law_684 (by decide) ?_
  refine lv_iadd hx hb dL_law_685 ?_
  refine z_cst (v := 3) (by decide +kernel) ?_
  refine z_sld (v := (nI t3)) (j := 3) hx hb hX hbl hbA hS rfl (Nat.le_of_ble_eq_true rfl) v3 dL_law_686 ?_
  refine lv_aload_n hx hb dL_law_687 rfl (lv_at hl 5 rfl) ?_
  refine lv_iload hx hb dL_law_688 (lv_at hl 1 rfl) ?_
  refine lv_iconst (v := 4) hx hb dL_law_690 (by decide) ?_
  refine lv_iadd hx hb dL_law_691 ?_
  refine z_cst (v := 4) (by decide +kernel) ?_
  refine z_sld (v := (xs 4)) (j := 4) hx hb hX hbl hbA hS rfl (Nat.le_of_ble_eq_true rfl) rfl dL_law_692 ?_
  refine lv_aload_n hx hb dL_law_693 rfl (lv_at hl 5 rfl) ?_
  refine lv_iload hx hb dL_law_694 (lv_at hl 1 rfl) ?_
  refine lv_iconst (v := 5) hx hb dL_law_696 (by decide) ?_
  refine lv_iadd hx hb dL_law_697 ?_
  refine z_cst (v := 5) (by decide +kernel) ?_
  refine z_sld (v := (xs 5)) (j := 5) hx hb hX hbl hbA hS rfl (Nat.le_of_ble_eq_true rfl) rfl dL_law_698 ?_
  refine lv_aload_n hx hb dL_law_699 rfl (lv_at hl 5 rfl) ?_
  refine lv_iload hx hb dL_law_700 (lv_at hl 1 rfl) ?_
  refine lv_bipush (v := 6) hx hb dL_law_702 (by decide) ?_
  refine lv_iadd hx hb dL_law_704 ?_
  refine z_cst (v := 6) (by decide +kernel) ?_
  refine z_sld (v := (xs 6)) (j := 6) hx hb hX hbl hbA hS rfl (Nat.le_of_ble_eq_true rfl) rfl dL_law_705 ?_
  refine z_calli [(qm, zO 10 83 (zc71 u v))] [(qo, zJ K 1 (fun _ => 0))] [0] [1] hP hD hS hA rfl rfl (by decide +kernel) (by decide +kernel) (by decide +kernel) 125 1863522 rfl rfl (fun hPc hDc hF => z_runV (As := [.int (xs 1), .int (nI t2), .int (nI t3), .int (xs 4), .int (xs 5), .int (xs 6)]) (rest := []) ⟨hx, hb, hml, hown, hg⟩ (cX12_match_5 l K H.size qm (zc71 u v) (xs 1) t2 ht2 t3 ht3 (xs 4) (xs 5) (xs 6) (zc71_0 u v) (by rw [Int32.lt_iff_toInt_lt, show (0 : Int32).toInt = 0 from by decide]; omega) (by rw [Int32.lt_iff_toInt_lt, show (0 : Int32).toInt = 0 from by decide]; omega) (by rw [Int32.lt_iff_toInt_lt, show (15 : Int32).toInt = 15 from by decide]; omega)) kV_RL_131 hd_X12_match rfl rfl ⟨(Nat.le_of_ble_eq_true rfl), (Nat.le_of_ble_eq_true rfl)⟩ hK hS hZ hPc hDc hF 0 rfl rfl rfl hl.1 rfl (Nat.le_of_ble_eq_true rfl) dL_law_706 ⟨(Nat.le_of_ble_eq_true rfl), (Nat.le_of_ble_eq_true rfl)⟩) (fun r6 u4 H locs w5 hP hD hS => ?_)
  subst w5
  have hP : va_P K.1 classes [(qo, zJ K 1 (fun _ => 0)), (qm, zO 10 83 (va_up (zc71 u v) 81 (.int 1)))] H := hP
  have hD : va_D A [(qo, zJ K 1 (fun _ => 0)), (qm, zO 10 83 (va_up (zc71 u v) 81 (.int 1)))] := hD
  refine lv_istore (lv' := [(6, .int 0), (5, .int 1), (4, .int 0), (3, .ref qo), (2, .ref qm), (1, .ref qx), (0, .ref b)]) hx hb dL_law_709 hl (by decide) rfl (fun ls hl => ?_)
  refine lv_aload_n hx hb dL_law_711 rfl (lv_at hl 4 rfl) ?_
  refine z_calli [(qm, zO 10 83 (va_up (zc71 u v) 81 (.int 1)))] [(qo, zJ K 1 (fun _ => 0))] [1] [0] hP hD hS hA rfl rfl (by decide +kernel) (by decide +kernel) (by decide +kernel) 125 1863522 rfl rfl (fun hPc hDc hF => z_runV (As := []) (rest := []) ⟨hx, hb, hml, hown, hg⟩ (cX12_thrown_2 l K H.size qm (va_up (zc71 u v) 81 (.int 1)) zu_eq) kV_RL_104 hd_X12_thrown rfl rfl ⟨(Nat.le_of_ble_eq_true rfl), (Nat.le_of_ble_eq_true rfl)⟩ hK hS hZ hPc hDc hF 0 rfl rfl rfl hl.1 rfl (Nat.le_of_ble_eq_true rfl) dL_law_712 ⟨(Nat.le_of_ble_eq_true rfl), (Nat.le_of_ble_eq_true rfl)⟩) (fun r9 u7 H locs w8 hP hD hS => ?_)
  subst w8
  have hP : va_P K.1 classes [(qo, zJ K 1 (fun _ => 0)), (qm, zO 10 83 (va_up (zc71 u v) 81 (.int 1)))] H := hP
  have hD : va_D A [(qo, zJ K 1 (fun _ => 0)), (qm, zO 10 83 (va_up (zc71 u v) 81 (.int 1)))] := hD
  refine lv_iload hx hb dL_law_715 (lv_at hl 1 rfl) ?_
  refine lv_icmp_eq (tgt := 722) hx hb dL_law_717 (by decide) (fun _ => ?_) (fun c => absurd (by decide) c)
  refine lv_iload hx hb dL_law_722 (lv_at hl 1 rfl) ?_
  refine lv_if_ne (tgt := 739) hx hb dL_law_724 (by decide) (fun _ => ?_) (fun c => absurd c (by decide))
  refine lv_goto (tgt := 2026) hx hb dL_law_739 (by decide) ?_
  exact law_back ⟨hx, hb, hr, hml, hown, hg, hX, hbl, hlocks, hK, hZ, hl9, hAA, hA, hbA⟩ (Nat.le_of_ble_eq_true rfl) (Nat.le_of_ble_eq_true rfl) hS (lv_sub hl [2, 6] rfl)
set_option maxHeartbeats 4000000 in
set_option maxRecDepth 100000 in
theorem lawS_7_5 {p : Program} {l : Launch} {e : Env} {s : State} {m : MethodId} {below : List Frame} {meth : Method} {c : Code} {b : Nat} {xs : Nat → Int32} {K : zK} {A : Nat → Prop} {H : Heap} {locs : List Loc} {ls : Array Slot} (C : zC p l s m meth c b xs K A) (qx qm qo : Nat) (u v : Nat → Nat) (h0 : (xs 1).toInt < 0) (h1 : 0 ≤ (xs 2).toInt) (h2 : (xs 2).toInt < 4) (h3 : 0 ≤ (xs 3).toInt) (h4 : 16 ≤ (xs 3).toInt) (hP : va_P K.1 classes (lwW K qx qm qo u v) H) (hD : va_D A (lwW K qx qm qo u v)) (hS : va_S A s.heap H locs) (hl : lv_has ls 7 [(4, .int 0), (3, .ref qo), (2, .ref qm), (1, .ref qx), (0, .ref b)]) : W p l e room_1 s m #[Value.ref b] below meth c H locs 124 1863516 (lw_Z below #[Value.ref b] s) (F0 m 624 ls []) := by
  obtain ⟨hx, hb, hr, hml, hown, hg, hX, hbl, hlocks, hK, hZ, hl9, hAA, hA, hbA⟩ := C
  have hP : va_P K.1 classes [(qx, zO 9 9 (zc0 u v)), ((u 0), zO 7 6 (zc1 u v)), (qm, zO 10 83 (zc71 u v)), (qo, zJ K 1 (fun _ => 0))] H := hP.sub [0, 1, 71, 123] rfl
  have hD : va_D A [(qx, zO 9 9 (zc0 u v)), ((u 0), zO 7 6 (zc1 u v)), (qm, zO 10 83 (zc71 u v)), (qo, zJ K 1 (fun _ => 0))] := hD.sub [0, 1, 71, 123] (by decide +kernel) rfl
  obtain ⟨t2, ht2, v2⟩ : ∃ j : Nat, j < 4 ∧ xs 2 = nI j := z_nat (n := 4) (by omega) (by omega) (by decide)
  refine lv_aload_n hx hb dL_law_624 rfl (lv_at hl 3 rfl) ?_
  refine lv_aload_n hx hb dL_law_625 rfl (lv_at hl 4 rfl) ?_
  refine lv_iload hx hb dL_law_626 (lv_at hl 0 rfl) ?_
  refine lv_iconst (v := 1) hx hb dL_law_628 (by decide) ?_
  refine lv_iadd hx hb dL_law_629 ?_
  refine z_cst (v := 1) (by decide +kernel) ?_
  refine z_sld (v := (xs 1)) (j := 1) hx hb hX hbl hbA hS rfl (Nat.le_of_ble_eq_true rfl) rfl dL_law_630 ?_
  refine lv_aload_n hx hb dL_law_631 rfl (lv_at hl 4 rfl) ?_
  refine lv_iload hx hb dL_law_632 (lv_at hl 0 rfl) ?_
  refine lv_iconst (v := 2) hx hb dL_law_634 (by decide) ?_
  refine lv_iadd hx hb dL_law_635 ?_
  refine z_cst (v := 2) (by decide +kernel) ?_
  refine z_sld (v := (nI t2)) (j := 2) hx hb hX hbl hbA hS rfl (Nat.le_of_ble_eq_true rfl) v2 dL_law_636 ?_
  refine lv_aload_n hx hb dL_law_637 rfl (lv_at hl 4 rfl) ?_
  refine lv_iload hx hb dL_law_638 (lv_at hl 0 rfl) ?_
  refine lv_iconst (v := 3) hx hb dL_law_640 (by decide) ?_
  refine lv_iadd hx hb dL_law_641 ?_
  refine z_cst (v := 3) (by decide +kernel) ?_
  refine z_sld (v := (xs 3)) (j := 3) hx hb hX hbl hbA hS rfl (Nat.le_of_ble_eq_true rfl) rfl dL_law_642 ?_
  refine lv_aload_n hx hb dL_law_643 rfl (lv_at hl 4 rfl) ?_
  refine lv_iload hx hb dL_law_644 (lv_at hl 0 rfl) ?_
  refine lv_iconst (v := 4) hx hb dL_law_646 (by decide) ?_
  refine lv_iadd hx hb dL_law_647 ?_
  refine z_cst (v := 4) (by decide +kernel) ?_
  refine z_sld (v := (xs 4)) (j := 4) hx hb hX hbl hbA hS rfl (Nat.le_of_ble_eq_true rfl) rfl dL_law_648 ?_
  refine lv_aload_n hx hb dL_law_649 rfl (lv_at hl 4 rfl) ?_
  refine lv_iload hx hb dL_law_650 (lv_at hl 0 rfl) ?_
  refine lv_iconst (v := 5) hx hb dL_law_652 (by decide) ?_
  refine lv_iadd hx hb dL_law_653 ?_
  refine z_cst (v := 5) (by decide +kernel) ?_
  refine z_sld (v := (xs 5)) (j := 5) hx hb hX hbl hbA hS rfl (Nat.le_of_ble_eq_true rfl) rfl dL_law_654 ?_
  refine lv_aload_n hx hb dL_law_655 rfl (lv_at hl 4 rfl) ?_
  refine lv_iload hx hb dL_law_656 (lv_at hl 0 rfl) ?_
  refine lv_bipush (v := 6) hx hb dL_law_658 (by decide) ?_
  refine lv_iadd hx hb dL_law_660 ?_
  refine z_cst (v := 6) (by decide +kernel) ?_
  refine z_sld (v := (xs 6)) (j := 6) hx hb hX hbl hbA hS rfl (Nat.le_of_ble_eq_true rfl) rfl dL_law_661 ?_
  refine lv_aload_n hx hb dL_law_662 rfl (lv_at hl 1 rfl) ?_
  refine z_hcalli [(qx, zO 9 9 (zc0 u v)), ((u 0), zO 7 6 (zc1 u v))] [(qm, zO 10 83 (zc71 u v)), (qo, zJ K 1 (fun _ => 0))] [0, 1] [2, 3] hP hD hS hA rfl rfl (by decide +kernel) (by decide +kernel) (by decide +kernel) 125 1863522 rfl rfl (fun hPc hDc hF => z_xrunH (As := [.ref qx, .int (xs 1), .int (nI t2), .int (xs 3), .int (xs 4), .int (xs 5), .int (xs 6), .ref qo]) (rest := []) ⟨hx, hb, hml, hown, hg⟩ (cL_match_2 l hl9 K H.size qx qo (u 0) (zc0 u v) (zc1 u v) (xs 1) t2 ht2 (xs 3) (xs 4) (xs 5) (xs 6) (zc0_0 u v) (by rw [Int32.lt_iff_toInt_lt, show (0 : Int32).toInt = 0 from by decide]; omega)) kS_RL_128 hd_L_match rfl rfl ⟨(Nat.le_of_ble_eq_true rfl), (Nat.le_of_ble_eq_true rfl)⟩ hK hS hZ hPc hDc hF rfl hl.1 rfl (Nat.le_of_ble_eq_true rfl) dL_law_663 ⟨(Nat.le_of_ble_eq_true rfl), (Nat.le_of_ble_eq_true rfl)⟩) (fun r3 u1 H locs w2 hP hD hS => ?_)
  subst w2
  have hP : va_P K.1 classes [(qm, zO 10 83 (zc71 u v)), (qo, zJ K 1 (fun _ => 0))] H := hP
  have hD : va_D A [(qm, zO 10 83 (zc71 u v)), (qo, zJ K 1 (fun _ => 0))] := hD
  refine lv_istore (lv' := [(5, .int 1), (4, .int 0), (3, .ref qo), (2, .ref qm), (1, .ref qx), (0, .ref b)]) hx hb dL_law_666 hl (by decide) rfl (fun ls hl => ?_)
  refine lv_aload_n hx hb dL_law_668 rfl (lv_at hl 3 rfl) ?_
  refine lv_aload_n hx hb dL_law_669 rfl (lv_at hl 5 rfl) ?_
  refine lv_iload hx hb dL_law_670 (lv_at hl 1 rfl) ?_
  refine lv_iconst (v := 1) hx hb dL_law_672 (by decide) ?_
  refine lv_iadd hx hb dL_law_673 ?_
  refine z_cst (v := 1) (by decide +kernel) ?_
  refine z_sld (v := (xs 1)) (j := 1) hx hb hX hbl hbA hS rfl (Nat.le_of_ble_eq_true rfl) rfl dL_law_674 ?_
  refine lv_aload_n hx hb dL_law_675 rfl (lv_at hl 5 rfl) ?_
  refine lv_iload hx hb dL_law_676 (lv_at hl 1 rfl) ?_
  refine lv_iconst (v := 2) hx hb dL_law_678 (by decide) ?_
  refine lv_iadd hx hb dL_law_679 ?_
  refine z_cst (v := 2) (by decide +kernel) ?_
  refine z_sld (v := (nI t2)) (j := 2) hx hb hX hbl hbA hS rfl (Nat.le_of_ble_eq_true rfl) v2 dL_law_680 ?_
  refine lv_aload_n hx hb dL_law_681 rfl (lv_at hl 5 rfl) ?_
  refine lv_iload hx hb dL_law_682 (lv_at hl 1 rfl) ?_
  refine lv_iconst (v := 3) hx hb dL_law_684 (by decide) ?_
  refine lv_iadd hx hb dL_law_685 ?_
  refine z_cst (v := 3) (by decide +kernel) ?_
  refine z_sld (v := (xs 3)) (j := 3) hx hb hX hbl hbA hS rfl (Nat.le_of_ble_eq_true rfl) rfl dL_law_686 ?_
  refine lv_aload_n hx hb dL_law_687 rfl (lv_at hl 5 rfl) ?_
  refine lv_iload hx hb dL_law_688 (lv_at hl 1 rfl) ?_
  refine lv_iconst (v := 4) hx hb dL_law_690 (by decide) ?_
  refine lv_iadd hx hb dL_law_691 ?_
  refine z_cst (v := 4) (by decide +kernel) ?_
  refine z_sld (v := (xs 4)) (j := 4) hx hb hX hbl hbA hS rfl (Nat.le_of_ble_eq_true rfl) rfl dL_law_692 ?_
  refine lv_aload_n hx hb dL_law_693 rfl (lv_at hl 5 rfl) ?_
  refine lv_iload hx hb dL_law_694 (lv_at hl 1 rfl) ?_
  refine lv_iconst (v := 5) hx hb dL_law_696 (by decide) ?_
  refine lv_iadd hx hb dL_law_697 ?_
  refine z_cst (v := 5) (by decide +kernel) ?_
  refine z_sld (v := (xs 5)) (j := 5) hx hb hX hbl hbA hS rfl (Nat.le_of_ble_eq_true rfl) rfl dL_law_698 ?_
  refine lv_aload_n hx hb dL_law_699 rfl (lv_at hl 5 rfl) ?_
  refine lv_iload hx hb dL_law_700 (lv_at hl 1 rfl) ?_
  refine lv_bipush (v := 6) hx hb dL_law_702 (by decide) ?_
  refine lv_iadd hx hb dL_law_704 ?_
  refine z_cst (v := 6) (by decide +kernel) ?_
  refine z_sld (v := (xs 6)) (j := 6) hx hb hX hbl hbA hS rfl (Nat.le_of_ble_eq_true rfl) rfl dL_law_705 ?_
  refine z_calli [(qm, zO 10 83 (zc71 u v))] [(qo, zJ K 1 (fun _ => 0))] [0] [1] hP hD hS hA rfl rfl (by decide +kernel) (by decide +kernel) (by decide +kernel) 125 1863522 rfl rfl (fun hPc hDc hF => z_runV (As := [.int (xs 1), .int (nI t2), .int (xs 3), .int (xs 4), .int (xs 5), .int (xs 6)]) (rest := []) ⟨hx, hb, hml, hown, hg⟩ (cX12_match_6 l K H.size qm (zc71 u v) (xs 1) t2 ht2 (xs 3) (xs 4) (xs 5) (xs 6) (zc71_0 u v) (by rw [Int32.lt_iff_toInt_lt, show (0 : Int32).toInt = 0 from by decide]; omega) (by rw [Int32.lt_iff_toInt_lt, show (0 : Int32).toInt = 0 from by decide]; omega) (by rw [Int32.lt_iff_toInt_lt, show (15 : Int32).toInt = 15 from by decide]; omega)) kV_RL_131 hd_X12_match rfl rfl ⟨(Nat.le_of_ble_eq_true rfl), (Nat.le_of_ble_eq_true rfl)⟩ hK hS hZ hPc hDc hF 0 rfl rfl rfl hl.1 rfl (Nat.le_of_ble_eq_true rfl) dL_law_706 ⟨(Nat.le_of_ble_eq_true rfl), (Nat.le_of_ble_eq_true rfl)⟩) (fun r6 u4 H locs w5 hP hD hS => ?_)
  subst w5
  have hP : va_P K.1 classes [(qo, zJ K 1 (fun _ => 0)), (qm, zO 10 83 (va_up (zc71 u v) 81 (.int 1)))] H := hP
  have hD : va_D A [(qo, zJ K 1 (fun _ => 0)), (qm, zO 10 83 (va_up (zc71 u v) 81 (.int 1)))] := hD
  refine lv_istore (lv' := [(6, .int 0), (5, .int 1), (4, .int 0), (3, .ref qo), (2, .ref qm), (1, .ref qx), (0, .ref b)]) hx hb dL_law_709 hl (by decide) rfl (fun ls hl => ?_)
  refine lv_aload_n hx hb dL_law_711 rfl (lv_at hl 4 rfl) ?_
  refine z_calli [(qm, zO 10 83 (va_up (zc71 u v) 81 (.int 1)))] [(qo, zJ K 1 (fun _ => 0))] [1] [0] hP hD hS hA rfl rfl (by decide +kernel) (by decide +kernel) (by decide +kernel) 125 1863522 rfl rfl (fun hPc hDc hF => z_runV (As := []) (rest := []) ⟨hx, hb, hml, hown, hg⟩ (cX12_thrown_2 l K H.size qm (va_up (zc71 u v) 81 (.int 1)) zu_eq) kV_RL_104 hd_X12_thrown rfl rfl ⟨(Nat.le_of_ble_eq_true rfl), (Nat.le_of_ble_eq_true rfl)⟩ hK hS hZ hPc hDc hF 0 rfl rfl rfl hl.1 rfl (Nat.le_of_ble_eq_true rfl) dL_law_712 ⟨(Nat.le_of_ble_eq_true rfl), (Nat.le_of_ble_eq_true rfl)⟩) (fun r9 u7 H locs w8 hP hD hS => ?_)
  subst w8
  have hP : va_P K.1 classes [(qo, zJ K 1 (fun _ => 0)), (qm, zO 10 83 (va_up (zc71 u v) 81 (.int 1)))] H := hP
  have hD : va_D A [(qo, zJ K 1 (fun _ => 0)), (qm, zO 10 83 (va_up (zc71 u v) 81 (.int 1)))] := hD
  refine lv_iload hx hb dL_law_715 (lv_at hl 1 rfl) ?_
  refine lv_icmp_eq (tgt := 722) hx hb dL_law_717 (by decide) (fun _ => ?_) (fun c => absurd (by decide) c)
  refine lv_iload hx hb dL_law_722 (lv_at hl 1 rfl) ?_
  refine lv_if_ne (tgt := 739) hx hb dL_law_724 (by decide) (fun _ => ?_) (fun c => absurd c (by decide))
  refine lv_goto (tgt := 2026) hx hb dL_law_739 (by decide) ?_
  exact law_back ⟨hx, hb, hr, hml, hown, hg, hX, hbl, hlocks, hK, hZ, hl9, hAA, hA, hbA⟩ (Nat.le_of_ble_eq_true rfl) (Nat.le_of_ble_eq_true rfl) hS (lv_sub hl [2, 6] rfl)
set_option maxHeartbeats 4000000 in
set_option maxRecDepth 100000 in
theorem lawS_7_6 {p : Program} {l : Launch} {e : Env} {s : State} {m : MethodId} {below : List Frame} {meth : Method} {c : Code} {b : Nat} {xs : Nat → Int32} {K : zK} {A : Nat → Prop} {H : Heap} {locs : List Loc} {ls : Array Slot} (C : zC p l s m meth c b xs K A) (qx qm qo : Nat) (u v : Nat → Nat) (h0 : (xs 1).toInt < 0) (h1 : 0 ≤ (xs 2).toInt) (h2 : 4 ≤ (xs 2).toInt) (hP : va_P K.1 classes (lwW K qx qm qo u v) H) (hD : va_D A (lwW K qx qm qo u v)) (hS : va_S A s.heap H locs) (hl : lv_has ls 7 [(4, .int 0), (3, .ref qo), (2, .ref qm), (1, .ref qx), (0, .ref b)]) : W p l e room_1 s m #[Value.ref b] below meth c H locs 124 1863516 (lw_Z below #[Value.ref b] s) (F0 m 624 ls []) := by
  obtain ⟨hx, hb, hr, hml, hown, hg, hX, hbl, hlocks, hK, hZ, hl9, hAA, hA, hbA⟩ := C
  have hP : va_P K.1 classes [(qx, zO 9 9 (zc0 u v)), ((u 0), zO 7 6 (zc1 u v)), (qm, zO 10 83 (zc71 u v)), (qo, zJ K 1 (fun _ => 0))] H := hP.sub [0, 1, 71, 123] rfl
  have hD : va_D A [(qx, zO 9 9 (zc0 u v)), ((u 0), zO 7 6 (zc1 u v)), (qm, zO 10 83 (zc71 u v)), (qo, zJ K 1 (fun _ => 0))] := hD.sub [0, 1, 71, 123] (by decide +kernel) rfl
  refine lv_aload_n hx hb dL_law_624 rfl (lv_at hl 3 rfl) ?_
  refine lv_aload_n hx hb dL_law_625 rfl (lv_at hl 4 rfl) ?_
  refine lv_iload hx hb dL_law_626 (lv_at hl 0 rfl) ?_
  refine lv_iconst (v := 1) hx hb dL_law_628 (by decide) ?_
  refine lv_iadd hx hb dL_law_629 ?_
  refine z_cst (v := 1) (by decide +kernel) ?_
  refine z_sld (v := (xs 1)) (j := 1) hx hb hX hbl hbA hS rfl (Nat.le_of_ble_eq_true rfl) rfl dL_law_630 ?_
  refine lv_aload_n hx hb dL_law_631 rfl (lv_at hl 4 rfl) ?_
  refine lv_iload hx hb dL_law_632 (lv_at hl 0 rfl) ?_
  refine lv_iconst (v := 2) hx hb dL_law_634 (by decide) ?_
  refine lv_iadd hx hb dL_law_635 ?_
  refine z_cst (v := 2) (by decide +kernel) ?_
  refine z_sld (v := (xs 2)) (j := 2) hx hb hX hbl hbA hS rfl (Nat.le_of_ble_eq_true rfl) rfl dL_law_636 ?_
  refine lv_aload_n hx hb dL_law_637 rfl (lv_at hl 4 rfl) ?_
  refine lv_iload hx hb dL_law_638 (lv_at hl 0 rfl) ?_
  refine lv_iconst (v := 3) hx hb dL_law_640 (by decide) ?_
  refine lv_iadd hx hb dL_law_641 ?_
  refine z_cst (v := 3) (by decide +kernel) ?_
  refine z_sld (v := (xs 3)) (j := 3) hx hb hX hbl hbA hS rfl (Nat.le_of_ble_eq_true rfl) rfl dL_law_642 ?_
  refine lv_aload_n hx hb dL_law_643 rfl (lv_at hl 4 rfl) ?_
  refine lv_iload hx hb dL_law_644 (lv_at hl 0 rfl) ?_
  refine lv_iconst (v := 4) hx hb dL_law_646 (by decide) ?_
  refine lv_iadd hx hb dL_law_647 ?_
  refine z_cst (v := 4) (by decide +kernel) ?_
  refine z_sld (v := (xs 4)) (j := 4) hx hb hX hbl hbA hS rfl (Nat.le_of_ble_eq_true rfl) rfl dL_law_648 ?_
  refine lv_aload_n hx hb dL_law_649 rfl (lv_at hl 4 rfl) ?_
  refine lv_iload hx hb dL_law_650 (lv_at hl 0 rfl) ?_
  refine lv_iconst (v := 5) hx hb dL_law_652 (by decide) ?_
  refine lv_iadd hx hb dL_law_653 ?_
  refine z_cst (v := 5) (by decide +kernel) ?_
  refine z_sld (v := (xs 5)) (j := 5) hx hb hX hbl hbA hS rfl (Nat.le_of_ble_eq_true rfl) rfl dL_law_654 ?_
  refine lv_aload_n hx hb dL_law_655 rfl (lv_at hl 4 rfl) ?_
  refine lv_iload hx hb dL_law_656 (lv_at hl 0 rfl) ?_
  refine lv_bipush (v := 6) hx hb dL_law_658 (by decide) ?_
  refine lv_iadd hx hb dL_law_660 ?_
  refine z_cst (v := 6) (by decide +kernel) ?_
  refine z_sld (v := (xs 6)) (j := 6) hx hb hX hbl hbA hS rfl (Nat.le_of_ble_eq_true rfl) rfl dL_law_661 ?_
  refine lv_aload_n hx hb dL_law_662 rfl (lv_at hl 1 rfl) ?_
  refine z_hcalli [(qx, zO 9 9 (zc0 u v)), ((u 0), zO 7 6 (zc1 u v))] [(qm, zO 10 83 (zc71 u v)), (qo, zJ K 1 (fun _ => 0))] [0, 1] [2, 3] hP hD hS hA rfl rfl (by decide +kernel) (by decide +kernel) (by decide +kernel) 125 1863522 rfl rfl (fun hPc hDc hF => z_xrunH (As := [.ref qx, .int (xs 1), .int (xs 2), .int (xs 3), .int (xs 4), .int (xs 5), .int (xs 6), .ref qo]) (rest := []) ⟨hx, hb, hml, hown, hg⟩ (cL_match_1 l hl9 K H.size qx qo (u 0) (zc0 u v) (zc1 u v) (xs 1) (xs 2) (xs 3) (xs 4) (xs 5) (xs 6) (zc0_0 u v) (by rw [Int32.lt_iff_toInt_lt, show (0 : Int32).toInt = 0 from by decide]; omega)) kS_RL_128 hd_L_match rfl rfl ⟨(Nat.le_of_ble_eq_true rfl), (Nat.le_of_ble_eq_true rfl)⟩ hK hS hZ hPc hDc hF rfl hl.1 rfl (Nat.le_of_ble_eq_true rfl) dL_law_663 ⟨(Nat.le_of_ble_eq_true rfl), (Nat.le_of_ble_eq_true rfl)⟩) (fun r3 u1 H locs w2 hP hD hS => ?_)
  subst w2
  have hP : va_P K.1 classes [(qm, zO 10 83 (zc71 u v)), (qo, zJ K 1 (fun _ => 0))] H := hP
  have hD : va_D A [(qm, zO 10 83 (zc71 u v)), (qo, zJ K 1 (fun _ => 0))] := hD
  refine lv_istore (lv' := [(5, .int 1), (4, .int 0), (3, .ref qo), (2, .ref qm), (1, .ref qx), (0, .ref b)]) hx hb dL_law_666 hl (by decide) rfl (fun ls hl => ?_)
  refine lv_aload_n hx hb dL_law_668 rfl (lv_at hl 3 rfl) ?_
  refine lv_aload_n hx hb dL_law_669 rfl (lv_at hl 5 rfl) ?_
  refine lv_iload hx hb dL_law_670 (lv_at hl 1 rfl) ?_
  refine lv_iconst (v := 1) hx hb dL_law_672 (by decide) ?_
  refine lv_iadd hx hb dL_law_673 ?_
  refine z_cst (v := 1) (by decide +kernel) ?_
  refine z_sld (v := (xs 1)) (j := 1) hx hb hX hbl hbA hS rfl (Nat.le_of_ble_eq_true rfl) rfl dL_law_674 ?_
  refine lv_aload_n hx hb dL_law_675 rfl (lv_at hl 5 rfl) ?_
  refine lv_iload hx hb dL_law_676 (lv_at hl 1 rfl) ?_
  refine lv_iconst (v := 2) hx hb dL_law_678 (by decide) ?_
  refine lv_iadd hx hb dL_law_679 ?_
  refine z_cst (v := 2) (by decide +kernel) ?_
  refine z_sld (v := (xs 2)) (j := 2) hx hb hX hbl hbA hS rfl (Nat.le_of_ble_eq_true rfl) rfl dL_law_680 ?_
  refine lv_aload_n hx hb dL_law_681 rfl (lv_at hl 5 rfl) ?_
  refine lv_iload hx hb dL_law_682 (lv_at hl 1 rfl) ?_
  refine lv_iconst (v := 3) hx hb dL_law_684 (by decide) ?_
  refine lv_iadd hx hb dL_law_685 ?_
  refine z_cst (v := 3) (by decide +kernel) ?_
  refine z_sld (v := (xs 3)) (j := 3) hx hb hX hbl hbA hS rfl (Nat.le_of_ble_eq_true rfl) rfl dL_law_686 ?_
  refine lv_aload_n hx hb dL_law_687 rfl (lv_at hl 5 rfl) ?_
  refine lv_iload hx hb dL_law_688 (lv_at hl 1 rfl) ?_
  refine lv_iconst (v := 4) hx hb dL_law_690 (by decide) ?_
  refine lv_iadd hx hb dL_law_691 ?_
  refine z_cst (v := 4) (by decide +kernel) ?_
  refine z_sld (v := (xs 4)) (j := 4) hx hb hX hbl hbA hS rfl (Nat.le_of_ble_eq_true rfl) rfl dL_law_692 ?_
  refine lv_aload_n hx hb dL_law_693 rfl (lv_at hl 5 rfl) ?_
  refine lv_iload hx hb dL_law_694 (lv_at hl 1 rfl) ?_
  refine lv_iconst (v := 5) hx hb dL_law_696 (by decide) ?_
  refine lv_iadd hx hb dL_law_697 ?_
  refine z_cst (v := 5) (by decide +kernel) ?_
  refine z_sld (v := (xs 5)) (j := 5) hx hb hX hbl hbA hS rfl (Nat.le_of_ble_eq_true rfl) rfl dL_law_698 ?_
  refine lv_aload_n hx hb dL_law_699 rfl (lv_at hl 5 rfl) ?_
  refine lv_iload hx hb dL_law_700 (lv_at hl 1 rfl) ?_
  refine lv_bipush (v := 6) hx hb dL_law_702 (by decide) ?_
  refine lv_iadd hx hb dL_law_704 ?_
  refine z_cst (v := 6) (by decide +kernel) ?_
  refine z_sld (v := (xs 6)) (j := 6) hx hb hX hbl hbA hS rfl (Nat.le_of_ble_eq_true rfl) rfl dL_law_705 ?_
  refine z_calli [(qm, zO 10 83 (zc71 u v))] [(qo, zJ K 1 (fun _ => 0))] [0] [1] hP hD hS hA rfl rfl (by decide +kernel) (by decide +kernel) (by decide +kernel) 125 1863522 rfl rfl (fun hPc hDc hF => z_runV (As := [.int (xs 1), .int (xs 2), .int (xs 3), .int (xs 4), .int (xs 5), .int (xs 6)]) (rest := []) ⟨hx, hb, hml, hown, hg⟩ (cX12_match_7 l K H.size qm (zc71 u v) (xs 1) (xs 2) (xs 3) (xs 4) (xs 5) (xs 6) (zc71_0 u v) (by rw [Int32.lt_iff_toInt_lt, show (0 : Int32).toInt = 0 from by decide]; omega) (by rw [Int32.lt_iff_toInt_lt, show (0 : Int32).toInt = 0 from by decide]; omega) (by rw [Int32.lt_iff_toInt_lt, show (3 : Int32).toInt = 3 from by decide]; omega)) kV_RL_131 hd_X12_match rfl rfl ⟨(Nat.le_of_ble_eq_true rfl), (Nat.le_of_ble_eq_true rfl)⟩ hK hS hZ hPc hDc hF 0 rfl rfl rfl hl.1 rfl (Nat.le_of_ble_eq_true rfl) dL_law_706 ⟨(Nat.le_of_ble_eq_true rfl), (Nat.le_of_ble_eq_true rfl)⟩) (fun r6 u4 H locs w5 hP hD hS => ?_)
  subst w5
  have hP : va_P K.1 classes [(qo, zJ K 1 (fun _ => 0)), (qm, zO 10 83 (va_up (zc71 u v) 81 (.int 1)))] H := hP
  have hD : va_D A [(qo, zJ K 1 (fun _ => 0)), (qm, zO 10 83 (va_up (zc71 u v) 81 (.int 1)))] := hD
  refine lv_istore (lv' := [(6, .int 0), (5, .int 1), (4, .int 0), (3, .ref qo), (2, .ref qm), (1, .ref qx), (0, .ref b)]) hx hb dL_law_709 hl (by decide) rfl (fun ls hl => ?_)
  refine lv_aload_n hx hb dL_law_711 rfl (lv_at hl 4 rfl) ?_
  refine z_calli [(qm, zO 10 83 (va_up (zc71 u v) 81 (.int 1)))] [(qo, zJ K 1 (fun _ => 0))] [1] [0] hP hD hS hA rfl rfl (by decide +kernel) (by decide +kernel) (by decide +kernel) 125 1863522 rfl rfl (fun hPc hDc hF => z_runV (As := []) (rest := []) ⟨hx, hb, hml, hown, hg⟩ (cX12_thrown_2 l K H.size qm (va_up (zc71 u v) 81 (.int 1)) zu_eq) kV_RL_104 hd_X12_thrown rfl rfl ⟨(Nat.le_of_ble_eq_true rfl), (Nat.le_of_ble_eq_true rfl)⟩ hK hS hZ hPc hDc hF 0 rfl rfl rfl hl.1 rfl (Nat.le_of_ble_eq_true rfl) dL_law_712 ⟨(Nat.le_of_ble_eq_true rfl), (Nat.le_of_ble_eq_true rfl)⟩) (fun r9 u7 H locs w8 hP hD hS => ?_)
  subst w8
  have hP : va_P K.1 classes [(qo, zJ K 1 (fun _ => 0)), (qm, zO 10 83 (va_up (zc71 u v) 81 (.int 1)))] H := hP
  have hD : va_D A [(qo, zJ K 1 (fun _ => 0)), (qm, zO 10 83 (va_up (zc71 u v) 81 (.int 1)))] := hD
  refine lv_iload hx hb dL_law_715 (lv_at hl 1 rfl) ?_
  refine lv_icmp_eq (tgt := 722) hx hb dL_law_717 (by decide) (fun _ => ?_) (fun c => absurd (by decide) c)
  refine lv_iload hx hb dL_law_722 (lv_at hl 1 rfl) ?_
  refine lv_if_ne (tgt := 739) hx hb dL_law_724 (by decide) (fun _ => ?_) (fun c => absurd c (by decide))
  refine lv_goto (tgt := 2026) hx hb dL_law_739 (by decide) ?_
  exact law_back ⟨hx, hb, hr, hml, hown, hg, hX, hbl, hlocks, hK, hZ, hl9, hAA, hA, hbA⟩ (Nat.le_of_ble_eq_true rfl) (Nat.le_of_ble_eq_true rfl) hS (lv_sub hl [2, 6] rfl)
set_option maxHeartbeats 4000000 in
set_option maxRecDepth 100000 in
theorem lawS_7_7 {p : Program} {l : Launch} {e : Env} {s : State} {m : MethodId} {below : List Frame} {meth : Method} {c : Code} {b : Nat} {xs : Nat → Int32} {K : zK} {A : Nat → Prop} {H : Heap} {locs : List Loc} {ls : Array Slot} (C : zC p l s m meth c b xs K A) (qx qm qo : Nat) (u v : Nat → Nat) (h0 : 0 ≤ (xs 1).toInt) (h1 : (xs 2).toInt < 0) (hP : va_P K.1 classes (lwW K qx qm qo u v) H) (hD : va_D A (lwW K qx qm qo u v)) (hS : va_S A s.heap H locs) (hl : lv_has ls 7 [(4, .int 0), (3, .ref qo), (2, .ref qm), (1, .ref qx), (0, .ref b)]) : W p l e room_1 s m #[Value.ref b] below meth c H locs 124 1863516 (lw_Z below #[Value.ref b] s) (F0 m 624 ls []) := by
  obtain ⟨hx, hb, hr, hml, hown, hg, hX, hbl, hlocks, hK, hZ, hl9, hAA, hA, hbA⟩ := C
  have hP : va_P K.1 classes [(qx, zO 9 9 (zc0 u v)), ((u 0), zO 7 6 (zc1 u v)), (qm, zO 10 83 (zc71 u v)), (qo, zJ K 1 (fun _ => 0))] H := hP.sub [0, 1, 71, 123] rfl
  have hD : va_D A [(qx, zO 9 9 (zc0 u v)), ((u 0), zO 7 6 (zc1 u v)), (qm, zO 10 83 (zc71 u v)), (qo, zJ K 1 (fun _ => 0))] := hD.sub [0, 1, 71, 123] (by decide +kernel) rfl
  refine lv_aload_n hx hb dL_law_624 rfl (lv_at hl 3 rfl) ?_
  refine lv_aload_n hx hb dL_law_625 rfl (lv_at hl 4 rfl) ?_
  refine lv_iload hx hb dL_law_626 (lv_at hl 0 rfl) ?_
  refine lv_iconst (v := 1) hx hb dL_law_628 (by decide) ?_
  refine lv_iadd hx hb dL_law_629 ?_
  refine z_cst (v := 1) (by decide +kernel) ?_
  refine z_sld (v := (xs 1)) (j := 1) hx hb hX hbl hbA hS rfl (Nat.le_of_ble_eq_true rfl) rfl dL_law_630 ?_
  refine lv_aload_n hx hb dL_law_631 rfl (lv_at hl 4 rfl) ?_
  refine lv_iload hx hb dL_law_632 (lv_at hl 0 rfl) ?_
  refine lv_iconst (v := 2) hx hb dL_law_634 (by decide) ?_
  refine lv_iadd hx hb dL_law_635 ?_
  refine z_cst (v := 2) (by decide +kernel) ?_
  refine z_sld (v := (xs 2)) (j := 2) hx hb hX hbl hbA hS rfl (Nat.le_of_ble_eq_true rfl) rfl dL_law_636 ?_
  refine lv_aload_n hx hb dL_law_637 rfl (lv_at hl 4 rfl) ?_
  refine lv_iload hx hb dL_law_638 (lv_at hl 0 rfl) ?_
  refine lv_iconst (v := 3) hx hb dL_law_640 (by decide) ?_
  refine lv_iadd hx hb dL_law_641 ?_
  refine z_cst (v := 3) (by decide +kernel) ?_
  refine z_sld (v := (xs 3)) (j := 3) hx hb hX hbl hbA hS rfl (Nat.le_of_ble_eq_true rfl) rfl dL_law_642 ?_
  refine lv_aload_n hx hb dL_law_643 rfl (lv_at hl 4 rfl) ?_
  refine lv_iload hx hb dL_law_644 (lv_at hl 0 rfl) ?_
  refine lv_iconst (v := 4) hx hb dL_law_646 (by decide) ?_
  refine lv_iadd hx hb dL_law_647 ?_
  refine z_cst (v := 4) (by decide +kernel) ?_
  refine z_sld (v := (xs 4)) (j := 4) hx hb hX hbl hbA hS rfl (Nat.le_of_ble_eq_true rfl) rfl dL_law_648 ?_
  refine lv_aload_n hx hb dL_law_649 rfl (lv_at hl 4 rfl) ?_
  refine lv_iload hx hb dL_law_650 (lv_at hl 0 rfl) ?_
  refine lv_iconst (v := 5) hx hb dL_law_652 (by decide) ?_
  refine lv_iadd hx hb dL_law_653 ?_
  refine z_cst (v := 5) (by decide +kernel) ?_
  refine z_sld (v := (xs 5)) (j := 5) hx hb hX hbl hbA hS rfl (Nat.le_of_ble_eq_true rfl) rfl dL_law_654 ?_
  refine lv_aload_n hx hb dL_law_655 rfl (lv_at hl 4 rfl) ?_
  refine lv_iload hx hb dL_law_656 (lv_at hl 0 rfl) ?_
  refine lv_bipush (v := 6) hx hb dL_law_658 (by decide) ?_
  refine lv_iadd hx hb dL_law_660 ?_
  refine z_cst (v := 6) (by decide +kernel) ?_
  refine z_sld (v := (xs 6)) (j := 6) hx hb hX hbl hbA hS rfl (Nat.le_of_ble_eq_true rfl) rfl dL_law_661 ?_
  refine lv_aload_n hx hb dL_law_662 rfl (lv_at hl 1 rfl) ?_
  refine z_hcalli [(qx, zO 9 9 (zc0 u v)), ((u 0), zO 7 6 (zc1 u v))] [(qm, zO 10 83 (zc71 u v)), (qo, zJ K 1 (fun _ => 0))] [0, 1] [2, 3] hP hD hS hA rfl rfl (by decide +kernel) (by decide +kernel) (by decide +kernel) 125 1863522 rfl rfl (fun hPc hDc hF => z_xrunH (As := [.ref qx, .int (xs 1), .int (xs 2), .int (xs 3), .int (xs 4), .int (xs 5), .int (xs 6), .ref qo]) (rest := []) ⟨hx, hb, hml, hown, hg⟩ (cL_match_5 l hl9 K H.size qx qo (u 0) (zc0 u v) (zc1 u v) (xs 1) (xs 2) (xs 3) (xs 4) (xs 5) (xs 6) (zc0_0 u v) (by rw [Int32.lt_iff_toInt_lt, show (0 : Int32).toInt = 0 from by decide]; omega) (zc1_5 u v) (by rw [Int32.le_iff_toInt_le, show (0 : Int32).toInt = 0 from by decide]; omega)) kS_RL_128 hd_L_match rfl rfl ⟨(Nat.le_of_ble_eq_true rfl), (Nat.le_of_ble_eq_true rfl)⟩ hK hS hZ hPc hDc hF rfl hl.1 rfl (Nat.le_of_ble_eq_true rfl) dL_law_663 ⟨(Nat.le_of_ble_eq_true rfl), (Nat.le_of_ble_eq_true rfl)⟩) (fun r3 u1 H locs w2 hP hD hS => ?_)
  subst w2
  have hP : va_P K.1 classes [(qm, zO 10 83 (zc71 u v)), (qo, zJ K 1 (fun _ => 0))] H := hP
  have hD : va_D A [(qm, zO 10 83 (zc71 u v)), (qo, zJ K 1 (fun _ => 0))] := hD
  refine lv_istore (lv' := [(5, .int 1), (4, .int 0), (3, .ref qo), (2, .ref qm), (1, .ref qx), (0, .ref b)]) hx hb dL_law_666 hl (by decide) rfl (fun ls hl => ?_)
  refine lv_aload_n hx hb dL_law_668 rfl (lv_at hl 3 rfl) ?_
  refine lv_aload_n hx hb dL_law_669 rfl (lv_at hl 5 rfl) ?_
  refine lv_iload hx hb dL_law_670 (lv_at hl 1 rfl) ?_
  refine lv_iconst (v := 1) hx hb dL_law_672 (by decide) ?_
  refine lv_iadd hx hb dL_law_673 ?_
  refine z_cst (v := 1) (by decide +kernel) ?_
  refine z_sld (v := (xs 1)) (j := 1) hx hb hX hbl hbA hS rfl (Nat.le_of_ble_eq_true rfl) rfl dL_law_674 ?_
  refine lv_aload_n hx hb dL_law_675 rfl (lv_at hl 5 rfl) ?_
  refine lv_iload hx hb dL_law_676 (lv_at hl 1 rfl) ?_
  refine lv_iconst (v := 2) hx hb dL_law_678 (by decide) ?_
  refine lv_iadd hx hb dL_law_679 ?_
  refine z_cst (v := 2) (by decide +kernel) ?_
  refine z_sld (v := (xs 2)) (j := 2) hx hb hX hbl hbA hS rfl (Nat.le_of_ble_eq_true rfl) rfl dL_law_680 ?_
  refine lv_aload_n hx hb dL_law_681 rfl (lv_at hl 5 rfl) ?_
  refine lv_iload hx hb dL_law_682 (lv_at hl 1 rfl) ?_
  refine lv_iconst (v := 3) hx hb dL_law_684 (by decide) ?_
  refine lv_iadd hx hb dL_law_685 ?_
  refine z_cst (v := 3) (by decide +kernel) ?_
  refine z_sld (v := (xs 3)) (j := 3) hx hb hX hbl hbA hS rfl (Nat.le_of_ble_eq_true rfl) rfl dL_law_686 ?_
  refine lv_aload_n hx hb dL_law_687 rfl (lv_at hl 5 rfl) ?_
  refine lv_iload hx hb dL_law_688 (lv_at hl 1 rfl) ?_
  refine lv_iconst (v := 4) hx hb dL_law_690 (by decide) ?_
  refine lv_iadd hx hb dL_law_691 ?_
  refine z_cst (v := 4) (by decide +kernel) ?_
  refine z_sld (v := (xs 4)) (j := 4) hx hb hX hbl hbA hS rfl (Nat.le_of_ble_eq_true rfl) rfl dL_law_692 ?_
  refine lv_aload_n hx hb dL_law_693 rfl (lv_at hl 5 rfl) ?_
  refine lv_iload hx hb dL_law_694 (lv_at hl 1 rfl) ?_
  refine lv_iconst (v := 5) hx hb dL_law_696 (by decide) ?_
  refine lv_iadd hx hb dL_law_697 ?_
  refine z_cst (v := 5) (by decide +kernel) ?_
  refine z_sld (v := (xs 5)) (j := 5) hx hb hX hbl hbA hS rfl (Nat.le_of_ble_eq_true rfl) rfl dL_law_698 ?_
  refine lv_aload_n hx hb dL_law_699 rfl (lv_at hl 5 rfl) ?_
  refine lv_iload hx hb dL_law_700 (lv_at hl 1 rfl) ?_
  refine lv_bipush (v := 6) hx hb dL_law_702 (by decide) ?_
  refine lv_iadd hx hb dL_law_704 ?_
  refine z_cst (v := 6) (by decide +kernel) ?_
  refine z_sld (v := (xs 6)) (j := 6) hx hb hX hbl hbA hS rfl (Nat.le_of_ble_eq_true rfl) rfl dL_law_705 ?_
  refine z_calli [(qm, zO 10 83 (zc71 u v))] [(qo, zJ K 1 (fun _ => 0))] [0] [1] hP hD hS hA rfl rfl (by decide +kernel) (by decide +kernel) (by decide +kernel) 125 1863522 rfl rfl (fun hPc hDc hF => z_runV (As := [.int (xs 1), .int (xs 2), .int (xs 3), .int (xs 4), .int (xs 5), .int (xs 6)]) (rest := []) ⟨hx, hb, hml, hown, hg⟩ (cX12_match_8 l K H.size qm (zc71 u v) (xs 1) (xs 2) (xs 3) (xs 4) (xs 5) (xs 6) (zc71_0 u v) (by rw [Int32.lt_iff_toInt_lt, show (0 : Int32).toInt = 0 from by decide]; omega) (by rw [Int32.lt_iff_toInt_lt, show (-1 : Int32).toInt = -1 from by decide]; omega) (by rw [Int32.lt_iff_toInt_lt, show (0 : Int32).toInt = 0 from by decide]; omega)) kV_RL_131 hd_X12_match rfl rfl ⟨(Nat.le_of_ble_eq_true rfl), (Nat.le_of_ble_eq_true rfl)⟩ hK hS hZ hPc hDc hF 0 rfl rfl rfl hl.1 rfl (Nat.le_of_ble_eq_true rfl) dL_law_706 ⟨(Nat.le_of_ble_eq_true rfl), (Nat.le_of_ble_eq_true rfl)⟩) (fun r6 u4 H locs w5 hP hD hS => ?_)
  subst w5
  have hP : va_P K.1 classes [(qo, zJ K 1 (fun _ => 0)), (qm, zO 10 83 (va_up (zc71 u v) 81 (.int 1)))] H := hP
  have hD : va_D A [(qo, zJ K 1 (fun _ => 0)), (qm, zO 10 83 (va_up (zc71 u v) 81 (.int 1)))] := hD
  refine lv_istore (lv' := [(6, .int 0), (5, .int 1), (4, .int 0), (3, .ref qo), (2, .ref qm), (1, .ref qx), (0, .ref b)]) hx hb dL_law_709 hl (by decide) rfl (fun ls hl => ?_)
  refine lv_aload_n hx hb dL_law_711 rfl (lv_at hl 4 rfl) ?_
  refine z_calli [(qm, zO 10 83 (va_up (zc71 u v) 81 (.int 1)))] [(qo, zJ K 1 (fun _ => 0))] [1] [0] hP hD hS hA rfl rfl (by decide +kernel) (by decide +kernel) (by decide +kernel) 125 1863522 rfl rfl (fun hPc hDc hF => z_runV (As := []) (rest := []) ⟨hx, hb, hml, hown, hg⟩ (cX12_thrown_2 l K H.size qm (va_up (zc71 u v) 81 (.int 1)) zu_eq) kV_RL_104 hd_X12_thrown rfl rfl ⟨(Nat.le_of_ble_eq_true rfl), (Nat.le_of_ble_eq_true rfl)⟩ hK hS hZ hPc hDc hF 0 rfl rfl rfl hl.1 rfl (Nat.le_of_ble_eq_true rfl) dL_law_712 ⟨(Nat.le_of_ble_eq_true rfl), (Nat.le_of_ble_eq_true rfl)⟩) (fun r9 u7 H locs w8 hP hD hS => ?_)
  subst w8
  have hP : va_P K.1 classes [(qo, zJ K 1 (fun _ => 0)), (qm, zO 10 83 (va_up (zc71 u v) 81 (.int 1)))] H := hP
  have hD : va_D A [(qo, zJ K 1 (fun _ => 0)), (qm, zO 10 83 (va_up (zc71 u v) 81 (.int 1)))] := hD
  refine lv_iload hx hb dL_law_715 (lv_at hl 1 rfl) ?_
  refine lv_icmp_eq (tgt := 722) hx hb dL_law_717 (by decide) (fun _ => ?_) (fun c => absurd (by decide) c)
  refine lv_iload hx hb dL_law_722 (lv_at hl 1 rfl) ?_
  refine lv_if_ne (tgt := 739) hx hb dL_law_724 (by decide) (fun _ => ?_) (fun c => absurd c (by decide))
  refine lv_goto (tgt := 2026) hx hb dL_law_739 (by decide) ?_
  exact law_back ⟨hx, hb, hr, hml, hown, hg, hX, hbl, hlocks, hK, hZ, hl9, hAA, hA, hbA⟩ (Nat.le_of_ble_eq_true rfl) (Nat.le_of_ble_eq_true rfl) hS (lv_sub hl [2, 6] rfl)
set_option maxHeartbeats 4000000 in
set_option maxRecDepth 100000 in
theorem lawS_7_8 {p : Program} {l : Launch} {e : Env} {s : State} {m : MethodId} {below : List Frame} {meth : Method} {c : Code} {b : Nat} {xs : Nat → Int32} {K : zK} {A : Nat → Prop} {H : Heap} {locs : List Loc} {ls : Array Slot} (C : zC p l s m meth c b xs K A) (qx qm qo : Nat) (u v : Nat → Nat) (h0 : 0 ≤ (xs 1).toInt) (h1 : 0 ≤ (xs 2).toInt) (h2 : (xs 2).toInt < 4) (h3 : (xs 3).toInt < 0) (hP : va_P K.1 classes (lwW K qx qm qo u v) H) (hD : va_D A (lwW K qx qm qo u v)) (hS : va_S A s.heap H locs) (hl : lv_has ls 7 [(4, .int 0), (3, .ref qo), (2, .ref qm), (1, .ref qx), (0, .ref b)]) : W p l e room_1 s m #[Value.ref b] below meth c H locs 124 1863516 (lw_Z below #[Value.ref b] s) (F0 m 624 ls []) := by
  obtain ⟨hx, hb, hr, hml, hown, hg, hX, hbl, hlocks, hK, hZ, hl9, hAA, hA, hbA⟩ := C
  have hP : va_P K.1 classes [(qx, zO 9 9 (zc0 u v)), ((u 0), zO 7 6 (zc1 u v)), (qm, zO 10 83 (zc71 u v)), (qo, zJ K 1 (fun _ => 0))] H := hP.sub [0, 1, 71, 123] rfl
  have hD : va_D A [(qx, zO 9 9 (zc0 u v)), ((u 0), zO 7 6 (zc1 u v)), (qm, zO 10 83 (zc71 u v)), (qo, zJ K 1 (fun _ => 0))] := hD.sub [0, 1, 71, 123] (by decide +kernel) rfl
  obtain ⟨t2, ht2, v2⟩ : ∃ j : Nat, j < 4 ∧ xs 2 = nI j := z_nat (n := 4) (by omega) (by omega) (by decide)
  refine lv_aload_n hx hb dL_law_624 rfl (lv_at hl 3 rfl) ?_
  refine lv_aload_n hx hb dL_law_625 rfl (lv_at hl 4 rfl) ?_
  refine lv_iload hx hb dL_law_626 (lv_at hl 0 rfl) ?_
  refine lv_iconst (v := 1) hx hb dL_law_628 (by decide) ?_
  refine lv_iadd hx hb dL_law_629 ?_
  refine z_cst (v := 1) (by decide +kernel) ?_
  refine z_sld (v := (xs 1)) (j := 1) hx hb hX hbl hbA hS rfl (Nat.le_of_ble_eq_true rfl) rfl dL_law_630 ?_
  refine lv_aload_n hx hb dL_law_631 rfl (lv_at hl 4 rfl) ?_
  refine lv_iload hx hb dL_law_632 (lv_at hl 0 rfl) ?_
  refine lv_iconst (v := 2) hx hb dL_law_634 (by decide) ?_
  refine lv_iadd hx hb dL_law_635 ?_
  refine z_cst (v := 2) (by decide +kernel) ?_
  refine z_sld (v := (nI t2)) (j := 2) hx hb hX hbl hbA hS rfl (Nat.le_of_ble_eq_true rfl) v2 dL_law_636 ?_
  refine lv_aload_n hx hb dL_law_637 rfl (lv_at hl 4 rfl) ?_
  refine lv_iload hx hb dL_law_638 (lv_at hl 0 rfl) ?_
  refine lv_iconst (v := 3) hx hb dL_law_640 (by decide) ?_
  refine lv_iadd hx hb dL_law_641 ?_
  refine z_cst (v := 3) (by decide +kernel) ?_
  refine z_sld (v := (xs 3)) (j := 3) hx hb hX hbl hbA hS rfl (Nat.le_of_ble_eq_true rfl) rfl dL_law_642 ?_
  refine lv_aload_n hx hb dL_law_643 rfl (lv_at hl 4 rfl) ?_
  refine lv_iload hx hb dL_law_644 (lv_at hl 0 rfl) ?_
  refine lv_iconst (v := 4) hx hb dL_law_646 (by decide) ?_
  refine lv_iadd hx hb dL_law_647 ?_
  refine z_cst (v := 4) (by decide +kernel) ?_
  refine z_sld (v := (xs 4)) (j := 4) hx hb hX hbl hbA hS rfl (Nat.le_of_ble_eq_true rfl) rfl dL_law_648 ?_
  refine lv_aload_n hx hb dL_law_649 rfl (lv_at hl 4 rfl) ?_
  refine lv_iload hx hb dL_law_650 (lv_at hl 0 rfl) ?_
  refine lv_iconst (v := 5) hx hb dL_law_652 (by decide) ?_
  refine lv_iadd hx hb dL_law_653 ?_
  refine z_cst (v := 5) (by decide +kernel) ?_
  refine z_sld (v := (xs 5)) (j := 5) hx hb hX hbl hbA hS rfl (Nat.le_of_ble_eq_true rfl) rfl dL_law_654 ?_
  refine lv_aload_n hx hb dL_law_655 rfl (lv_at hl 4 rfl) ?_
  refine lv_iload hx hb dL_law_656 (lv_at hl 0 rfl) ?_
  refine lv_bipush (v := 6) hx hb dL_law_658 (by decide) ?_
  refine lv_iadd hx hb dL_law_660 ?_
  refine z_cst (v := 6) (by decide +kernel) ?_
  refine z_sld (v := (xs 6)) (j := 6) hx hb hX hbl hbA hS rfl (Nat.le_of_ble_eq_true rfl) rfl dL_law_661 ?_
  refine lv_aload_n hx hb dL_law_662 rfl (lv_at hl 1 rfl) ?_
  refine z_hcalli [(qx, zO 9 9 (zc0 u v)), ((u 0), zO 7 6 (zc1 u v))] [(qm, zO 10 83 (zc71 u v)), (qo, zJ K 1 (fun _ => 0))] [0, 1] [2, 3] hP hD hS hA rfl rfl (by decide +kernel) (by decide +kernel) (by decide +kernel) 125 1863522 rfl rfl (fun hPc hDc hF => z_xrunH (As := [.ref qx, .int (xs 1), .int (nI t2), .int (xs 3), .int (xs 4), .int (xs 5), .int (xs 6), .ref qo]) (rest := []) ⟨hx, hb, hml, hown, hg⟩ (cL_match_6 l hl9 K H.size qx qo (u 0) (zc0 u v) (zc1 u v) (xs 1) t2 ht2 (xs 3) (xs 4) (xs 5) (xs 6) (zc0_0 u v) (by rw [Int32.lt_iff_toInt_lt, show (0 : Int32).toInt = 0 from by decide]; omega) (zc1_5 u v) (by rw [Int32.le_iff_toInt_le, show (0 : Int32).toInt = 0 from by decide]; omega)) kS_RL_128 hd_L_match rfl rfl ⟨(Nat.le_of_ble_eq_true rfl), (Nat.le_of_ble_eq_true rfl)⟩ hK hS hZ hPc hDc hF rfl hl.1 rfl (Nat.le_of_ble_eq_true rfl) dL_law_663 ⟨(Nat.le_of_ble_eq_true rfl), (Nat.le_of_ble_eq_true rfl)⟩) (fun r3 u1 H locs w2 hP hD hS => ?_)
  subst w2
  have hP : va_P K.1 classes [(qm, zO 10 83 (zc71 u v)), (qo, zJ K 1 (fun _ => 0))] H := hP
  have hD : va_D A [(qm, zO 10 83 (zc71 u v)), (qo, zJ K 1 (fun _ => 0))] := hD
  refine lv_istore (lv' := [(5, .int 1), (4, .int 0), (3, .ref qo), (2, .ref qm), (1, .ref qx), (0, .ref b)]) hx hb dL_law_666 hl (by decide) rfl (fun ls hl => ?_)
  refine lv_aload_n hx hb dL_law_668 rfl (lv_at hl 3 rfl) ?_
  refine lv_aload_n hx hb dL_law_669 rfl (lv_at hl 5 rfl) ?_
  refine lv_iload hx hb dL_law_670 (lv_at hl 1 rfl) ?_
  refine lv_iconst (v := 1) hx hb dL_law_672 (by decide) ?_
  refine lv_iadd hx hb dL_law_673 ?_
  refine z_cst (v := 1) (by decide +kernel) ?_
  refine z_sld (v := (xs 1)) (j := 1) hx hb hX hbl hbA hS rfl (Nat.le_of_ble_eq_true rfl) rfl dL_law_674 ?_
  refine lv_aload_n hx hb dL_law_675 rfl (lv_at hl 5 rfl) ?_
  refine lv_iload hx hb dL_law_676 (lv_at hl 1 rfl) ?_
  refine lv_iconst (v := 2) hx hb dL_law_678 (by decide) ?_
  refine lv_iadd hx hb dL_law_679 ?_
  refine z_cst (v := 2) (by decide +kernel) ?_
  refine z_sld (v := (nI t2)) (j := 2) hx hb hX hbl hbA hS rfl (Nat.le_of_ble_eq_true rfl) v2 dL_law_680 ?_
  refine lv_aload_n hx hb dL_law_681 rfl (lv_at hl 5 rfl) ?_
  refine lv_iload hx hb dL_law_682 (lv_at hl 1 rfl) ?_
  refine lv_iconst (v := 3) hx hb dL_law_684 (by decide) ?_
  refine lv_iadd hx hb dL_law_685 ?_
  refine z_cst (v := 3) (by decide +kernel) ?_
  refine z_sld (v := (xs 3)) (j := 3) hx hb hX hbl hbA hS rfl (Nat.le_of_ble_eq_true rfl) rfl dL_law_686 ?_
  refine lv_aload_n hx hb dL_law_687 rfl (lv_at hl 5 rfl) ?_
  refine lv_iload hx hb dL_law_688 (lv_at hl 1 rfl) ?_
  refine lv_iconst (v := 4) hx hb dL_law_690 (by decide) ?_
  refine lv_iadd hx hb dL_law_691 ?_
  refine z_cst (v := 4) (by decide +kernel) ?_
  refine z_sld (v := (xs 4)) (j := 4) hx hb hX hbl hbA hS rfl (Nat.le_of_ble_eq_true rfl) rfl dL_law_692 ?_
  refine lv_aload_n hx hb dL_law_693 rfl (lv_at hl 5 rfl) ?_
  refine lv_iload hx hb dL_law_694 (lv_at hl 1 rfl) ?_
  refine lv_iconst (v := 5) hx hb dL_law_696 (by decide) ?_
  refine lv_iadd hx hb dL_law_697 ?_
  refine z_cst (v := 5) (by decide +kernel) ?_
  refine z_sld (v := (xs 5)) (j := 5) hx hb hX hbl hbA hS rfl (Nat.le_of_ble_eq_true rfl) rfl dL_law_698 ?_
  refine lv_aload_n hx hb dL_law_699 rfl (lv_at hl 5 rfl) ?_
  refine lv_iload hx hb dL_law_700 (lv_at hl 1 rfl) ?_
  refine lv_bipush (v := 6) hx hb dL_law_702 (by decide) ?_
  refine lv_iadd hx hb dL_law_704 ?_
  refine z_cst (v := 6) (by decide +kernel) ?_
  refine z_sld (v := (xs 6)) (j := 6) hx hb hX hbl hbA hS rfl (Nat.le_of_ble_eq_true rfl) rfl dL_law_705 ?_
  refine z_calli [(qm, zO 10 83 (zc71 u v))] [(qo, zJ K 1 (fun _ => 0))] [0] [1] hP hD hS hA rfl rfl (by decide +kernel) (by decide +kernel) (by decide +kernel) 125 1863522 rfl rfl (fun hPc hDc hF => z_runV (As := [.int (xs 1), .int (nI t2), .int (xs 3), .int (xs 4), .int (xs 5), .int (xs 6)]) (rest := []) ⟨hx, hb, hml, hown, hg⟩ (cX12_match_9 l K H.size qm (zc71 u v) (xs 1) t2 ht2 (xs 3) (xs 4) (xs 5) (xs 6) (zc71_0 u v) (by rw [Int32.lt_iff_toInt_lt, show (0 : Int32).toInt = 0 from by decide]; omega) (by rw [Int32.lt_iff_toInt_lt, show (-1 : Int32).toInt = -1 from by decide]; omega) (by rw [Int32.lt_iff_toInt_lt, show (0 : Int32).toInt = 0 from by decide]; omega)) kV_RL_131 hd_X12_match rfl rfl ⟨(Nat.le_of_ble_eq_true rfl), (Nat.le_of_ble_eq_true rfl)⟩ hK hS hZ hPc hDc hF 0 rfl rfl rfl hl.1 rfl (Nat.le_of_ble_eq_true rfl) dL_law_706 ⟨(Nat.le_of_ble_eq_true rfl), (Nat.le_of_ble_eq_true rfl)⟩) (fun r6 u4 H locs w5 hP hD hS => ?_)
  subst w5
  have hP : va_P K.1 classes [(qo, zJ K 1 (fun _ => 0)), (qm, zO 10 83 (va_up (zc71 u v) 81 (.int 1)))] H := hP
  have hD : va_D A [(qo, zJ K 1 (fun _ => 0)), (qm, zO 10 83 (va_up (zc71 u v) 81 (.int 1)))] := hD
  refine lv_istore (lv' := [(6, .int 0), (5, .int 1), (4, .int 0), (3, .ref qo), (2, .ref qm), (1, .ref qx), (0, .ref b)]) hx hb dL_law_709 hl (by decide) rfl (fun ls hl => ?_)
  refine lv_aload_n hx hb dL_law_711 rfl (lv_at hl 4 rfl) ?_
  refine z_calli [(qm, zO 10 83 (va_up (zc71 u v) 81 (.int 1)))] [(qo, zJ K 1 (fun _ => 0))] [1] [0] hP hD hS hA rfl rfl (by decide +kernel) (by decide +kernel) (by decide +kernel) 125 1863522 rfl rfl (fun hPc hDc hF => z_runV (As := []) (rest := []) ⟨hx, hb, hml, hown, hg⟩ (cX12_thrown_2 l K H.size qm (va_up (zc71 u v) 81 (.int 1)) zu_eq) kV_RL_104 hd_X12_thrown rfl rfl ⟨(Nat.le_of_ble_eq_true rfl), (Nat.le_of_ble_eq_true rfl)⟩ hK hS hZ hPc hDc hF 0 rfl rfl rfl hl.1 rfl (Nat.le_of_ble_eq_true rfl) dL_law_712 ⟨(Nat.le_of_ble_eq_true rfl), (Nat.le_of_ble_eq_true rfl)⟩) (fun r9 u7 H locs w8 hP hD hS => ?_)
  subst w8
  have hP : va_P K.1 classes [(qo, zJ K 1 (fun _ => 0)), (qm, zO 10 83 (va_up (zc71 u v) 81 (.int 1)))] H := hP
  have hD : va_D A [(qo, zJ K 1 (fun _ => 0)), (qm, zO 10 83 (va_up (zc71 u v) 81 (.int 1)))] := hD
  refine lv_iload hx hb dL_law_715 (lv_at hl 1 rfl) ?_
  refine lv_icmp_eq (tgt := 722) hx hb dL_law_717 (by decide) (fun _ => ?_) (fun c => absurd (by decide) c)
  refine lv_iload hx hb dL_law_722 (lv_at hl 1 rfl) ?_
  refine lv_if_ne (tgt := 739) hx hb dL_law_724 (by decide) (fun _ => ?_) (fun c => absurd c (by decide))
  refine lv_goto (tgt := 2026) hx hb dL_law_739 (by decide) ?_
  exact law_back ⟨hx, hb, hr, hml, hown, hg, hX, hbl, hlocks, hK, hZ, hl9, hAA, hA, hbA⟩ (Nat.le_of_ble_eq_true rfl) (Nat.le_of_ble_eq_true rfl) hS (lv_sub hl [2, 6] rfl)
set_option maxHeartbeats 4000000 in
set_option maxRecDepth 100000 in
theorem lawS_7_9 {p : Program} {l : Launch} {e : Env} {s : State} {m : MethodId} {below : List Frame} {meth : Method} {c : Code} {b : Nat} {xs : Nat → Int32} {K : zK} {A : Nat → Prop} {H : Heap} {locs : List Loc} {ls : Array Slot} (C : zC p l s m meth c b xs K A) (qx qm qo : Nat) (u v : Nat → Nat) (h0 : 0 ≤ (xs 1).toInt) (h1 : 0 ≤ (xs 2).toInt) (h2 : (xs 2).toInt < 4) (h3 : 0 ≤ (xs 3).toInt) (h4 : (xs 3).toInt < 16) (h5 : (xs 4).toInt < 0) (hP : va_P K.1 classes (lwW K qx qm qo u v) H) (hD : va_D A (lwW K qx qm qo u v)) (hS : va_S A s.heap H locs) (hl : lv_has ls 7 [(4, .int 0), (3, .ref qo), (2, .ref qm), (1, .ref qx), (0, .ref b)]) : W p l e room_1 s m #[Value.ref b] below meth c H locs 124 1863516 (lw_Z below #[Value.ref b] s) (F0 m 624 ls []) := by
  obtain ⟨hx, hb, hr, hml, hown, hg, hX, hbl, hlocks, hK, hZ, hl9, hAA, hA, hbA⟩ := C
  have hP : va_P K.1 classes [(qx, zO 9 9 (zc0 u v)), ((u 0), zO 7 6 (zc1 u v)), (qm, zO 10 83 (zc71 u v)), (qo, zJ K 1 (fun _ => 0))] H := hP.sub [0, 1, 71, 123] rfl
  have hD : va_D A [(qx, zO 9 9 (zc0 u v)), ((u 0), zO 7 6 (zc1 u v)), (qm, zO 10 83 (zc71 u v)), (qo, zJ K 1 (fun _ => 0))] := hD.sub [0, 1, 71, 123] (by decide +kernel) rfl
  obtain ⟨t2, ht2, v2⟩ : ∃ j : Nat, j < 4 ∧ xs 2 = nI j := z_nat (n := 4) (by omega) (by omega) (by decide)
  obtain ⟨t3, ht3, v3⟩ : ∃ j : Nat, j < 16 ∧ xs 3 = nI j := z_nat (n := 16) (by omega) (by omega) (by decide)
  refine lv_aload_n hx hb dL_law_624 rfl (lv_at hl 3 rfl) ?_
  refine lv_aload_n hx hb dL_law_625 rfl (lv_at hl 4 rfl) ?_
  refine lv_iload hx hb dL_law_626 (lv_at hl 0 rfl) ?_
  refine lv_iconst (v := 1) hx hb dL_law_628 (by decide) ?_
  refine lv_iadd hx hb dL_law_629 ?_
  refine z_cst (v := 1) (by decide +kernel) ?_
  refine z_sld (v := (xs 1)) (j := 1) hx hb hX hbl hbA hS rfl (Nat.le_of_ble_eq_true rfl) rfl dL_law_630 ?_
  refine lv_aload_n hx hb dL_law_631 rfl (lv_at hl 4 rfl) ?_
  refine lv_iload hx hb dL_law_632 (lv_at hl 0 rfl) ?_
  refine lv_iconst (v := 2) hx hb dL_law_634 (by decide) ?_
  refine lv_iadd hx hb dL_law_635 ?_
  refine z_cst (v := 2) (by decide +kernel) ?_
  refine z_sld (v := (nI t2)) (j := 2) hx hb hX hbl hbA hS rfl (Nat.le_of_ble_eq_true rfl) v2 dL_law_636 ?_
  refine lv_aload_n hx hb dL_law_637 rfl (lv_at hl 4 rfl) ?_
  refine lv_iload hx hb dL_law_638 (lv_at hl 0 rfl) ?_
  refine lv_iconst (v := 3) hx hb dL_law_640 (by decide) ?_
  refine lv_iadd hx hb dL_law_641 ?_
  refine z_cst (v := 3) (by decide +kernel) ?_
  refine z_sld (v := (nI t3)) (j := 3) hx hb hX hbl hbA hS rfl (Nat.le_of_ble_eq_true rfl) v3 dL_law_642 ?_
  refine lv_aload_n hx hb dL_law_643 rfl (lv_at hl 4 rfl) ?_
  refine lv_iload hx hb dL_law_644 (lv_at hl 0 rfl) ?_
  refine lv_iconst (v := 4) hx hb dL_law_646 (by decide) ?_
  refine lv_iadd hx hb dL_law_647 ?_
  refine z_cst (v := 4) (by decide +kernel) ?_
  refine z_sld (v := (xs 4)) (j := 4) hx hb hX hbl hbA hS rfl (Nat.le_of_ble_eq_true rfl) rfl dL_law_648 ?_
  refine lv_aload_n hx hb dL_law_649 rfl (lv_at hl 4 rfl) ?_
  refine lv_iload hx hb dL_law_650 (lv_at hl 0 rfl) ?_
  refine lv_iconst (v := 5) hx hb dL_law_652 (by decide) ?_
  refine lv_iadd hx hb dL_law_653 ?_
  refine z_cst (v := 5) (by decide +kernel) ?_
  refine z_sld (v := (xs 5)) (j := 5) hx hb hX hbl hbA hS rfl (Nat.le_of_ble_eq_true rfl) rfl dL_law_654 ?_
  refine lv_aload_n hx hb dL_law_655 rfl (lv_at hl 4 rfl) ?_
  refine lv_iload hx hb dL_law_656 (lv_at hl 0 rfl) ?_
  refine lv_bipush (v := 6) hx hb dL_law_658 (by decide) ?_
  refine lv_iadd hx hb dL_law_660 ?_
  refine z_cst (v := 6) (by decide +kernel) ?_
  refine z_sld (v := (xs 6)) (j := 6) hx hb hX hbl hbA hS rfl (Nat.le_of_ble_eq_true rfl) rfl dL_law_661 ?_
  refine lv_aload_n hx hb dL_law_662 rfl (lv_at hl 1 rfl) ?_
  refine z_hcalli [(qx, zO 9 9 (zc0 u v)), ((u 0), zO 7 6 (zc1 u v))] [(qm, zO 10 83 (zc71 u v)), (qo, zJ K 1 (fun _ => 0))] [0, 1] [2, 3] hP hD hS hA rfl rfl (by decide +kernel) (by decide +kernel) (by decide +kernel) 125 1863522 rfl rfl (fun hPc hDc hF => z_xrunH (As := [.ref qx, .int (xs 1), .int (nI t2), .int (nI t3), .int (xs 4), .int (xs 5), .int (xs 6), .ref qo]) (rest := []) ⟨hx, hb, hml, hown, hg⟩ (cL_match_7 l hl9 K H.size qx qo (u 0) (zc0 u v) (zc1 u v) (xs 1) t2 ht2 t3 ht3 (xs 4) (xs 5) (xs 6) (zc0_0 u v) (by rw [Int32.lt_iff_toInt_lt, show (0 : Int32).toInt = 0 from by decide]; omega) (zc1_5 u v) (by rw [Int32.le_iff_toInt_le, show (0 : Int32).toInt = 0 from by decide]; omega)) kS_RL_128 hd_L_match rfl rfl ⟨(Nat.le_of_ble_eq_true rfl), (Nat.le_of_ble_eq_true rfl)⟩ hK hS hZ hPc hDc hF rfl hl.1 rfl (Nat.le_of_ble_eq_true rfl) dL_law_663 ⟨(Nat.le_of_ble_eq_true rfl), (Nat.le_of_ble_eq_true rfl)⟩) (fun r3 u1 H locs w2 hP hD hS => ?_)
  subst w2
  have hP : va_P K.1 classes [(qm, zO 10 83 (zc71 u v)), (qo, zJ K 1 (fun _ => 0))] H := hP
  have hD : va_D A [(qm, zO 10 83 (zc71 u v)), (qo, zJ K 1 (fun _ => 0))] := hD
  refine lv_istore (lv' := [(5, .int 1), (4, .int 0), (3, .ref qo), (2, .ref qm), (1, .ref qx), (0, .ref b)]) hx hb dL_law_666 hl (by decide) rfl (fun ls hl => ?_)
  refine lv_aload_n hx hb dL_law_668 rfl (lv_at hl 3 rfl) ?_
  refine lv_aload_n hx hb dL_law_669 rfl (lv_at hl 5 rfl) ?_
  refine lv_iload hx hb dL_law_670 (lv_at hl 1 rfl) ?_
  refine lv_iconst (v := 1) hx hb dL_law_672 (by decide) ?_
  refine lv_iadd hx hb dL_law_673 ?_
  refine z_cst (v := 1) (by decide +kernel) ?_
  refine z_sld (v := (xs 1)) (j := 1) hx hb hX hbl hbA hS rfl (Nat.le_of_ble_eq_true rfl) rfl dL_law_674 ?_
  refine lv_aload_n hx hb dL_law_675 rfl (lv_at hl 5 rfl) ?_
  refine lv_iload hx hb dL_law_676 (lv_at hl 1 rfl) ?_
  refine lv_iconst (v := 2) hx hb dL_law_678 (by decide) ?_
  refine lv_iadd hx hb dL_law_679 ?_
  refine z_cst (v := 2) (by decide +kernel) ?_
  refine z_sld (v := (nI t2)) (j := 2) hx hb hX hbl hbA hS rfl (Nat.le_of_ble_eq_true rfl) v2 dL_law_680 ?_
  refine lv_aload_n hx hb dL_law_681 rfl (lv_at hl 5 rfl) ?_
  refine lv_iload hx hb dL_law_682 (lv_at hl 1 rfl) ?_
  refine lv_iconst (v := 3) hx hb dL_law_684 (by decide) ?_
  refine lv_iadd hx hb dL_law_685 ?_
  refine z_cst (v := 3) (by decide +kernel) ?_
  refine z_sld (v := (nI t3)) (j := 3) hx hb hX hbl hbA hS rfl (Nat.le_of_ble_eq_true rfl) v3 dL_law_686 ?_
  refine lv_aload_n hx hb dL_law_687 rfl (lv_at hl 5 rfl) ?_
  refine lv_iload hx hb dL_law_688 (lv_at hl 1 rfl) ?_
  refine lv_iconst (v := 4) hx hb dL_law_690 (by decide) ?_
  refine lv_iadd hx hb dL_law_691 ?_
  refine z_cst (v := 4) (by decide +kernel) ?_
  refine z_sld (v := (xs 4)) (j := 4) hx hb hX hbl hbA hS rfl (Nat.le_of_ble_eq_true rfl) rfl dL_law_692 ?_
  refine lv_aload_n hx hb dL_law_693 rfl (lv_at hl 5 rfl) ?_
  refine lv_iload hx hb dL_law_694 (lv_at hl 1 rfl) ?_
  refine lv_iconst (v := 5) hx hb dL_law_696 (by decide) ?_
  refine lv_iadd hx hb dL_law_697 ?_
  refine z_cst (v := 5) (by decide +kernel) ?_
  refine z_sld (v := (xs 5)) (j := 5) hx hb hX hbl hbA hS rfl (Nat.le_of_ble_eq_true rfl) rfl dL_law_698 ?_
  refine lv_aload_n hx hb dL_law_699 rfl (lv_at hl 5 rfl) ?_
  refine lv_iload hx hb dL_law_700 (lv_at hl 1 rfl) ?_
  refine lv_bipush (v := 6) hx hb dL_law_702 (by decide) ?_
  refine lv_iadd hx hb dL_law_704 ?_
  refine z_cst (v := 6) (by decide +kernel) ?_
  refine z_sld (v := (xs 6)) (j := 6) hx hb hX hbl hbA hS rfl (Nat.le_of_ble_eq_true rfl) rfl dL_law_705 ?_
  refine z_calli [(qm, zO 10 83 (zc71 u v))] [(qo, zJ K 1 (fun _ => 0))] [0] [1] hP hD hS hA rfl rfl (by decide +kernel) (by decide +kernel) (by decide +kernel) 125 1863522 rfl rfl (fun hPc hDc hF => z_runV (As := [.int (xs 1), .int (nI t2), .int (nI t3), .int (xs 4), .int (xs 5), .int (xs 6)]) (rest := []) ⟨hx, hb, hml, hown, hg⟩ (cX12_match_10 l K H.size qm (zc71 u v) (xs 1) t2 ht2 t3 ht3 (xs 4) (xs 5) (xs 6) (zc71_0 u v) (by rw [Int32.lt_iff_toInt_lt, show (0 : Int32).toInt = 0 from by decide]; omega) (by rw [Int32.lt_iff_toInt_lt, show (-1 : Int32).toInt = -1 from by decide]; omega) (by rw [Int32.lt_iff_toInt_lt, show (0 : Int32).toInt = 0 from by decide]; omega)) kV_RL_131 hd_X12_match rfl rfl ⟨(Nat.le_of_ble_eq_true rfl), (Nat.le_of_ble_eq_true rfl)⟩ hK hS hZ hPc hDc hF 0 rfl rfl rfl hl.1 rfl (Nat.le_of_ble_eq_true rfl) dL_law_706 ⟨(Nat.le_of_ble_eq_true rfl), (Nat.le_of_ble_eq_true rfl)⟩) (fun r6 u4 H locs w5 hP hD hS => ?_)
  subst w5
  have hP : va_P K.1 classes [(qo, zJ K 1 (fun _ => 0)), (qm, zO 10 83 (va_up (zc71 u v) 81 (.int 1)))] H := hP
  have hD : va_D A [(qo, zJ K 1 (fun _ => 0)), (qm, zO 10 83 (va_up (zc71 u v) 81 (.int 1)))] := hD
  refine lv_istore (lv' := [(6, .int 0), (5, .int 1), (4, .int 0), (3, .ref qo), (2, .ref qm), (1, .ref qx), (0, .ref b)]) hx hb dL_law_709 hl (by decide) rfl (fun ls hl => ?_)
  refine lv_aload_n hx hb dL_law_711 rfl (lv_at hl 4 rfl) ?_
  refine z_calli [(qm, zO 10 83 (va_up (zc71 u v) 81 (.int 1)))] [(qo, zJ K 1 (fun _ => 0))] [1] [0] hP hD hS hA rfl rfl (by decide +kernel) (by decide +kernel) (by decide +kernel) 125 1863522 rfl rfl (fun hPc hDc hF => z_runV (As := []) (rest := []) ⟨hx, hb, hml, hown, hg⟩ (cX12_thrown_2 l K H.size qm (va_up (zc71 u v) 81 (.int 1)) zu_eq) kV_RL_104 hd_X12_thrown rfl rfl ⟨(Nat.le_of_ble_eq_true rfl), (Nat.le_of_ble_eq_true rfl)⟩ hK hS hZ hPc hDc hF 0 rfl rfl rfl hl.1 rfl (Nat.le_of_ble_eq_true rfl) dL_law_712 ⟨(Nat.le_of_ble_eq_true rfl), (Nat.le_of_ble_eq_true rfl)⟩) (fun r9 u7 H locs w8 hP hD hS => ?_)
  subst w8
  have hP : va_P K.1 classes [(qo, zJ K 1 (fun _ => 0)), (qm, zO 10 83 (va_up (zc71 u v) 81 (.int 1)))] H := hP
  have hD : va_D A [(qo, zJ K 1 (fun _ => 0)), (qm, zO 10 83 (va_up (zc71 u v) 81 (.int 1)))] := hD
  refine lv_iload hx hb dL_law_715 (lv_at hl 1 rfl) ?_
  refine lv_icmp_eq (tgt := 722) hx hb dL_law_717 (by decide) (fun _ => ?_) (fun c => absurd (by decide) c)
  refine lv_iload hx hb dL_law_722 (lv_at hl 1 rfl) ?_
  refine lv_if_ne (tgt := 739) hx hb dL_law_724 (by decide) (fun _ => ?_) (fun c => absurd c (by decide))
  refine lv_goto (tgt := 2026) hx hb dL_law_739 (by decide) ?_
  exact law_back ⟨hx, hb, hr, hml, hown, hg, hX, hbl, hlocks, hK, hZ, hl9, hAA, hA, hbA⟩ (Nat.le_of_ble_eq_true rfl) (Nat.le_of_ble_eq_true rfl) hS (lv_sub hl [2, 6] rfl)
set_option maxHeartbeats 4000000 in
set_option maxRecDepth 100000 in
theorem lawS_7_10 {p : Program} {l : Launch} {e : Env} {s : State} {m : MethodId} {below : List Frame} {meth : Method} {c : Code} {b : Nat} {xs : Nat → Int32} {K : zK} {A : Nat → Prop} {H : Heap} {locs : List Loc} {ls : Array Slot} (C : zC p l s m meth c b xs K A) (qx qm qo : Nat) (u v : Nat → Nat) (h0 : 0 ≤ (xs 1).toInt) (h1 : 0 ≤ (xs 2).toInt) (h2 : (xs 2).toInt < 4) (h3 : 0 ≤ (xs 3).toInt) (h4 : (xs 3).toInt < 16) (h5 : 0 ≤ (xs 4).toInt) (h6 : (xs 4).toInt < 16) (hP : va_P K.1 classes (lwW K qx qm qo u v) H) (hD : va_D A (lwW K qx qm qo u v)) (hS : va_S A s.heap H locs) (hl : lv_has ls 7 [(4, .int 0), (3, .ref qo), (2, .ref qm), (1, .ref qx), (0, .ref b)]) : W p l e room_1 s m #[Value.ref b] below meth c H locs 124 1863516 (lw_Z below #[Value.ref b] s) (F0 m 624 ls []) := by
  obtain ⟨hx, hb, hr, hml, hown, hg, hX, hbl, hlocks, hK, hZ, hl9, hAA, hA, hbA⟩ := C
  have hP : va_P K.1 classes [(qx, zO 9 9 (zc0 u v)), ((u 0), zO 7 6 (zc1 u v)), (qm, zO 10 83 (zc71 u v)), (qo, zJ K 1 (fun _ => 0))] H := hP.sub [0, 1, 71, 123] rfl
  have hD : va_D A [(qx, zO 9 9 (zc0 u v)), ((u 0), zO 7 6 (zc1 u v)), (qm, zO 10 83 (zc71 u v)), (qo, zJ K 1 (fun _ => 0))] := hD.sub [0, 1, 71, 123] (by decide +kernel) rfl
  obtain ⟨t2, ht2, v2⟩ : ∃ j : Nat, j < 4 ∧ xs 2 = nI j := z_nat (n := 4) (by omega) (by omega) (by decide)
  obtain ⟨t3, ht3, v3⟩ : ∃ j : Nat, j < 16 ∧ xs 3 = nI j := z_nat (n := 16) (by omega) (by omega) (by decide)
  obtain ⟨t4, ht4, v4⟩ : ∃ j : Nat, j < 16 ∧ xs 4 = nI j := z_nat (n := 16) (by omega) (by omega) (by decide)
  refine lv_aload_n hx hb dL_law_624 rfl (lv_at hl 3 rfl) ?_
  refine lv_aload_n hx hb dL_law_625 rfl (lv_at hl 4 rfl) ?_
  refine lv_iload hx hb dL_law_626 (lv_at hl 0 rfl) ?_
  refine lv_iconst (v := 1) hx hb dL_law_628 (by decide) ?_
  refine lv_iadd hx hb dL_law_629 ?_
  refine z_cst (v := 1) (by decide +kernel) ?_
  refine z_sld (v := (xs 1)) (j := 1) hx hb hX hbl hbA hS rfl (Nat.le_of_ble_eq_true rfl) rfl dL_law_630 ?_
  refine lv_aload_n hx hb dL_law_631 rfl (lv_at hl 4 rfl) ?_
  refine lv_iload hx hb dL_law_632 (lv_at hl 0 rfl) ?_
  refine lv_iconst (v := 2) hx hb dL_law_634 (by decide) ?_
  refine lv_iadd hx hb dL_law_635 ?_
  refine z_cst (v := 2) (by decide +kernel) ?_
  refine z_sld (v := (nI t2)) (j := 2) hx hb hX hbl hbA hS rfl (Nat.le_of_ble_eq_true rfl) v2 dL_law_636 ?_
  refine lv_aload_n hx hb dL_law_637 rfl (lv_at hl 4 rfl) ?_
  refine lv_iload hx hb dL_law_638 (lv_at hl 0 rfl) ?_
  refine lv_iconst (v := 3) hx hb dL_law_640 (by decide) ?_
  refine lv_iadd hx hb dL_law_641 ?_
  refine z_cst (v := 3) (by decide +kernel) ?_
  refine z_sld (v := (nI t3)) (j := 3) hx hb hX hbl hbA hS rfl (Nat.le_of_ble_eq_true rfl) v3 dL_law_642 ?_
  refine lv_aload_n hx hb dL_law_643 rfl (lv_at hl 4 rfl) ?_
  refine lv_iload hx hb dL_law_644 (lv_at hl 0 rfl) ?_
  refine lv_iconst (v := 4) hx hb dL_law_646 (by decide) ?_
  refine lv_iadd hx hb dL_law_647 ?_
  refine z_cst (v := 4) (by decide +kernel) ?_
  refine z_sld (v := (nI t4)) (j := 4) hx hb hX hbl hbA hS rfl (Nat.le_of_ble_eq_true rfl) v4 dL_law_648 ?_
  refine lv_aload_n hx hb dL_law_649 rfl (lv_at hl 4 rfl) ?_
  refine lv_iload hx hb dL_law_650 (lv_at hl 0 rfl) ?_
  refine lv_iconst (v := 5) hx hb dL_law_652 (by decide) ?_
  refine lv_iadd hx hb dL_law_653 ?_
  refine z_cst (v := 5) (by decide +kernel) ?_
  refine z_sld (v := (xs 5)) (j := 5) hx hb hX hbl hbA hS rfl (Nat.le_of_ble_eq_true rfl) rfl dL_law_654 ?_
  refine lv_aload_n hx hb dL_law_655 rfl (lv_at hl 4 rfl) ?_
  refine lv_iload hx hb dL_law_656 (lv_at hl 0 rfl) ?_
  refine lv_bipush (v := 6) hx hb dL_law_658 (by decide) ?_
  refine lv_iadd hx hb dL_law_660 ?_
  refine z_cst (v := 6) (by decide +kernel) ?_
  refine z_sld (v := (xs 6)) (j := 6) hx hb hX hbl hbA hS rfl (Nat.le_of_ble_eq_true rfl) rfl dL_law_661 ?_
  refine lv_aload_n hx hb dL_law_662 rfl (lv_at hl 1 rfl) ?_
  refine z_hcalli [(qx, zO 9 9 (zc0 u v)), ((u 0), zO 7 6 (zc1 u v))] [(qm, zO 10 83 (zc71 u v)), (qo, zJ K 1 (fun _ => 0))] [0, 1] [2, 3] hP hD hS hA rfl rfl (by decide +kernel) (by decide +kernel) (by decide +kernel) 125 1863522 rfl rfl (fun hPc hDc hF => z_xrunH (As := [.ref qx, .int (xs 1), .int (nI t2), .int (nI t3), .int (nI t4), .int (xs 5), .int (xs 6), .ref qo]) (rest := []) ⟨hx, hb, hml, hown, hg⟩ (cL_match_8 l hl9 K H.size qx qo (u 0) (zc0 u v) (zc1 u v) (xs 1) t2 ht2 t3 ht3 t4 ht4 (xs 5) (xs 6) (zc0_0 u v) (by rw [Int32.lt_iff_toInt_lt, show (0 : Int32).toInt = 0 from by decide]; omega) (zc1_5 u v) (by rw [Int32.le_iff_toInt_le, show (0 : Int32).toInt = 0 from by decide]; omega)) kS_RL_128 hd_L_match rfl rfl ⟨(Nat.le_of_ble_eq_true rfl), (Nat.le_of_ble_eq_true rfl)⟩ hK hS hZ hPc hDc hF rfl hl.1 rfl (Nat.le_of_ble_eq_true rfl) dL_law_663 ⟨(Nat.le_of_ble_eq_true rfl), (Nat.le_of_ble_eq_true rfl)⟩) (fun r3 u1 H locs w2 hP hD hS => ?_)
  subst w2
  have hP : va_P K.1 classes [(qm, zO 10 83 (zc71 u v)), (qo, zJ K 1 (fun _ => 0))] H := hP
  have hD : va_D A [(qm, zO 10 83 (zc71 u v)), (qo, zJ K 1 (fun _ => 0))] := hD
  refine lv_istore (lv' := [(5, .int 1), (4, .int 0), (3, .ref qo), (2, .ref qm), (1, .ref qx), (0, .ref b)]) hx hb dL_law_666 hl (by decide) rfl (fun ls hl => ?_)
  refine lv_aload_n hx hb dL_law_668 rfl (lv_at hl 3 rfl) ?_
  refine lv_aload_n hx hb dL_law_669 rfl (lv_at hl 5 rfl) ?_
  refine lv_iload hx hb dL_law_670 (lv_at hl 1 rfl) ?_
  refine lv_iconst (v := 1) hx hb dL_law_672 (by decide) ?_
  refine lv_iadd hx hb dL_law_673 ?_
  refine z_cst (v := 1) (by decide +kernel) ?_
  refine z_sld (v := (xs 1)) (j := 1) hx hb hX hbl hbA hS rfl (Nat.le_of_ble_eq_true rfl) rfl dL_law_674 ?_
  refine lv_aload_n hx hb dL_law_675 rfl (lv_at hl 5 rfl) ?_
  refine lv_iload hx hb dL_law_676 (lv_at hl 1 rfl) ?_
  refine lv_iconst (v := 2) hx hb dL_law_678 (by decide) ?_
  refine lv_iadd hx hb dL_law_679 ?_
  refine z_cst (v := 2) (by decide +kernel) ?_
  refine z_sld (v := (nI t2)) (j := 2) hx hb hX hbl hbA hS rfl (Nat.le_of_ble_eq_true rfl) v2 dL_law_680 ?_
  refine lv_aload_n hx hb dL_law_681 rfl (lv_at hl 5 rfl) ?_
  refine lv_iload hx hb dL_law_682 (lv_at hl 1 rfl) ?_
  refine lv_iconst (v := 3) hx hb dL_law_684 (by decide) ?_
  refine lv_iadd hx hb dL_law_685 ?_
  refine z_cst (v := 3) (by decide +kernel) ?_
  refine z_sld (v := (nI t3)) (j := 3) hx hb hX hbl hbA hS rfl (Nat.le_of_ble_eq_true rfl) v3 dL_law_686 ?_
  refine lv_aload_n hx hb dL_law_687 rfl (lv_at hl 5 rfl) ?_
  refine lv_iload hx hb dL_law_688 (lv_at hl 1 rfl) ?_
  refine lv_iconst (v := 4) hx hb dL_law_690 (by decide) ?_
  refine lv_iadd hx hb dL_law_691 ?_
  refine z_cst (v := 4) (by decide +kernel) ?_
  refine z_sld (v := (nI t4)) (j := 4) hx hb hX hbl hbA hS rfl (Nat.le_of_ble_eq_true rfl) v4 dL_law_692 ?_
  refine lv_aload_n hx hb dL_law_693 rfl (lv_at hl 5 rfl) ?_
  refine lv_iload hx hb dL_law_694 (lv_at hl 1 rfl) ?_
  refine lv_iconst (v := 5) hx hb dL_law_696 (by decide) ?_
  refine lv_iadd hx hb dL_law_697 ?_
  refine z_cst (v := 5) (by decide +kernel) ?_
  refine z_sld (v := (xs 5)) (j := 5) hx hb hX hbl hbA hS rfl (Nat.le_of_ble_eq_true rfl) rfl dL_law_698 ?_
  refine lv_aload_n hx hb dL_law_699 rfl (lv_at hl 5 rfl) ?_
  refine lv_iload hx hb dL_law_700 (lv_at hl 1 rfl) ?_
  refine lv_bipush (v := 6) hx hb dL_law_702 (by decide) ?_
  refine lv_iadd hx hb dL_law_704 ?_
  refine z_cst (v := 6) (by decide +kernel) ?_
  refine z_sld (v := (xs 6)) (j := 6) hx hb hX hbl hbA hS rfl (Nat.le_of_ble_eq_true rfl) rfl dL_law_705 ?_
  refine z_calli [(qm, zO 10 83 (zc71 u v))] [(qo, zJ K 1 (fun _ => 0))] [0] [1] hP hD hS hA rfl rfl (by decide +kernel) (by decide +kernel) (by decide +kernel) 125 1863522 rfl rfl (fun hPc hDc hF => z_runV (As := [.int (xs 1), .int (nI t2), .int (nI t3), .int (nI t4), .int (xs 5), .int (xs 6)]) (rest := []) ⟨hx, hb, hml, hown, hg⟩ (cX12_match_11 l K H.size qm (zc71 u v) (xs 1) t2 ht2 t3 ht3 t4 ht4 (xs 5) (xs 6) (zc71_0 u v) (by rw [Int32.lt_iff_toInt_lt, show (0 : Int32).toInt = 0 from by decide]; omega) (by rw [Int32.lt_iff_toInt_lt, show (-1 : Int32).toInt = -1 from by decide]; omega)) kV_RL_131 hd_X12_match rfl rfl ⟨(Nat.le_of_ble_eq_true rfl), (Nat.le_of_ble_eq_true rfl)⟩ hK hS hZ hPc hDc hF 0 rfl rfl rfl hl.1 rfl (Nat.le_of_ble_eq_true rfl) dL_law_706 ⟨(Nat.le_of_ble_eq_true rfl), (Nat.le_of_ble_eq_true rfl)⟩) (fun r6 u4 H locs w5 hP hD hS => ?_)
  subst w5
  have hP : va_P K.1 classes [(qo, zJ K 1 (fun _ => 0)), (qm, zO 10 83 (va_up (zc71 u v) 81 (.int 1)))] H := hP
  have hD : va_D A [(qo, zJ K 1 (fun _ => 0)), (qm, zO 10 83 (va_up (zc71 u v) 81 (.int 1)))] := hD
  refine lv_istore (lv' := [(6, .int 0), (5, .int 1), (4, .int 0), (3, .ref qo), (2, .ref qm), (1, .ref qx), (0, .ref b)]) hx hb dL_law_709 hl (by decide) rfl (fun ls hl => ?_)
  refine lv_aload_n hx hb dL_law_711 rfl (lv_at hl 4 rfl) ?_
  refine z_calli [(qm, zO 10 83 (va_up (zc71 u v) 81 (.int 1)))] [(qo, zJ K 1 (fun _ => 0))] [1] [0] hP hD hS hA rfl rfl (by decide +kernel) (by decide +kernel) (by decide +kernel) 125 1863522 rfl rfl (fun hPc hDc hF => z_runV (As := []) (rest := []) ⟨hx, hb, hml, hown, hg⟩ (cX12_thrown_2 l K H.size qm (va_up (zc71 u v) 81 (.int 1)) zu_eq) kV_RL_104 hd_X12_thrown rfl rfl ⟨(Nat.le_of_ble_eq_true rfl), (Nat.le_of_ble_eq_true rfl)⟩ hK hS hZ hPc hDc hF 0 rfl rfl rfl hl.1 rfl (Nat.le_of_ble_eq_true rfl) dL_law_712 ⟨(Nat.le_of_ble_eq_true rfl), (Nat.le_of_ble_eq_true rfl)⟩) (fun r9 u7 H locs w8 hP hD hS => ?_)
  subst w8
  have hP : va_P K.1 classes [(qo, zJ K 1 (fun _ => 0)), (qm, zO 10 83 (va_up (zc71 u v) 81 (.int 1)))] H := hP
  have hD : va_D A [(qo, zJ K 1 (fun _ => 0)), (qm, zO 10 83 (va_up (zc71 u v) 81 (.int 1)))] := hD
  refine lv_iload hx hb dL_law_715 (lv_at hl 1 rfl) ?_
  refine lv_icmp_eq (tgt := 722) hx hb dL_law_717 (by decide) (fun _ => ?_) (fun c => absurd (by decide) c)
  refine lv_iload hx hb dL_law_722 (lv_at hl 1 rfl) ?_
  refine lv_if_ne (tgt := 739) hx hb dL_law_724 (by decide) (fun _ => ?_) (fun c => absurd c (by decide))
  refine lv_goto (tgt := 2026) hx hb dL_law_739 (by decide) ?_
  exact law_back ⟨hx, hb, hr, hml, hown, hg, hX, hbl, hlocks, hK, hZ, hl9, hAA, hA, hbA⟩ (Nat.le_of_ble_eq_true rfl) (Nat.le_of_ble_eq_true rfl) hS (lv_sub hl [2, 6] rfl)
set_option maxHeartbeats 4000000 in
set_option maxRecDepth 100000 in
theorem lawS_7_11 {p : Program} {l : Launch} {e : Env} {s : State} {m : MethodId} {below : List Frame} {meth : Method} {c : Code} {b : Nat} {xs : Nat → Int32} {K : zK} {A : Nat → Prop} {H : Heap} {locs : List Loc} {ls : Array Slot} (C : zC p l s m meth c b xs K A) (qx qm qo : Nat) (u v : Nat → Nat) (h0 : 0 ≤ (xs 1).toInt) (h1 : 0 ≤ (xs 2).toInt) (h2 : (xs 2).toInt < 4) (h3 : 0 ≤ (xs 3).toInt) (h4 : (xs 3).toInt < 16) (h5 : 0 ≤ (xs 4).toInt) (h6 : 16 ≤ (xs 4).toInt) (hP : va_P K.1 classes (lwW K qx qm qo u v) H) (hD : va_D A (lwW K qx qm qo u v)) (hS : va_S A s.heap H locs) (hl : lv_has ls 7 [(4, .int 0), (3, .ref qo), (2, .ref qm), (1, .ref qx), (0, .ref b)]) : W p l e room_1 s m #[Value.ref b] below meth c H locs 124 1863516 (lw_Z below #[Value.ref b] s) (F0 m 624 ls []) := by
  obtain ⟨hx, hb, hr, hml, hown, hg, hX, hbl, hlocks, hK, hZ, hl9, hAA, hA, hbA⟩ := C
  have hP : va_P K.1 classes [(qx, zO 9 9 (zc0 u v)), ((u 0), zO 7 6 (zc1 u v)), (qm, zO 10 83 (zc71 u v)), (qo, zJ K 1 (fun _ => 0))] H := hP.sub [0, 1, 71, 123] rfl
  have hD : va_D A [(qx, zO 9 9 (zc0 u v)), ((u 0), zO 7 6 (zc1 u v)), (qm, zO 10 83 (zc71 u v)), (qo, zJ K 1 (fun _ => 0))] := hD.sub [0, 1, 71, 123] (by decide +kernel) rfl
  obtain ⟨t2, ht2, v2⟩ : ∃ j : Nat, j < 4 ∧ xs 2 = nI j := z_nat (n := 4) (by omega) (by omega) (by decide)
  obtain ⟨t3, ht3, v3⟩ : ∃ j : Nat, j < 16 ∧ xs 3 = nI j := z_nat (n := 16) (by omega) (by omega) (by decide)
  refine lv_aload_n hx hb dL_law_624 rfl (lv_at hl 3 rfl) ?_
  refine lv_aload_n hx hb dL_law_625 rfl (lv_at hl 4 rfl) ?_
  refine lv_iload hx hb dL_law_626 (lv_at hl 0 rfl) ?_
  refine lv_iconst (v := 1) hx hb dL_law_628 (by decide) ?_
  refine lv_iadd hx hb dL_law_629 ?_
  refine z_cst (v := 1) (by decide +kernel) ?_
  refine z_sld (v := (xs 1)) (j := 1) hx hb hX hbl hbA hS rfl (Nat.le_of_ble_eq_true rfl) rfl dL_law_630 ?_
  refine lv_aload_n hx hb dL_law_631 rfl (lv_at hl 4 rfl) ?_
  refine lv_iload hx hb dL_law_632 (lv_at hl 0 rfl) ?_
  refine lv_iconst (v := 2) hx hb dL_law_634 (by decide) ?_
  refine lv_iadd hx hb dL_law_635 ?_
  refine z_cst (v := 2) (by decide +kernel) ?_
  refine z_sld (v := (nI t2)) (j := 2) hx hb hX hbl hbA hS rfl (Nat.le_of_ble_eq_true rfl) v2 dL_law_636 ?_
  refine lv_aload_n hx hb dL_law_637 rfl (lv_at hl 4 rfl) ?_
  refine lv_iload hx hb dL_law_638 (lv_at hl 0 rfl) ?_
  refine lv_iconst (v := 3) hx hb dL_law_640 (by decide) ?_
  refine lv_iadd hx hb dL_law_641 ?_
  refine z_cst (v := 3) (by decide +kernel) ?_
  refine z_sld (v := (nI t3)) (j := 3) hx hb hX hbl hbA hS rfl (Nat.le_of_ble_eq_true rfl) v3 dL_law_642 ?_
  refine lv_aload_n hx hb dL_law_643 rfl (lv_at hl 4 rfl) ?_
  refine lv_iload hx hb dL_law_644 (lv_at hl 0 rfl) ?_
  refine lv_iconst (v := 4) hx hb dL_law_646 (by decide) ?_
  refine lv_iadd hx hb dL_law_647 ?_
  refine z_cst (v := 4) (by decide +kernel) ?_
  refine z_sld (v := (xs 4)) (j := 4) hx hb hX hbl hbA hS rfl (Nat.le_of_ble_eq_true rfl) rfl dL_law_648 ?_
  refine lv_aload_n hx hb dL_law_649 rfl (lv_at hl 4 rfl) ?_
  refine lv_iload hx hb dL_law_650 (lv_at hl 0 rfl) ?_
  refine lv_iconst (v := 5) hx hb dL_law_652 (by decide) ?_
  refine lv_iadd hx hb dL_law_653 ?_
  refine z_cst (v := 5) (by decide +kernel) ?_
  refine z_sld (v := (xs 5)) (j := 5) hx hb hX hbl hbA hS rfl (Nat.le_of_ble_eq_true rfl) rfl dL_law_654 ?_
  refine lv_aload_n hx hb dL_law_655 rfl (lv_at hl 4 rfl) ?_
  refine lv_iload hx hb dL_law_656 (lv_at hl 0 rfl) ?_
  refine lv_bipush (v := 6) hx hb dL_law_658 (by decide) ?_
  refine lv_iadd hx hb dL_law_660 ?_
  refine z_cst (v := 6) (by decide +kernel) ?_
  refine z_sld (v := (xs 6)) (j := 6) hx hb hX hbl hbA hS rfl (Nat.le_of_ble_eq_true rfl) rfl dL_law_661 ?_
  refine lv_aload_n hx hb dL_law_662 rfl (lv_at hl 1 rfl) ?_
  refine z_hcalli [(qx, zO 9 9 (zc0 u v)), ((u 0), zO 7 6 (zc1 u v))] [(qm, zO 10 83 (zc71 u v)), (qo, zJ K 1 (fun _ => 0))] [0, 1] [2, 3] hP hD hS hA rfl rfl (by decide +kernel) (by decide +kernel) (by decide +kernel) 125 1863522 rfl rfl (fun hPc hDc hF => z_xrunH (As := [.ref qx, .int (xs 1), .int (nI t2), .int (nI t3), .int (xs 4), .int (xs 5), .int (xs 6), .ref qo]) (rest := []) ⟨hx, hb, hml, hown, hg⟩ (cL_match_7 l hl9 K H.size qx qo (u 0) (zc0 u v) (zc1 u v) (xs 1) t2 ht2 t3 ht3 (xs 4) (xs 5) (xs 6) (zc0_0 u v) (by rw [Int32.lt_iff_toInt_lt, show (0 : Int32).toInt = 0 from by decide]; omega) (zc1_5 u v) (by rw [Int32.le_iff_toInt_le, show (0 : Int32).toInt = 0 from by decide]; omega)) kS_RL_128 hd_L_match rfl rfl ⟨(Nat.le_of_ble_eq_true rfl), (Nat.le_of_ble_eq_true rfl)⟩ hK hS hZ hPc hDc hF rfl hl.1 rfl (Nat.le_of_ble_eq_true rfl) dL_law_663 ⟨(Nat.le_of_ble_eq_true rfl), (Nat.le_of_ble_eq_true rfl)⟩) (fun r3 u1 H locs w2 hP hD hS => ?_)
  subst w2
  have hP : va_P K.1 classes [(qm, zO 10 83 (zc71 u v)), (qo, zJ K 1 (fun _ => 0))] H := hP
  have hD : va_D A [(qm, zO 10 83 (zc71 u v)), (qo, zJ K 1 (fun _ => 0))] := hD
  refine lv_istore (lv' := [(5, .int 1), (4, .int 0), (3, .ref qo), (2, .ref qm), (1, .ref qx), (0, .ref b)]) hx hb dL_law_666 hl (by decide) rfl (fun ls hl => ?_)
  refine lv_aload_n hx hb dL_law_668 rfl (lv_at hl 3 rfl) ?_
  refine lv_aload_n hx hb dL_law_669 rfl (lv_at hl 5 rfl) ?_
  refine lv_iload hx hb dL_law_670 (lv_at hl 1 rfl) ?_
  refine lv_iconst (v := 1) hx hb dL_law_672 (by decide) ?_
  refine lv_iadd hx hb dL_law_673 ?_
  refine z_cst (v := 1) (by decide +kernel) ?_
  refine z_sld (v := (xs 1)) (j := 1) hx hb hX hbl hbA hS rfl (Nat.le_of_ble_eq_true rfl) rfl dL_law_674 ?_
  refine lv_aload_n hx hb dL_law_675 rfl (lv_at hl 5 rfl) ?_
  refine lv_iload hx hb dL_law_676 (lv_at hl 1 rfl) ?_
  refine lv_iconst (v := 2) hx hb dL_law_678 (by decide) ?_
  refine lv_iadd hx hb dL_law_679 ?_
  refine z_cst (v := 2) (by decide +kernel) ?_
  refine z_sld (v := (nI t2)) (j := 2) hx hb hX hbl hbA hS rfl (Nat.le_of_ble_eq_true rfl) v2 dL_law_680 ?_
  refine lv_aload_n hx hb dL_law_681 rfl (lv_at hl 5 rfl) ?_
  refine lv_iload hx hb dL_law_682 (lv_at hl 1 rfl) ?_
  refine lv_iconst (v := 3) hx hb dL_law_684 (by decide) ?_
  refine lv_iadd hx hb dL_law_685 ?_
  refine z_cst (v := 3) (by decide +kernel) ?_
  refine z_sld (v := (nI t3)) (j := 3) hx hb hX hbl hbA hS rfl (Nat.le_of_ble_eq_true rfl) v3 dL_law_686 ?_
  refine lv_aload_n hx hb dL_law_687 rfl (lv_at hl 5 rfl) ?_
  refine lv_iload hx hb dL_law_688 (lv_at hl 1 rfl) ?_
  refine lv_iconst (v := 4) hx hb dL_law_690 (by decide) ?_
  refine lv_iadd hx hb dL_law_691 ?_
  refine z_cst (v := 4) (by decide +kernel) ?_
  refine z_sld (v := (xs 4)) (j := 4) hx hb hX hbl hbA hS rfl (Nat.le_of_ble_eq_true rfl) rfl dL_law_692 ?_
  refine lv_aload_n hx hb dL_law_693 rfl (lv_at hl 5 rfl) ?_
  refine lv_iload hx hb dL_law_694 (lv_at hl 1 rfl) ?_
  refine lv_iconst (v := 5) hx hb dL_law_696 (by decide) ?_
  refine lv_iadd hx hb dL_law_697 ?_
  refine z_cst (v := 5) (by decide +kernel) ?_
  refine z_sld (v := (xs 5)) (j := 5) hx hb hX hbl hbA hS rfl (Nat.le_of_ble_eq_true rfl) rfl dL_law_698 ?_
  refine lv_aload_n hx hb dL_law_699 rfl (lv_at hl 5 rfl) ?_
  refine lv_iload hx hb dL_law_700 (lv_at hl 1 rfl) ?_
  refine lv_bipush (v := 6) hx hb dL_law_702 (by decide) ?_
  refine lv_iadd hx hb dL_law_704 ?_
  refine z_cst (v := 6) (by decide +kernel) ?_
  refine z_sld (v := (xs 6)) (j := 6) hx hb hX hbl hbA hS rfl (Nat.le_of_ble_eq_true rfl) rfl dL_law_705 ?_
  refine z_calli [(qm, zO 10 83 (zc71 u v))] [(qo, zJ K 1 (fun _ => 0))] [0] [1] hP hD hS hA rfl rfl (by decide +kernel) (by decide +kernel) (by decide +kernel) 125 1863522 rfl rfl (fun hPc hDc hF => z_runV (As := [.int (xs 1), .int (nI t2), .int (nI t3), .int (xs 4), .int (xs 5), .int (xs 6)]) (rest := []) ⟨hx, hb, hml, hown, hg⟩ (cX12_match_12 l K H.size qm (zc71 u v) (xs 1) t2 ht2 t3 ht3 (xs 4) (xs 5) (xs 6) (zc71_0 u v) (by rw [Int32.lt_iff_toInt_lt, show (0 : Int32).toInt = 0 from by decide]; omega) (by rw [Int32.lt_iff_toInt_lt, show (-1 : Int32).toInt = -1 from by decide]; omega) (by rw [Int32.lt_iff_toInt_lt, show (0 : Int32).toInt = 0 from by decide]; omega) (by rw [Int32.lt_iff_toInt_lt, show (15 : Int32).toInt = 15 from by decide]; omega)) kV_RL_131 hd_X12_match rfl rfl ⟨(Nat.le_of_ble_eq_true rfl), (Nat.le_of_ble_eq_true rfl)⟩ hK hS hZ hPc hDc hF 0 rfl rfl rfl hl.1 rfl (Nat.le_of_ble_eq_true rfl) dL_law_706 ⟨(Nat.le_of_ble_eq_true rfl), (Nat.le_of_ble_eq_true rfl)⟩) (fun r6 u4 H locs w5 hP hD hS => ?_)
  subst w5
  have hP : va_P K.1 classes [(qo, zJ K 1 (fun _ => 0)), (qm, zO 10 83 (va_up (zc71 u v) 81 (.int 1)))] H := hP
  have hD : va_D A [(qo, zJ K 1 (fun _ => 0)), (qm, zO 10 83 (va_up (zc71 u v) 81 (.int 1)))] := hD
  refine lv_istore (lv' := [(6, .int 0), (5, .int 1), (4, .int 0), (3, .ref qo), (2, .ref qm), (1, .ref qx), (0, .ref b)]) hx hb dL_law_709 hl (by decide) rfl (fun ls hl => ?_)
  refine lv_aload_n hx hb dL_law_711 rfl (lv_at hl 4 rfl) ?_
  refine z_calli [(qm, zO 10 83 (va_up (zc71 u v) 81 (.int 1)))] [(qo, zJ K 1 (fun _ => 0))] [1] [0] hP hD hS hA rfl rfl (by decide +kernel) (by decide +kernel) (by decide +kernel) 125 1863522 rfl rfl (fun hPc hDc hF => z_runV (As := []) (rest := []) ⟨hx, hb, hml, hown, hg⟩ (cX12_thrown_2 l K H.size qm (va_up (zc71 u v) 81 (.int 1)) zu_eq) kV_RL_104 hd_X12_thrown rfl rfl ⟨(Nat.le_of_ble_eq_true rfl), (Nat.le_of_ble_eq_true rfl)⟩ hK hS hZ hPc hDc hF 0 rfl rfl rfl hl.1 rfl (Nat.le_of_ble_eq_true rfl) dL_law_712 ⟨(Nat.le_of_ble_eq_true rfl), (Nat.le_of_ble_eq_true rfl)⟩) (fun r9 u7 H locs w8 hP hD hS => ?_)
  subst w8
  have hP : va_P K.1 classes [(qo, zJ K 1 (fun _ => 0)), (qm, zO 10 83 (va_up (zc71 u v) 81 (.int 1)))] H := hP
  have hD : va_D A [(qo, zJ K 1 (fun _ => 0)), (qm, zO 10 83 (va_up (zc71 u v) 81 (.int 1)))] := hD
  refine lv_iload hx hb dL_law_715 (lv_at hl 1 rfl) ?_
  refine lv_icmp_eq (tgt := 722) hx hb dL_law_717 (by decide) (fun _ => ?_) (fun c => absurd (by decide) c)
  refine lv_iload hx hb dL_law_722 (lv_at hl 1 rfl) ?_
  refine lv_if_ne (tgt := 739) hx hb dL_law_724 (by decide) (fun _ => ?_) (fun c => absurd c (by decide))
  refine lv_goto (tgt := 2026) hx hb dL_law_739 (by decide) ?_
  exact law_back ⟨hx, hb, hr, hml, hown, hg, hX, hbl, hlocks, hK, hZ, hl9, hAA, hA, hbA⟩ (Nat.le_of_ble_eq_true rfl) (Nat.le_of_ble_eq_true rfl) hS (lv_sub hl [2, 6] rfl)
set_option maxHeartbeats 4000000 in
set_option maxRecDepth 100000 in
theorem lawS_7_12 {p : Program} {l : Launch} {e : Env} {s : State} {m : MethodId} {below : List Frame} {meth : Method} {c : Code} {b : Nat} {xs : Nat → Int32} {K : zK} {A : Nat → Prop} {H : Heap} {locs : List Loc} {ls : Array Slot} (C : zC p l s m meth c b xs K A) (qx qm qo : Nat) (u v : Nat → Nat) (h0 : 0 ≤ (xs 1).toInt) (h1 : 0 ≤ (xs 2).toInt) (h2 : (xs 2).toInt < 4) (h3 : 0 ≤ (xs 3).toInt) (h4 : 16 ≤ (xs 3).toInt) (hP : va_P K.1 classes (lwW K qx qm qo u v) H) (hD : va_D A (lwW K qx qm qo u v)) (hS : va_S A s.heap H locs) (hl : lv_has ls 7 [(4, .int 0), (3, .ref qo), (2, .ref qm), (1, .ref qx), (0, .ref b)]) : W p l e room_1 s m #[Value.ref b] below meth c H locs 124 1863516 (lw_Z below #[Value.ref b] s) (F0 m 624 ls []) := by
  obtain ⟨hx, hb, hr, hml, hown, hg, hX, hbl, hlocks, hK, hZ, hl9, hAA, hA, hbA⟩ := C
  have hP : va_P K.1 classes [(qx, zO 9 9 (zc0 u v)), ((u 0), zO 7 6 (zc1 u v)), (qm, zO 10 83 (zc71 u v)), (qo, zJ K 1 (fun _ => 0))] H := hP.sub [0, 1, 71, 123] rfl
  have hD : va_D A [(qx, zO 9 9 (zc0 u v)), ((u 0), zO 7 6 (zc1 u v)), (qm, zO 10 83 (zc71 u v)), (qo, zJ K 1 (fun _ => 0))] := hD.sub [0, 1, 71, 123] (by decide +kernel) rfl
  obtain ⟨t2, ht2, v2⟩ : ∃ j : Nat, j < 4 ∧ xs 2 = nI j := z_nat (n := 4) (by omega) (by omega) (by decide)
  refine lv_aload_n hx hb dL_law_624 rfl (lv_at hl 3 rfl) ?_
  refine lv_aload_n hx hb dL_law_625 rfl (lv_at hl 4 rfl) ?_
  refine lv_iload hx hb dL_law_626 (lv_at hl 0 rfl) ?_
  refine lv_iconst (v := 1) hx hb dL_law_628 (by decide) ?_
  refine lv_iadd hx hb dL_law_629 ?_
  refine z_cst (v := 1) (by decide +kernel) ?_
  refine z_sld (v := (xs 1)) (j := 1) hx hb hX hbl hbA hS rfl (Nat.le_of_ble_eq_true rfl) rfl dL_law_630 ?_
  refine lv_aload_n hx hb dL_law_631 rfl (lv_at hl 4 rfl) ?_
  refine lv_iload hx hb dL_law_632 (lv_at hl 0 rfl) ?_
  refine lv_iconst (v := 2) hx hb dL_law_634 (by decide) ?_
  refine lv_iadd hx hb dL_law_635 ?_
  refine z_cst (v := 2) (by decide +kernel) ?_
  refine z_sld (v := (nI t2)) (j := 2) hx hb hX hbl hbA hS rfl (Nat.le_of_ble_eq_true rfl) v2 dL_law_636 ?_
  refine lv_aload_n hx hb dL_law_637 rfl (lv_at hl 4 rfl) ?_
  refine lv_iload hx hb dL_law_638 (lv_at hl 0 rfl) ?_
  refine lv_iconst (v := 3) hx hb dL_law_640 (by decide) ?_
  refine lv_iadd hx hb dL_law_641 ?_
  refine z_cst (v := 3) (by decide +kernel) ?_
  refine z_sld (v := (xs 3)) (j := 3) hx hb hX hbl hbA hS rfl (Nat.le_of_ble_eq_true rfl) rfl dL_law_642 ?_
  refine lv_aload_n hx hb dL_law_643 rfl (lv_at hl 4 rfl) ?_
  refine lv_iload hx hb dL_law_644 (lv_at hl 0 rfl) ?_
  refine lv_iconst (v := 4) hx hb dL_law_646 (by decide) ?_
  refine lv_iadd hx hb dL_law_647 ?_
  refine z_cst (v := 4) (by decide +kernel) ?_
  refine z_sld (v := (xs 4)) (j := 4) hx hb hX hbl hbA hS rfl (Nat.le_of_ble_eq_true rfl) rfl dL_law_648 ?_
  refine lv_aload_n hx hb dL_law_649 rfl (lv_at hl 4 rfl) ?_
  refine lv_iload hx hb dL_law_650 (lv_at hl 0 rfl) ?_
  refine lv_iconst (v := 5) hx hb dL_law_652 (by decide) ?_
  refine lv_iadd hx hb dL_law_653 ?_
  refine z_cst (v := 5) (by decide +kernel) ?_
  refine z_sld (v := (xs 5)) (j := 5) hx hb hX hbl hbA hS rfl (Nat.le_of_ble_eq_true rfl) rfl dL_law_654 ?_
  refine lv_aload_n hx hb dL_law_655 rfl (lv_at hl 4 rfl) ?_
  refine lv_iload hx hb dL_law_656 (lv_at hl 0 rfl) ?_
  refine lv_bipush (v := 6) hx hb dL_law_658 (by decide) ?_
  refine lv_iadd hx hb dL_law_660 ?_
  refine z_cst (v := 6) (by decide +kernel) ?_
  refine z_sld (v := (xs 6)) (j := 6) hx hb hX hbl hbA hS rfl (Nat.le_of_ble_eq_true rfl) rfl dL_law_661 ?_
  refine lv_aload_n hx hb dL_law_662 rfl (lv_at hl 1 rfl) ?_
  refine z_hcalli [(qx, zO 9 9 (zc0 u v)), ((u 0), zO 7 6 (zc1 u v))] [(qm, zO 10 83 (zc71 u v)), (qo, zJ K 1 (fun _ => 0))] [0, 1] [2, 3] hP hD hS hA rfl rfl (by decide +kernel) (by decide +kernel) (by decide +kernel) 125 1863522 rfl rfl (fun hPc hDc hF => z_xrunH (As := [.ref qx, .int (xs 1), .int (nI t2), .int (xs 3), .int (xs 4), .int (xs 5), .int (xs 6), .ref qo]) (rest := []) ⟨hx, hb, hml, hown, hg⟩ (cL_match_6 l hl9 K H.size qx qo (u 0) (zc0 u v) (zc1 u v) (xs 1) t2 ht2 (xs 3) (xs 4) (xs 5) (xs 6) (zc0_0 u v) (by rw [Int32.lt_iff_toInt_lt, show (0 : Int32).toInt = 0 from by decide]; omega) (zc1_5 u v) (by rw [Int32.le_iff_toInt_le, show (0 : Int32).toInt = 0 from by decide]; omega)) kS_RL_128 hd_L_match rfl rfl ⟨(Nat.le_of_ble_eq_true rfl), (Nat.le_of_ble_eq_true rfl)⟩ hK hS hZ hPc hDc hF rfl hl.1 rfl (Nat.le_of_ble_eq_true rfl) dL_law_663 ⟨(Nat.le_of_ble_eq_true rfl), (Nat.le_of_ble_eq_true rfl)⟩) (fun r3 u1 H locs w2 hP hD hS => ?_)
  subst w2
  have hP : va_P K.1 classes [(qm, zO 10 83 (zc71 u v)), (qo, zJ K 1 (fun _ => 0))] H := hP
  have hD : va_D A [(qm, zO 10 83 (zc71 u v)), (qo, zJ K 1 (fun _ => 0))] := hD
  refine lv_istore (lv' := [(5, .int 1), (4, .int 0), (3, .ref qo), (2, .ref qm), (1, .ref qx), (0, .ref b)]) hx hb dL_law_666 hl (by decide) rfl (fun ls hl => ?_)
  refine lv_aload_n hx hb dL_law_668 rfl (lv_at hl 3 rfl) ?_
  refine lv_aload_n hx hb dL_law_669 rfl (lv_at hl 5 rfl) ?_
  refine lv_iload hx hb dL_law_670 (lv_at hl 1 rfl) ?_
  refine lv_iconst (v := 1) hx hb dL_law_672 (by decide) ?_
  refine lv_iadd hx hb dL_law_673 ?_
  refine z_cst (v := 1) (by decide +kernel) ?_
  refine z_sld (v := (xs 1)) (j := 1) hx hb hX hbl hbA hS rfl (Nat.le_of_ble_eq_true rfl) rfl dL_law_674 ?_
  refine lv_aload_n hx hb dL_law_675 rfl (lv_at hl 5 rfl) ?_
  refine lv_iload hx hb dL_law_676 (lv_at hl 1 rfl) ?_
  refine lv_iconst (v := 2) hx hb dL_law_678 (by decide) ?_
  refine lv_iadd hx hb dL_law_679 ?_
  refine z_cst (v := 2) (by decide +kernel) ?_
  refine z_sld (v := (nI t2)) (j := 2) hx hb hX hbl hbA hS rfl (Nat.le_of_ble_eq_true rfl) v2 dL_law_680 ?_
  refine lv_aload_n hx hb dL_law_681 rfl (lv_at hl 5 rfl) ?_
  refine lv_iload hx hb dL_law_682 (lv_at hl 1 rfl) ?_
  refine lv_iconst (v := 3) hx hb dL_law_684 (by decide) ?_
  refine lv_iadd hx hb dL_law_685 ?_
  refine z_cst (v := 3) (by decide +kernel) ?_
  refine z_sld (v := (xs 3)) (j := 3) hx hb hX hbl hbA hS rfl (Nat.le_of_ble_eq_true rfl) rfl dL_law_686 ?_
  refine lv_aload_n hx hb dL_law_687 rfl (lv_at hl 5 rfl) ?_
  refine lv_iload hx hb dL_law_688 (lv_at hl 1 rfl) ?_
  refine lv_iconst (v := 4) hx hb dL_law_690 (by decide) ?_
  refine lv_iadd hx hb dL_law_691 ?_
  refine z_cst (v := 4) (by decide +kernel) ?_
  refine z_sld (v := (xs 4)) (j := 4) hx hb hX hbl hbA hS rfl (Nat.le_of_ble_eq_true rfl) rfl dL_law_692 ?_
  refine lv_aload_n hx hb dL_law_693 rfl (lv_at hl 5 rfl) ?_
  refine lv_iload hx hb dL_law_694 (lv_at hl 1 rfl) ?_
  refine lv_iconst (v := 5) hx hb dL_law_696 (by decide) ?_
  refine lv_iadd hx hb dL_law_697 ?_
  refine z_cst (v := 5) (by decide +kernel) ?_
  refine z_sld (v := (xs 5)) (j := 5) hx hb hX hbl hbA hS rfl (Nat.le_of_ble_eq_true rfl) rfl dL_law_698 ?_
  refine lv_aload_n hx hb dL_law_699 rfl (lv_at hl 5 rfl) ?_
  refine lv_iload hx hb dL_law_700 (lv_at hl 1 rfl) ?_
  refine lv_bipush (v := 6) hx hb dL_law_702 (by decide) ?_
  refine lv_iadd hx hb dL_law_704 ?_
  refine z_cst (v := 6) (by decide +kernel) ?_
  refine z_sld (v := (xs 6)) (j := 6) hx hb hX hbl hbA hS rfl (Nat.le_of_ble_eq_true rfl) rfl dL_law_705 ?_
  refine z_calli [(qm, zO 10 83 (zc71 u v))] [(qo, zJ K 1 (fun _ => 0))] [0] [1] hP hD hS hA rfl rfl (by decide +kernel) (by decide +kernel) (by decide +kernel) 125 1863522 rfl rfl (fun hPc hDc hF => z_runV (As := [.int (xs 1), .int (nI t2), .int (xs 3), .int (xs 4), .int (xs 5), .int (xs 6)]) (rest := []) ⟨hx, hb, hml, hown, hg⟩ (cX12_match_13 l K H.size qm (zc71 u v) (xs 1) t2 ht2 (xs 3) (xs 4) (xs 5) (xs 6) (zc71_0 u v) (by rw [Int32.lt_iff_toInt_lt, show (0 : Int32).toInt = 0 from by decide]; omega) (by rw [Int32.lt_iff_toInt_lt, show (-1 : Int32).toInt = -1 from by decide]; omega) (by rw [Int32.lt_iff_toInt_lt, show (0 : Int32).toInt = 0 from by decide]; omega) (by rw [Int32.lt_iff_toInt_lt, show (15 : Int32).toInt = 15 from by decide]; omega)) kV_RL_131 hd_X12_match rfl rfl ⟨(Nat.le_of_ble_eq_true rfl), (Nat.le_of_ble_eq_true rfl)⟩ hK hS hZ hPc hDc hF 0 rfl rfl rfl hl.1 rfl (Nat.le_of_ble_eq_true rfl) dL_law_706 ⟨(Nat.le_of_ble_eq_true rfl), (Nat.le_of_ble_eq_true rfl)⟩) (fun r6 u4 H locs w5 hP hD hS => ?_)
  subst w5
  have hP : va_P K.1 classes [(qo, zJ K 1 (fun _ => 0)), (qm, zO 10 83 (va_up (zc71 u v) 81 (.int 1)))] H := hP
  have hD : va_D A [(qo, zJ K 1 (fun _ => 0)), (qm, zO 10 83 (va_up (zc71 u v) 81 (.int 1)))] := hD
  refine lv_istore (lv' := [(6, .int 0), (5, .int 1), (4, .int 0), (3, .ref qo), (2, .ref qm), (1, .ref qx), (0, .ref b)]) hx hb dL_law_709 hl (by decide) rfl (fun ls hl => ?_)
  refine lv_aload_n hx hb dL_law_711 rfl (lv_at hl 4 rfl) ?_
  refine z_calli [(qm, zO 10 83 (va_up (zc71 u v) 81 (.int 1)))] [(qo, zJ K 1 (fun _ => 0))] [1] [0] hP hD hS hA rfl rfl (by decide +kernel) (by decide +kernel) (by decide +kernel) 125 1863522 rfl rfl (fun hPc hDc hF => z_runV (As := []) (rest := []) ⟨hx, hb, hml, hown, hg⟩ (cX12_thrown_2 l K H.size qm (va_up (zc71 u v) 81 (.int 1)) zu_eq) kV_RL_104 hd_X12_thrown rfl rfl ⟨(Nat.le_of_ble_eq_true rfl), (Nat.le_of_ble_eq_true rfl)⟩ hK hS hZ hPc hDc hF 0 rfl rfl rfl hl.1 rfl (Nat.le_of_ble_eq_true rfl) dL_law_712 ⟨(Nat.le_of_ble_eq_true rfl), (Nat.le_of_ble_eq_true rfl)⟩) (fun r9 u7 H locs w8 hP hD hS => ?_)
  subst w8
  have hP : va_P K.1 classes [(qo, zJ K 1 (fun _ => 0)), (qm, zO 10 83 (va_up (zc71 u v) 81 (.int 1)))] H := hP
  have hD : va_D A [(qo, zJ K 1 (fun _ => 0)), (qm, zO 10 83 (va_up (zc71 u v) 81 (.int 1)))] := hD
  refine lv_iload hx hb dL_law_715 (lv_at hl 1 rfl) ?_
  refine lv_icmp_eq (tgt := 722) hx hb dL_law_717 (by decide) (fun _ => ?_) (fun c => absurd (by decide) c)
  refine lv_iload hx hb dL_law_722 (lv_at hl 1 rfl) ?_
  refine lv_if_ne (tgt := 739) hx hb dL_law_724 (by decide) (fun _ => ?_) (fun c => absurd c (by decide))
  refine lv_goto (tgt := 2026) hx hb dL_law_739 (by decide) ?_
  exact law_back ⟨hx, hb, hr, hml, hown, hg, hX, hbl, hlocks, hK, hZ, hl9, hAA, hA, hbA⟩ (Nat.le_of_ble_eq_true rfl) (Nat.le_of_ble_eq_true rfl) hS (lv_sub hl [2, 6] rfl)
set_option maxHeartbeats 4000000 in
set_option maxRecDepth 100000 in
theorem lawS_7_13 {p : Program} {l : Launch} {e : Env} {s : State} {m : MethodId} {below : List Frame} {meth : Method} {c : Code} {b : Nat} {xs : Nat → Int32} {K : zK} {A : Nat → Prop} {H : Heap} {locs : List Loc} {ls : Array Slot} (C : zC p l s m meth c b xs K A) (qx qm qo : Nat) (u v : Nat → Nat) (h0 : 0 ≤ (xs 1).toInt) (h1 : 0 ≤ (xs 2).toInt) (h2 : 4 ≤ (xs 2).toInt) (hP : va_P K.1 classes (lwW K qx qm qo u v) H) (hD : va_D A (lwW K qx qm qo u v)) (hS : va_S A s.heap H locs) (hl : lv_has ls 7 [(4, .int 0), (3, .ref qo), (2, .ref qm), (1, .ref qx), (0, .ref b)]) : W p l e room_1 s m #[Value.ref b] below meth c H locs 124 1863516 (lw_Z below #[Value.ref b] s) (F0 m 624 ls []) := by
  obtain ⟨hx, hb, hr, hml, hown, hg, hX, hbl, hlocks, hK, hZ, hl9, hAA, hA, hbA⟩ := C
  have hP : va_P K.1 classes [(qx, zO 9 9 (zc0 u v)), ((u 0), zO 7 6 (zc1 u v)), (qm, zO 10 83 (zc71 u v)), (qo, zJ K 1 (fun _ => 0))] H := hP.sub [0, 1, 71, 123] rfl
  have hD : va_D A [(qx, zO 9 9 (zc0 u v)), ((u 0), zO 7 6 (zc1 u v)), (qm, zO 10 83 (zc71 u v)), (qo, zJ K 1 (fun _ => 0))] := hD.sub [0, 1, 71, 123] (by decide +kernel) rfl
  refine lv_aload_n hx hb dL_law_624 rfl (lv_at hl 3 rfl) ?_
  refine lv_aload_n hx hb dL_law_625 rfl (lv_at hl 4 rfl) ?_
  refine lv_iload hx hb dL_law_626 (lv_at hl 0 rfl) ?_
  refine lv_iconst (v := 1) hx hb dL_law_628 (by decide) ?_
  refine lv_iadd hx hb dL_law_629 ?_
  refine z_cst (v := 1) (by decide +kernel) ?_
  refine z_sld (v := (xs 1)) (j := 1) hx hb hX hbl hbA hS rfl (Nat.le_of_ble_eq_true rfl) rfl dL_law_630 ?_
  refine lv_aload_n hx hb dL_law_631 rfl (lv_at hl 4 rfl) ?_
  refine lv_iload hx hb dL_law_632 (lv_at hl 0 rfl) ?_
  refine lv_iconst (v := 2) hx hb dL_law_634 (by decide) ?_
  refine lv_iadd hx hb dL_law_635 ?_
  refine z_cst (v := 2) (by decide +kernel) ?_
  refine z_sld (v := (xs 2)) (j := 2) hx hb hX hbl hbA hS rfl (Nat.le_of_ble_eq_true rfl) rfl dL_law_636 ?_
  refine lv_aload_n hx hb dL_law_637 rfl (lv_at hl 4 rfl) ?_
  refine lv_iload hx hb dL_law_638 (lv_at hl 0 rfl) ?_
  refine lv_iconst (v := 3) hx hb dL_law_640 (by decide) ?_
  refine lv_iadd hx hb dL_law_641 ?_
  refine z_cst (v := 3) (by decide +kernel) ?_
  refine z_sld (v := (xs 3)) (j := 3) hx hb hX hbl hbA hS rfl (Nat.le_of_ble_eq_true rfl) rfl dL_law_642 ?_
  refine lv_aload_n hx hb dL_law_643 rfl (lv_at hl 4 rfl) ?_
  refine lv_iload hx hb dL_law_644 (lv_at hl 0 rfl) ?_
  refine lv_iconst (v := 4) hx hb dL_law_646 (by decide) ?_
  refine lv_iadd hx hb dL_law_647 ?_
  refine z_cst (v := 4) (by decide +kernel) ?_
  refine z_sld (v := (xs 4)) (j := 4) hx hb hX hbl hbA hS rfl (Nat.le_of_ble_eq_true rfl) rfl dL_law_648 ?_
  refine lv_aload_n hx hb dL_law_649 rfl (lv_at hl 4 rfl) ?_
  refine lv_iload hx hb dL_law_650 (lv_at hl 0 rfl) ?_
  refine lv_iconst (v := 5) hx hb dL_law_652 (by decide) ?_
  refine lv_iadd hx hb dL_law_653 ?_
  refine z_cst (v := 5) (by decide +kernel) ?_
  refine z_sld (v := (xs 5)) (j := 5) hx hb hX hbl hbA hS rfl (Nat.le_of_ble_eq_true rfl) rfl dL_law_654 ?_
  refine lv_aload_n hx hb dL_law_655 rfl (lv_at hl 4 rfl) ?_
  refine lv_iload hx hb dL_law_656 (lv_at hl 0 rfl) ?_
  refine lv_bipush (v := 6) hx hb dL_law_658 (by decide) ?_
  refine lv_iadd hx hb dL_law_660 ?_
  refine z_cst (v := 6) (by decide +kernel) ?_
  refine z_sld (v := (xs 6)) (j := 6) hx hb hX hbl hbA hS rfl (Nat.le_of_ble_eq_true rfl) rfl dL_law_661 ?_
  refine lv_aload_n hx hb dL_law_662 rfl (lv_at hl 1 rfl) ?_
  refine z_hcalli [(qx, zO 9 9 (zc0 u v)), ((u 0), zO 7 6 (zc1 u v))] [(qm, zO 10 83 (zc71 u v)), (qo, zJ K 1 (fun _ => 0))] [0, 1] [2, 3] hP hD hS hA rfl rfl (by decide +kernel) (by decide +kernel) (by decide +kernel) 125 1863522 rfl rfl (fun hPc hDc hF => z_xrunH (As := [.ref qx, .int (xs 1), .int (xs 2), .int (xs 3), .int (xs 4), .int (xs 5), .int (xs 6), .ref qo]) (rest := []) ⟨hx, hb, hml, hown, hg⟩ (cL_match_5 l hl9 K H.size qx qo (u 0) (zc0 u v) (zc1 u v) (xs 1) (xs 2) (xs 3) (xs 4) (xs 5) (xs 6) (zc0_0 u v) (by rw [Int32.lt_iff_toInt_lt, show (0 : Int32).toInt = 0 from by decide]; omega) (zc1_5 u v) (by rw [Int32.le_iff_toInt_le, show (0 : Int32).toInt = 0 from by decide]; omega)) kS_RL_128 hd_L_match rfl rfl ⟨(Nat.le_of_ble_eq_true rfl), (Nat.le_of_ble_eq_true rfl)⟩ hK hS hZ hPc hDc hF rfl hl.1 rfl (Nat.le_of_ble_eq_true rfl) dL_law_663 ⟨(Nat.le_of_ble_eq_true rfl), (Nat.le_of_ble_eq_true rfl)⟩) (fun r3 u1 H locs w2 hP hD hS => ?_)
  subst w2
  have hP : va_P K.1 classes [(qm, zO 10 83 (zc71 u v)), (qo, zJ K 1 (fun _ => 0))] H := hP
  have hD : va_D A [(qm, zO 10 83 (zc71 u v)), (qo, zJ K 1 (fun _ => 0))] := hD
  refine lv_istore (lv' := [(5, .int 1), (4, .int 0), (3, .ref qo), (2, .ref qm), (1, .ref qx), (0, .ref b)]) hx hb dL_law_666 hl (by decide) rfl (fun ls hl => ?_)
  refine lv_aload_n hx hb dL_law_668 rfl (lv_at hl 3 rfl) ?_
  refine lv_aload_n hx hb dL_law_669 rfl (lv_at hl 5 rfl) ?_
  refine lv_iload hx hb dL_law_670 (lv_at hl 1 rfl) ?_
  refine lv_iconst (v := 1) hx hb dL_law_672 (by decide) ?_
  refine lv_iadd hx hb dL_law_673 ?_
  refine z_cst (v := 1) (by decide +kernel) ?_
  refine z_sld (v := (xs 1)) (j := 1) hx hb hX hbl hbA hS rfl (Nat.le_of_ble_eq_true rfl) rfl dL_law_674 ?_
  refine lv_aload_n hx hb dL_law_675 rfl (lv_at hl 5 rfl) ?_
  refine lv_iload hx hb dL_law_676 (lv_at hl 1 rfl) ?_
  refine lv_iconst (v := 2) hx hb dL_law_678 (by decide) ?_
  refine lv_iadd hx hb dL_law_679 ?_
  refine z_cst (v := 2) (by decide +kernel) ?_
  refine z_sld (v := (xs 2)) (j := 2) hx hb hX hbl hbA hS rfl (Nat.le_of_ble_eq_true rfl) rfl dL_law_680 ?_
  refine lv_aload_n hx hb dL_law_681 rfl (lv_at hl 5 rfl) ?_
  refine lv_iload hx hb dL_law_682 (lv_at hl 1 rfl) ?_
  refine lv_iconst (v := 3) hx hb dL_law_684 (by decide) ?_
  refine lv_iadd hx hb dL_law_685 ?_
  refine z_cst (v := 3) (by decide +kernel) ?_
  refine z_sld (v := (xs 3)) (j := 3) hx hb hX hbl hbA hS rfl (Nat.le_of_ble_eq_true rfl) rfl dL_law_686 ?_
  refine lv_aload_n hx hb dL_law_687 rfl (lv_at hl 5 rfl) ?_
  refine lv_iload hx hb dL_law_688 (lv_at hl 1 rfl) ?_
  refine lv_iconst (v := 4) hx hb dL_law_690 (by decide) ?_
  refine lv_iadd hx hb dL_law_691 ?_
  refine z_cst (v := 4) (by decide +kernel) ?_
  refine z_sld (v := (xs 4)) (j := 4) hx hb hX hbl hbA hS rfl (Nat.le_of_ble_eq_true rfl) rfl dL_law_692 ?_
  refine lv_aload_n hx hb dL_law_693 rfl (lv_at hl 5 rfl) ?_
  refine lv_iload hx hb dL_law_694 (lv_at hl 1 rfl) ?_
  refine lv_iconst (v := 5) hx hb dL_law_696 (by decide) ?_
  refine lv_iadd hx hb dL_law_697 ?_
  refine z_cst (v := 5) (by decide +kernel) ?_
  refine z_sld (v := (xs 5)) (j := 5) hx hb hX hbl hbA hS rfl (Nat.le_of_ble_eq_true rfl) rfl dL_law_698 ?_
  refine lv_aload_n hx hb dL_law_699 rfl (lv_at hl 5 rfl) ?_
  refine lv_iload hx hb dL_law_700 (lv_at hl 1 rfl) ?_
  refine lv_bipush (v := 6) hx hb dL_law_702 (by decide) ?_
  refine lv_iadd hx hb dL_law_704 ?_
  refine z_cst (v := 6) (by decide +kernel) ?_
  refine z_sld (v := (xs 6)) (j := 6) hx hb hX hbl hbA hS rfl (Nat.le_of_ble_eq_true rfl) rfl dL_law_705 ?_
  refine z_calli [(qm, zO 10 83 (zc71 u v))] [(qo, zJ K 1 (fun _ => 0))] [0] [1] hP hD hS hA rfl rfl (by decide +kernel) (by decide +kernel) (by decide +kernel) 125 1863522 rfl rfl (fun hPc hDc hF => z_runV (As := [.int (xs 1), .int (xs 2), .int (xs 3), .int (xs 4), .int (xs 5), .int (xs 6)]) (rest := []) ⟨hx, hb, hml, hown, hg⟩ (cX12_match_14 l K H.size qm (zc71 u v) (xs 1) (xs 2) (xs 3) (xs 4) (xs 5) (xs 6) (zc71_0 u v) (by rw [Int32.lt_iff_toInt_lt, show (0 : Int32).toInt = 0 from by decide]; omega) (by rw [Int32.lt_iff_toInt_lt, show (-1 : Int32).toInt = -1 from by decide]; omega) (by rw [Int32.lt_iff_toInt_lt, show (0 : Int32).toInt = 0 from by decide]; omega) (by rw [Int32.lt_iff_toInt_lt, show (3 : Int32).toInt = 3 from by decide]; omega)) kV_RL_131 hd_X12_match rfl rfl ⟨(Nat.le_of_ble_eq_true rfl), (Nat.le_of_ble_eq_true rfl)⟩ hK hS hZ hPc hDc hF 0 rfl rfl rfl hl.1 rfl (Nat.le_of_ble_eq_true rfl) dL_law_706 ⟨(Nat.le_of_ble_eq_true rfl), (Nat.le_of_ble_eq_true rfl)⟩) (fun r6 u4 H locs w5 hP hD hS => ?_)
  subst w5
  have hP : va_P K.1 classes [(qo, zJ K 1 (fun _ => 0)), (qm, zO 10 83 (va_up (zc71 u v) 81 (.int 1)))] H := hP
  have hD : va_D A [(qo, zJ K 1 (fun _ => 0)), (qm, zO 10 83 (va_up (zc71 u v) 81 (.int 1)))] := hD
  refine lv_istore (lv' := [(6, .int 0), (5, .int 1), (4, .int 0), (3, .ref qo), (2, .ref qm), (1, .ref qx), (0, .ref b)]) hx hb dL_law_709 hl (by decide) rfl (fun ls hl => ?_)
  refine lv_aload_n hx hb dL_law_711 rfl (lv_at hl 4 rfl) ?_
  refine z_calli [(qm, zO 10 83 (va_up (zc71 u v) 81 (.int 1)))] [(qo, zJ K 1 (fun _ => 0))] [1] [0] hP hD hS hA rfl rfl (by decide +kernel) (by decide +kernel) (by decide +kernel) 125 1863522 rfl rfl (fun hPc hDc hF => z_runV (As := []) (rest := []) ⟨hx, hb, hml, hown, hg⟩ (cX12_thrown_2 l K H.size qm (va_up (zc71 u v) 81 (.int 1)) zu_eq) kV_RL_104 hd_X12_thrown rfl rfl ⟨(Nat.le_of_ble_eq_true rfl), (Nat.le_of_ble_eq_true rfl)⟩ hK hS hZ hPc hDc hF 0 rfl rfl rfl hl.1 rfl (Nat.le_of_ble_eq_true rfl) dL_law_712 ⟨(Nat.le_of_ble_eq_true rfl), (Nat.le_of_ble_eq_true rfl)⟩) (fun r9 u7 H locs w8 hP hD hS => ?_)
  subst w8
  have hP : va_P K.1 classes [(qo, zJ K 1 (fun _ => 0)), (qm, zO 10 83 (va_up (zc71 u v) 81 (.int 1)))] H := hP
  have hD : va_D A [(qo, zJ K 1 (fun _ => 0)), (qm, zO 10 83 (va_up (zc71 u v) 81 (.int 1)))] := hD
  refine lv_iload hx hb dL_law_715 (lv_at hl 1 rfl) ?_
  refine lv_icmp_eq (tgt := 722) hx hb dL_law_717 (by decide) (fun _ => ?_) (fun c => absurd (by decide) c)
  refine lv_iload hx hb dL_law_722 (lv_at hl 1 rfl) ?_
  refine lv_if_ne (tgt := 739) hx hb dL_law_724 (by decide) (fun _ => ?_) (fun c => absurd c (by decide))
  refine lv_goto (tgt := 2026) hx hb dL_law_739 (by decide) ?_
  exact law_back ⟨hx, hb, hr, hml, hown, hg, hX, hbl, hlocks, hK, hZ, hl9, hAA, hA, hbA⟩ (Nat.le_of_ble_eq_true rfl) (Nat.le_of_ble_eq_true rfl) hS (lv_sub hl [2, 6] rfl)
theorem lawC_7 {p : Program} {l : Launch} {e : Env} {s : State} {m : MethodId} {below : List Frame} {meth : Method} {c : Code} {b : Nat} {xs : Nat → Int32} {K : zK} {A : Nat → Prop} {H : Heap} {locs : List Loc} {ls : Array Slot} (C : zC p l s m meth c b xs K A) (qx qm qo : Nat) (u v : Nat → Nat) (hP : va_P K.1 classes (lwW K qx qm qo u v) H) (hD : va_D A (lwW K qx qm qo u v)) (hS : va_S A s.heap H locs) (hl : lv_has ls 7 [(4, .int 0), (3, .ref qo), (2, .ref qm), (1, .ref qx), (0, .ref b)]) : W p l e room_1 s m #[Value.ref b] below meth c H locs 124 1863516 (lw_Z below #[Value.ref b] s) (F0 m 624 ls []) := by
  rcases z_split (xs 1) (0) with h0 | h0
  · rcases z_split (xs 2) (0) with h1 | h1
    · exact lawS_7_0 C qx qm qo u v h0 h1 hP hD hS hl
    · rcases z_split (xs 2) (4) with h2 | h2
      · rcases z_split (xs 3) (0) with h3 | h3
        · exact lawS_7_1 C qx qm qo u v h0 h1 h2 h3 hP hD hS hl
        · rcases z_split (xs 3) (16) with h4 | h4
          · rcases z_split (xs 4) (0) with h5 | h5
            · exact lawS_7_2 C qx qm qo u v h0 h1 h2 h3 h4 h5 hP hD hS hl
            · rcases z_split (xs 4) (16) with h6 | h6
              · exact lawS_7_3 C qx qm qo u v h0 h1 h2 h3 h4 h5 h6 hP hD hS hl
              · exact lawS_7_4 C qx qm qo u v h0 h1 h2 h3 h4 h5 h6 hP hD hS hl
          · exact lawS_7_5 C qx qm qo u v h0 h1 h2 h3 h4 hP hD hS hl
      · exact lawS_7_6 C qx qm qo u v h0 h1 h2 hP hD hS hl
  · rcases z_split (xs 2) (0) with h1 | h1
    · exact lawS_7_7 C qx qm qo u v h0 h1 hP hD hS hl
    · rcases z_split (xs 2) (4) with h2 | h2
      · rcases z_split (xs 3) (0) with h3 | h3
        · exact lawS_7_8 C qx qm qo u v h0 h1 h2 h3 hP hD hS hl
        · rcases z_split (xs 3) (16) with h4 | h4
          · rcases z_split (xs 4) (0) with h5 | h5
            · exact lawS_7_9 C qx qm qo u v h0 h1 h2 h3 h4 h5 hP hD hS hl
            · rcases z_split (xs 4) (16) with h6 | h6
              · exact lawS_7_10 C qx qm qo u v h0 h1 h2 h3 h4 h5 h6 hP hD hS hl
              · exact lawS_7_11 C qx qm qo u v h0 h1 h2 h3 h4 h5 h6 hP hD hS hl
          · exact lawS_7_12 C qx qm qo u v h0 h1 h2 h3 h4 hP hD hS hl
      · exact lawS_7_13 C qx qm qo u v h0 h1 h2 hP hD hS hl
