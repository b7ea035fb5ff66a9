/-! CALLS AND ENDS: a contract's start holds the world, the machine's tables, and what a throw needs (zE); a call's row cuts the callee's cells out and joins what comes back. -/
def zIA : String := "java/lang/IllegalArgumentException"
def zIS : String := "java/lang/IllegalStateException"
def zIB : String := "java/lang/IndexOutOfBoundsException"
def zSup : List String := ["java/lang/RuntimeException", "java/lang/Exception"]
def zIn1 (C : String) : Cond := .declares ⟨C, "<init>", "(Ljava/lang/String;)V"⟩
def zSt (k : Nat) (tx : String) (U : State) : Prop := ∃ a, vk_R RX11 k tx a U
/-- what the tables say that is no good word: rows of Rows, casts of the three exceptions, their constructors' declarations, the texts -/
def zW (U : State) : Prop := (va_AO RX7 U ∧ va_Nw (.castable zIA zIA) U ∧ va_Nw (.castable zIS zIS) U ∧ va_Nw (.castable zIB zIB) U ∧ va_Nw (zIn1 "java/lang/RuntimeException") U ∧ va_Nw (zIn1 "java/lang/Exception") U ∧ va_Nw (zIn1 "java/lang/Throwable") U) ∧ (va_Nc zIA zIB U ∧ va_Nc zIS zIB U ∧ va_Nc zIS zIA U ∧ va_Nc zIB zIA U ∧ va_Nc zIA zIS U ∧ va_Nc zIB zIS U) ∧ (zSt 183 "out of its range" U ∧ zSt 189 "no such node" U ∧ zSt 124 "the global is nothing" U ∧ zSt 196 "there is no program of the beginning" U ∧ zSt 148 "place is below 0" U ∧ zSt 163 "the global has no such place" U)
theorem zW.warm {s U : State} (hW : s.WarmedH U.vm) (h : zW s) : zW U := by
  obtain ⟨⟨a1, a2, a3, a4, a5, a6, a7⟩, ⟨b1, b2, b3, b4, b5, b6⟩, ⟨c1, d1⟩, ⟨c2, d2⟩, ⟨c3, d3⟩, ⟨c4, d4⟩, ⟨c5, d5⟩, ⟨c6, d6⟩⟩ := h
  exact ⟨⟨va_AO.moved hW.alike a1, va_Nw.warmC hW a2, va_Nw.warmC hW a3, va_Nw.warmC hW a4, va_Nw.warmD hW a5, va_Nw.warmD hW a6, va_Nw.warmD hW a7⟩, ⟨b1.moved hW.alike, b2.moved hW.alike, b3.moved hW.alike, b4.moved hW.alike, b5.moved hW.alike, b6.moved hW.alike⟩, ⟨_, vk_R.warm hW d1⟩, ⟨_, vk_R.warm hW d2⟩, ⟨_, vk_R.warm hW d3⟩, ⟨_, vk_R.warm hW d4⟩, ⟨_, vk_R.warm hW d5⟩, ⟨_, vk_R.warm hW d6⟩⟩
theorem zW.same {s U : State} (hv : U.vm = s.vm) (h : zW s) : zW U := by
  obtain ⟨⟨a1, a2, a3, a4, a5, a6, a7⟩, ⟨b1, b2, b3, b4, b5, b6⟩, ⟨c1, d1⟩, ⟨c2, d2⟩, ⟨c3, d3⟩, ⟨c4, d4⟩, ⟨c5, d5⟩, ⟨c6, d6⟩⟩ := h
  have al : s.vm.Alike U.vm := by rw [hv]; exact Vm.Alike.refl s.vm
  exact ⟨⟨va_AO.moved al a1, va_Nw.same rfl hv.symm a2, va_Nw.same rfl hv.symm a3, va_Nw.same rfl hv.symm a4, va_Nw.same rfl hv.symm a5, va_Nw.same rfl hv.symm a6, va_Nw.same rfl hv.symm a7⟩, ⟨b1.moved al, b2.moved al, b3.moved al, b4.moved al, b5.moved al, b6.moved al⟩, ⟨_, vk_R.same hv d1⟩, ⟨_, vk_R.same hv d2⟩, ⟨_, vk_R.same hv d3⟩, ⟨_, vk_R.same hv d4⟩, ⟨_, vk_R.same hv d5⟩, ⟨_, vk_R.same hv d6⟩⟩
def zE (A : Nat → Prop) (U : State) (H : Heap) : Prop := zW U ∧ vx_Zq Bundle.tN "UNASSIGNED_STACK" Bundle.steD A U H ∧ vx_Zq Bundle.tN "SUPPRESSED_SENTINEL" Bundle.listD A U H
def zPre (K : zK) (ws : va_W) (sz : Nat) (av : List Value) : Array Value → State → Prop := va_Pc av (fun U => U.heap.size = sz ∧ va_P K.1 classes ws U.heap ∧ va_K K.1 classes (zT K) U ∧ va_D (fun _ => True) ws ∧ zE (va_A ws sz) U U.heap)
def zB {S : Type} (K : zK) (A : Nat → Prop) (w1 : S → va_W) : S → State → Prop := fun u t => va_P K.1 classes (w1 u) t.heap ∧ va_D A (w1 u)
def zX (A : Nat → Prop) (EX : String) : String → State → State → Prop := vx_X (fun _ : Unit => True) (fun E _ _ => E = EX) A
theorem z_blind {K : zK} {ws : va_W} {sz : Nat} {av : List Value} : FrameBlind (zPre K ws sz av) := fun a U g mk q => by
  obtain ⟨q0, q1, qP, qK, qD, qW, q2, q3⟩ := q
  exact ⟨q0, q1, qP, va_K.moved (u := U) (U := U.calling g mk a) (Vm.Alike.refl U.vm) qK, qD, zW.same (s := U) (U := U.calling g mk a) rfl qW, vx_Zq.moved (u := U) (U := U.calling g mk a) (Vm.Alike.refl U.vm) q2, vx_Zq.moved (u := U) (U := U.calling g mk a) (Vm.Alike.refl U.vm) q3⟩
theorem z_pre {K : zK} {wc : va_W} {s : State} {A : Nat → Prop} {H : Heap} {locs : List Loc} {av : List Value} (hK : va_K K.1 classes (zT K) s) (hS : va_S A s.heap H locs) (hZ : zE A s s.heap) (hPc : va_P K.1 classes wc H) (hDc : va_D A wc) (hF : ∀ q, va_A wc H.size q → A q) : ∀ U : State, U.heap = H → s.WarmedH U.vm → zPre K wc H.size av av.toArray U := fun U hU hW => by
  subst hU
  exact ⟨rfl, rfl, hPc, va_K.moved hW.alike hK, hDc.weaken (fun _ _ _ _ => trivial), hZ.1.warm hW, (vx_Zq.moved hW.alike (hZ.2.1.kept hS.2.1)).narrow hF, (vx_Zq.moved hW.alike (hZ.2.2.kept hS.2.1)).narrow hF⟩
theorem z_fm {ws wc : va_W} {is : List Nat} (h : is.map (fun i => ws[i]?) = wc.map some) : is.filterMap (fun i => ws[i]?) = wc := by
  have h1 : (is.map (fun i => ws[i]?)).filterMap id = (wc.map some).filterMap id := by rw [h]
  rw [List.filterMap_map, List.filterMap_map] at h1
  simpa using h1
abbrev z_hd (y : MethodName) (C : String) (n : Nat) : Prop := y.cls = C ∧ y.cls ≠ "java/lang/invoke/MethodHandle" ∧ y.cls ≠ "java/lang/invoke/VarHandle" ∧ (parseMethodDescriptor y.desc).map (fun d => d.parameters.length) = some n
theorem z_P0 {D : va_G} {cl : List vw_C} {H : Heap} : va_P D cl [] H := fun k q h => by simp at h
theorem z_D0 {A : Nat → Prop} : va_D A [] := ⟨fun i j p q h => by simp at h, fun k q h => by simp at h⟩
theorem zP1 {α : Type} {P : α → Prop} {a : α} {l : List α} (h : P a) (t : ∀ w ∈ l, P w) : ∀ w ∈ a :: l, P w := fun w hw => (List.mem_cons.mp hw).elim (fun e => by rw [e]; exact h) (t w)
theorem zP0 {α : Type} {P : α → Prop} : ∀ w ∈ ([] : List α), P w := fun _ h => nomatch h
theorem zt {w : Cond} (h : w ∈ tables_1) (g : goodWord w = true) : w ∈ WG := zWm (List.mem_append_right _ h) g
theorem zs {w : Cond} (h : w ∈ k2_sels lw_privs) (g : goodWord w = true) : w ∈ WG := zWm (List.mem_append_left _ h) g
section ZC
variable {p : Program} {l : Launch} {e : Env} {R : Room} {s : State} {m : MethodId} {args : Array Value} {below : List Frame} {meth : Method} {c : Code} {H : Heap} {locs : List Loc} {cells slots : Nat} {Q : State → Prop}
variable {cc : ByteArray} {pc : Nat} {ls : Array Slot} {rest st0 As : List Value} {A : Nat → Prop} {a b : Nat} {ws wc wr : va_W} {K : zK} {own : String}
variable {y : MethodName} {bytes : ByteArray} {maxL nL mc ms n index : Nat} {ret : Option FieldType} {rm : Room} {Qc : Array Value → State → Outcome → State → Prop} {XC : String → State → State → Prop} {free : Addr → Prop}
theorem z_runV {C : String} {T : u_T} {N ci : Nat} {g : Nat → Value} (S : CallFix p m c cc nL s args WG own) (hM : Met l y (Cond.code y bytes maxL ret :: WG) rm (zPre K wc H.size (.ref b :: As)) Qc mc ms free) (hG : GoodIn WG (wsV own index C y (Cond.code y bytes maxL ret :: WG))) (hd : z_hd y C n) (hrc : rm.cells = mc) (hrs : rm.slots = ms) (hR : rm.frames + 1 ≤ R.frames ∧ 8 + (maxL + 11) + rm.locals ≤ R.locals) (hK : va_K K.1 classes (zT K) s) (hS : va_S A s.heap H locs) (hZ : zE A s s.heap) (hPc : va_P K.1 classes wc H) (hDc : va_D A wc) (hF : ∀ q, va_A wc H.size q → A q) (q0 : Nat) (he : wc[q0]? = some (b, zO ci N g)) (hc : classes[ci]? = some (C, T, N)) (hn : As.length = n) (hsize : ls.size = nL) (hst : st0 = As.reverse ++ .ref b :: rest) (hW : (rest.map fun v => v.category).sum ≤ 8) (hdg : decode cc pc = .ok (.invokevirtual index, 3)) (hf : cells + mc ≤ R.cells ∧ slots + ms ≤ R.slots) :
    va_Run p l e R s m args below meth c H locs cells slots mc ms (F0 m pc ls st0) rest (Qc (Value.ref b :: As).toArray) free :=
  va_runV S hM (cwV n S.2.2.2.2 hG rfl hrc hrs hd hR) ⟨z_blind, va_recv hK hPc hc he, z_pre hK hS hZ hPc hDc hF⟩ rfl hn hsize hst (lv_room hW) hdg hf
theorem z_runI (S : CallFix p m c cc nL s args WG own) (hM : Met l y (Cond.code y bytes maxL none :: WG) rm (zPre K wc H.size (.ref b :: As)) Qc mc ms free) (hw : Cond.code y bytes maxL none ∈ WG) (hini : Cond.initialized y.cls ∈ WG) (hl : Cond.methodLink own index y ∈ WG) (hin : Cond.instanceMethod y ∈ WG) (hy1 : y.name = "<init>") (hd : z_hd y y.cls n) (hrc : rm.cells = mc) (hrs : rm.slots = ms) (hR : rm.frames + 1 ≤ R.frames ∧ 8 + (maxL + 11) + rm.locals ≤ R.locals) (hK : va_K K.1 classes (zT K) s) (hS : va_S A s.heap H locs) (hZ : zE A s s.heap) (hPc : va_P K.1 classes wc H) (hDc : va_D A wc) (hF : ∀ q, va_A wc H.size q → A q) (hn : As.length = n) (hsize : ls.size = nL) (hst : st0 = As.reverse ++ .ref b :: rest) (hW : (rest.map fun v => v.category).sum ≤ 8) (hdg : decode cc pc = .ok (.invokespecial index, 3)) (hf : cells + mc ≤ R.cells ∧ slots + ms ≤ R.slots) :
    va_Run p l e R s m args below meth c H locs cells slots mc ms (F0 m pc ls st0) rest (Qc (Value.ref b :: As).toArray) free :=
  va_runI S hM (cwI n S.2.2.2.2 (zGI hw) rfl hrc hrs (S.2.2.2.2 _ hini) (S.2.2.2.2 _ hl) (S.2.2.2.2 _ hin) hy1 hd.2 hR) ⟨z_blind, z_pre hK hS hZ hPc hDc hF⟩ rfl hn hsize hst (lv_room hW) hdg hf
theorem z_runS (S : CallFix p m c cc nL s args WG own) (hM : Met l y (Cond.code y bytes maxL ret :: WG) rm (zPre K wc H.size As) Qc mc ms free) (hG : GoodIn WG (va_wsS own index y (Cond.code y bytes maxL ret :: WG))) (hd : z_hd y y.cls n) (hrc : rm.cells = mc) (hrs : rm.slots = ms) (hR : rm.frames + 1 ≤ R.frames ∧ 8 + (maxL + 11) + rm.locals ≤ R.locals) (hK : va_K K.1 classes (zT K) s) (hS : va_S A s.heap H locs) (hZ : zE A s s.heap) (hPc : va_P K.1 classes wc H) (hDc : va_D A wc) (hF : ∀ q, va_A wc H.size q → A q) (hn : As.length = n) (hsize : ls.size = nL) (hst : st0 = As.reverse ++ rest) (hW : (rest.map fun v => v.category).sum ≤ 8) (hdg : decode cc pc = .ok (.invokestatic index, 3)) (hf : cells + mc ≤ R.cells ∧ slots + ms ≤ R.slots) :
    va_Run p l e R s m args below meth c H locs cells slots mc ms (F0 m pc ls st0) rest (Qc As.toArray) free :=
  va_runS S hM (va_cwS n S.2.2.2.2 hG rfl hrc hrs hd.2 hR) ⟨z_blind, z_pre hK hS hZ hPc hDc hF⟩ rfl hn hsize hst (lv_room hW) hdg hf
theorem z_xrunV {C : String} {T : u_T} {N ci : Nat} {g : Nat → Value} (S : CallFix p m c cc nL s args WG own) (hM : vx_Met l y (Cond.code y bytes maxL ret :: WG) rm (zPre K wc H.size (.ref b :: As)) Qc XC mc ms free) (hG : GoodIn WG (wsV own index C y (Cond.code y bytes maxL ret :: WG))) (hd : z_hd y C n) (hrc : rm.cells = mc) (hrs : rm.slots = ms) (hR : rm.frames + 1 ≤ R.frames ∧ 8 + (maxL + 11) + rm.locals ≤ R.locals) (hK : va_K K.1 classes (zT K) s) (hS : va_S A s.heap H locs) (hZ : zE A s s.heap) (hPc : va_P K.1 classes wc H) (hDc : va_D A wc) (hF : ∀ q, va_A wc H.size q → A q) (q0 : Nat) (he : wc[q0]? = some (b, zO ci N g)) (hc : classes[ci]? = some (C, T, N)) (hn : As.length = n) (hsize : ls.size = nL) (hst : st0 = As.reverse ++ .ref b :: rest) (hW : (rest.map fun v => v.category).sum ≤ 8) (hdg : decode cc pc = .ok (.invokevirtual index, 3)) (hf : cells + mc ≤ R.cells ∧ slots + ms ≤ R.slots) :
    vx_Run p l e R s m args below meth c H locs cells slots mc ms (F0 m pc ls st0) rest (Qc (Value.ref b :: As).toArray) XC free :=
  vx_runV S hM (cwV n S.2.2.2.2 hG rfl hrc hrs hd hR) ⟨z_blind, va_recv hK hPc hc he, z_pre hK hS hZ hPc hDc hF⟩ rfl hn hsize hst (lv_room hW) hdg hf
theorem z_xrunH {hh : List (Nat × Nat × Nat × Nat)} (S : CallFix p m c cc nL s args WG own) (hM : vx_Met l y (Cond.codeWith y bytes maxL ret hh :: WG) rm (zPre K wc H.size As) Qc XC mc ms free) (hG : GoodIn WG (va_wsS own index y (Cond.codeWith y bytes maxL ret hh :: WG))) (hd : z_hd y y.cls n) (hrc : rm.cells = mc) (hrs : rm.slots = ms) (hR : rm.frames + 1 ≤ R.frames ∧ 8 + (maxL + 11) + rm.locals ≤ R.locals) (hK : va_K K.1 classes (zT K) s) (hS : va_S A s.heap H locs) (hZ : zE A s s.heap) (hPc : va_P K.1 classes wc H) (hDc : va_D A wc) (hF : ∀ q, va_A wc H.size q → A q) (hn : As.length = n) (hsize : ls.size = nL) (hst : st0 = As.reverse ++ rest) (hW : (rest.map fun v => v.category).sum ≤ 8) (hdg : decode cc pc = .ok (.invokestatic index, 3)) (hf : cells + mc ≤ R.cells ∧ slots + ms ≤ R.slots) :
    vx_Run p l e R s m args below meth c H locs cells slots mc ms (F0 m pc ls st0) rest (Qc As.toArray) XC free :=
  vx_runSX S hM (vx_cwSW n S.2.2.2.2 hG rfl hrc hrs hd.2 hR) ⟨z_blind, z_pre hK hS hZ hPc hDc hF⟩ rfl hn hsize hst (lv_room hW) hdg hf
variable {S : Type} {w1 : S → va_W} {a9 : Array Value}
theorem z_calli {post : Int32 → S → Prop} (wc wr : va_W) (isC isR : List Nat) (hP : va_P K.1 classes ws H) (hD : va_D A ws) (hS : va_S A s.heap H locs) (hA : ∀ q, s.heap.size ≤ q → A q) (hC : isC.map (fun i => ws[i]?) = wc.map some) (hR : isR.map (fun i => ws[i]?) = wr.map some) (hn : va_nd isR = true) (hnC : va_nd isC = true) (hdis : ∀ i ∈ isR, i ∉ isC) (k1 k2 : Nat) (e1 : cells + mc = k1) (e2 : slots + ms = k2)
    (hr : va_P K.1 classes wc H → va_D A wc → (∀ q, va_A wc H.size q → A q) → va_Run p l e R s m args below meth c H locs cells slots mc ms (F0 m pc ls st0) rest (va_Qi post (zB K (va_A wc H.size) w1) (va_A wc H.size) a9) (va_A wc H.size))
    (kk : ∀ (r : Int32) (u : S) (H1 : Heap) (locs1 : List Loc), post r u → va_P K.1 classes (wr ++ w1 u) H1 → va_D A (wr ++ w1 u) → va_S A s.heap H1 locs1 → W p l e R s m args below meth c H1 locs1 k1 k2 Q (F0 m (pc + 3) ls (.int r :: rest))) : W p l e R s m args below meth c H locs cells slots Q (F0 m pc ls st0) := by
  subst e1; subst e2
  have hF := va_free hD hS hA isC hC
  refine va_calli (hr (hP.sub isC (z_fm hC)) (hD.sub isC hnC hC) hF) hS (fun q _ h => hF q h) hF (fun r u t H1 locs1 ht hvm hw hB hz hk hS1 => ?_)
  obtain ⟨hP1, hD1⟩ := hB
  rw [ht] at hP1
  obtain ⟨h1, h2⟩ := va_join hP hD isC isR hC hR hn hdis hk hF hP1 hD1
  exact kk r u H1 locs1 hw h1 h2 hS1
theorem z_calll {post : Int64 → S → Prop} (wc wr : va_W) (isC isR : List Nat) (hP : va_P K.1 classes ws H) (hD : va_D A ws) (hS : va_S A s.heap H locs) (hA : ∀ q, s.heap.size ≤ q → A q) (hC : isC.map (fun i => ws[i]?) = wc.map some) (hR : isR.map (fun i => ws[i]?) = wr.map some) (hn : va_nd isR = true) (hnC : va_nd isC = true) (hdis : ∀ i ∈ isR, i ∉ isC) (k1 k2 : Nat) (e1 : cells + mc = k1) (e2 : slots + ms = k2)
    (hr : va_P K.1 classes wc H → va_D A wc → (∀ q, va_A wc H.size q → A q) → va_Run p l e R s m args below meth c H locs cells slots mc ms (F0 m pc ls st0) rest (va_Ql post (zB K (va_A wc H.size) w1) (va_A wc H.size) a9) (va_A wc H.size))
    (kk : ∀ (r : Int64) (u : S) (H1 : Heap) (locs1 : List Loc), post r u → va_P K.1 classes (wr ++ w1 u) H1 → va_D A (wr ++ w1 u) → va_S A s.heap H1 locs1 → W p l e R s m args below meth c H1 locs1 k1 k2 Q (F0 m (pc + 3) ls (.long r :: rest))) : W p l e R s m args below meth c H locs cells slots Q (F0 m pc ls st0) := by
  subst e1; subst e2
  have hF := va_free hD hS hA isC hC
  refine va_calll (hr (hP.sub isC (z_fm hC)) (hD.sub isC hnC hC) hF) hS (fun q _ h => hF q h) hF (fun r u t H1 locs1 ht hvm hw hB hz hk hS1 => ?_)
  obtain ⟨hP1, hD1⟩ := hB
  rw [ht] at hP1
  obtain ⟨h1, h2⟩ := va_join hP hD isC isR hC hR hn hdis hk hF hP1 hD1
  exact kk r u H1 locs1 hw h1 h2 hS1
theorem z_callv {post : S → Prop} (wc wr : va_W) (isC isR : List Nat) (hP : va_P K.1 classes ws H) (hD : va_D A ws) (hS : va_S A s.heap H locs) (hA : ∀ q, s.heap.size ≤ q → A q) (hC : isC.map (fun i => ws[i]?) = wc.map some) (hR : isR.map (fun i => ws[i]?) = wr.map some) (hn : va_nd isR = true) (hnC : va_nd isC = true) (hdis : ∀ i ∈ isR, i ∉ isC) (k1 k2 : Nat) (e1 : cells + mc = k1) (e2 : slots + ms = k2)
    (hr : va_P K.1 classes wc H → va_D A wc → (∀ q, va_A wc H.size q → A q) → va_Run p l e R s m args below meth c H locs cells slots mc ms (F0 m pc ls st0) rest (va_Qv post (zB K (va_A wc H.size) w1) (va_A wc H.size) a9) (va_A wc H.size))
    (kk : ∀ (u : S) (H1 : Heap) (locs1 : List Loc), post u → va_P K.1 classes (wr ++ w1 u) H1 → va_D A (wr ++ w1 u) → va_S A s.heap H1 locs1 → W p l e R s m args below meth c H1 locs1 k1 k2 Q (F0 m (pc + 3) ls (rest))) : W p l e R s m args below meth c H locs cells slots Q (F0 m pc ls st0) := by
  subst e1; subst e2
  have hF := va_free hD hS hA isC hC
  refine va_callv (hr (hP.sub isC (z_fm hC)) (hD.sub isC hnC hC) hF) hS (fun q _ h => hF q h) hF (fun u t H1 locs1 ht hvm hw hB hz hk hS1 => ?_)
  obtain ⟨hP1, hD1⟩ := hB
  rw [ht] at hP1
  obtain ⟨h1, h2⟩ := va_join hP hD isC isR hC hR hn hdis hk hF hP1 hD1
  exact kk u H1 locs1 hw h1 h2 hS1
/-- an answer that is a cell: which one, the contract's post says -/
theorem z_callr {post : S → Prop} {ra : S → Nat} (wc wr : va_W) (isC isR : List Nat) (hP : va_P K.1 classes ws H) (hD : va_D A ws) (hS : va_S A s.heap H locs) (hA : ∀ q, s.heap.size ≤ q → A q) (hC : isC.map (fun i => ws[i]?) = wc.map some) (hR : isR.map (fun i => ws[i]?) = wr.map some) (hn : va_nd isR = true) (hnC : va_nd isC = true) (hdis : ∀ i ∈ isR, i ∉ isC) (k1 k2 : Nat) (e1 : cells + mc = k1) (e2 : slots + ms = k2)
    (hr : va_P K.1 classes wc H → va_D A wc → (∀ q, va_A wc H.size q → A q) → va_Run p l e R s m args below meth c H locs cells slots mc ms (F0 m pc ls st0) rest (va_Qr post (fun u a t => a = ra u ∧ zB K (va_A wc H.size) w1 u t) (va_A wc H.size) a9) (va_A wc H.size))
    (kk : ∀ (u : S) (H1 : Heap) (locs1 : List Loc), post u → va_P K.1 classes (wr ++ w1 u) H1 → va_D A (wr ++ w1 u) → va_S A s.heap H1 locs1 → W p l e R s m args below meth c H1 locs1 k1 k2 Q (F0 m (pc + 3) ls (.ref (ra u) :: rest))) : W p l e R s m args below meth c H locs cells slots Q (F0 m pc ls st0) := by
  subst e1; subst e2
  have hF := va_free hD hS hA isC hC
  refine va_callr (hr (hP.sub isC (z_fm hC)) (hD.sub isC hnC hC) hF) hS (fun q _ h => hF q h) hF (fun u r t H1 locs1 ht hvm hw hB hz hk hS1 => ?_)
  obtain ⟨rfl, hP1, hD1⟩ := hB
  rw [ht] at hP1
  obtain ⟨h1, h2⟩ := va_join hP hD isC isR hC hR hn hdis hk hF hP1 hD1
  exact kk u H1 locs1 hw h1 h2 hS1
/-- a call that throws EX, whatever else -/
theorem z_xcall {EX : String} (wc : va_W) (isC : List Nat) (hP : va_P K.1 classes ws H) (hD : va_D A ws) (hS : va_S A s.heap H locs) (hA : ∀ q, s.heap.size ≤ q → A q) (hC : isC.map (fun i => ws[i]?) = wc.map some) (hnC : va_nd isC = true) (k1 k2 : Nat) (e1 : cells + mc = k1) (e2 : slots + ms = k2)
    (hr : va_P K.1 classes wc H → va_D A wc → (∀ q, va_A wc H.size q → A q) → vx_Run p l e R s m args below meth c H locs cells slots mc ms (F0 m pc ls st0) rest (va_Qv (fun _ : Unit => False) (fun _ _ => True) (va_A wc H.size) a9) (zX (va_A wc H.size) EX) (va_A wc H.size))
    (kx : ∀ (ce : Cell) (q9 : Addr) (H1 : Heap) (locs1 : List Loc), va_S A s.heap H1 locs1 → H1[q9]? = some ce → ce.vm = .none → s.vm.findClass EX = some ce.cls → vx_W p l e R s m args below meth c H1 locs1 k1 k2 Q (F0 m pc ls rest) q9) : W p l e R s m args below meth c H locs cells slots Q (F0 m pc ls st0) := by
  subst e1; subst e2
  have hF := va_free hD hS hA isC hC
  refine vx_callv (hr (hP.sub isC (z_fm hC)) (hD.sub isC hnC hC) hF) hS (fun q _ h => hF q h) hF (fun q _ h => hF q h) (fun E ce q9 u t H1 locs1 ht hvm hw hB hz hk hS1 hce hcv hcl => ?_) (fun u t H1 locs1 ht hvm hw hB hz hk hS1 => hw.elim)
  subst hB
  exact kx ce q9 H1 locs1 hS1 hce hcv hcl
/-- a call of a method with handlers that answers an int -/
theorem z_hcalli {post : Int32 → S → Prop} (wc wr : va_W) (isC isR : List Nat) (hP : va_P K.1 classes ws H) (hD : va_D A ws) (hS : va_S A s.heap H locs) (hA : ∀ q, s.heap.size ≤ q → A q) (hC : isC.map (fun i => ws[i]?) = wc.map some) (hR : isR.map (fun i => ws[i]?) = wr.map some) (hn : va_nd isR = true) (hnC : va_nd isC = true) (hdis : ∀ i ∈ isR, i ∉ isC) (k1 k2 : Nat) (e1 : cells + mc = k1) (e2 : slots + ms = k2)
    (hr : va_P K.1 classes wc H → va_D A wc → (∀ q, va_A wc H.size q → A q) → vx_Run p l e R s m args below meth c H locs cells slots mc ms (F0 m pc ls st0) rest (va_Qi post (zB K (va_A wc H.size) w1) (va_A wc H.size) a9) (vx_X (fun _ : Unit => False) (fun _ _ _ => True) (va_A wc H.size)) (va_A wc H.size))
    (kk : ∀ (r : Int32) (u : S) (H1 : Heap) (locs1 : List Loc), post r u → va_P K.1 classes (wr ++ w1 u) H1 → va_D A (wr ++ w1 u) → va_S A s.heap H1 locs1 → W p l e R s m args below meth c H1 locs1 k1 k2 Q (F0 m (pc + 3) ls (.int r :: rest))) : W p l e R s m args below meth c H locs cells slots Q (F0 m pc ls st0) := by
  subst e1; subst e2
  have hF := va_free hD hS hA isC hC
  refine vx_calli (hr (hP.sub isC (z_fm hC)) (hD.sub isC hnC hC) hF) hS (fun q _ h => hF q h) hF (fun q _ h => hF q h) (fun E ce q9 u t H1 locs1 ht hvm hw hB hz hk hS1 hce hcv hcl => hw.elim) (fun r u t H1 locs1 ht hvm hw hB hz hk hS1 => ?_)
  obtain ⟨hP1, hD1⟩ := hB
  rw [ht] at hP1
  obtain ⟨h1, h2⟩ := va_join hP hD isC isR hC hR hn hdis hk hF hP1 hD1
  exact kk r u H1 locs1 hw h1 h2 hS1
/-- not caught here: the method ends with it -/
theorem z_xout {EX : String} {ce : Cell} {q : Addr} (hno : ∀ x ∈ c.exceptionTable.toList, False) (hlocks : meth.locks = false) (hS : va_S A s.heap H locs) (hce : H[q]? = some ce) (hcv : ce.vm = .none) (hcl : s.vm.findClass EX = some ce.cls) (hc : cells ≤ mc) (hs : slots ≤ ms) : vx_W p l e R s m args below meth c H locs cells slots (vx_MQ below Qc (zX A EX) args s mc ms A) (F0 m pc ls rest) q :=
  vx_out (E := EX) (fun x h => (hno x h).elim) hlocks hce hcv hcl (fun t ht ha => ⟨(), trivial, rfl, hS.F ht⟩) hS.2.2 hc hs
theorem z_xout_F {st t : State} (hz : st.heap.size ≤ t.heap.size) (hk : ∀ q : Nat, q < st.heap.size → ¬ A q → t.heap[q]? = st.heap[q]?) : va_F A st t := ⟨hz, hk⟩
theorem z_throw {EX text : String} {ik is ic : Nat} (hx : p.tables.exec = Jvm.exec) (hb : c.code = cc) (hl : l.stackTraces = false) (hg : ∀ w ∈ WG, w.before args s = true) (hown : s.vm.findClass RX11 = some m.cls) (hfit : Bundle.fit EX = true) (hk : Cond.classLink RX11 ik EX ∈ WG) (hini : Cond.initialized EX ∈ WG) (hstr : zSt is text s) (hat : ∀ w ∈ vx_atS RX11 ic EX zSup, w.before args s = true) (hgood : ∀ w ∈ Cond.classLink RX11 ik EX :: Cond.initialized EX :: vx_atS RX11 ic EX zSup, vx_ot w = true) (hZ : zE A s s.heap) (hS : va_S A s.heap H locs) (hsize : ls.size = nL) (hml : c.maxLocals = nL)
    (d0 : decode cc pc = .ok (.new ik, 3)) (d3 : decode cc (pc + 3) = .ok (.dup, 1)) (d4 : decode cc (pc + 4) = .ok (.ldc is, 2)) (d6 : decode cc (pc + 6) = .ok (.invokespecial ic, 3)) (d9 : decode cc (pc + 9) = .ok (.athrow, 1)) (hno : ∀ x ∈ c.exceptionTable.toList, False) (hlocks : meth.locks = false)
    (hRf : 5 < R.frames) (hRl : (rest.map fun v => v.category).sum + 82 ≤ R.locals) (hc : cells + 1 ≤ mc) (hs : slots + 6 ≤ ms) (hRc : mc ≤ R.cells) (hRs : ms ≤ R.slots) :
    W p l e R s m args below meth c H locs cells slots (vx_MQ below Qc (zX A EX) args s mc ms A) (F0 m pc ls rest) := by
  obtain ⟨sa, hsa⟩ := hstr
  exact vx_throwS (A := A) (names := zSup) hx hb hl hown hfit (by decide) (hg _ hk) (hg _ hini) hsa hat hgood hZ.2.1 hZ.2.2 hS (hsize.trans hml.symm) d0 d3 d4 d6 d9 (fun x h => (hno x h).elim) hRf hRl (Nat.le_trans hc hRc) (Nat.le_trans hs hRs) hlocks
    (fun t ha hz hk => ⟨(), trivial, rfl, Nat.le_trans hS.1 hz, fun q h1 h2 => (hk q (Nat.lt_of_lt_of_le h1 hS.1)).trans (hS.2.1 q h1 h2)⟩) hS.2.2 hc hs
end ZC
section ZNR
variable {p : Program} {l : Launch} {e : Env} {R : Room} {s : State} {m : MethodId} {args : Array Value} {below : List Frame} {meth : Method} {c : Code} {H : Heap} {locs : List Loc} {cells slots : Nat} {Q : State → Prop}
variable {cc : ByteArray} {pc : Nat} {ls : Array Slot} {rest : List Value} {A : Nat → Prop} {a : Nat} {ws : va_W} {H0 : Heap} {K : zK} {own : String}
theorem z_newr {index : Nat} (hx : p.tables.exec = Jvm.exec) (hb : c.code = cc) (hown : s.vm.findClass own = some m.cls) (hw : (Cond.classLink own index RX7).before args s = true) (hover : va_AO RX7 s) (hK : va_K K.1 classes (zT K) s) (hP : va_P K.1 classes ws H) (hD : va_D A ws) (hS : va_S A H0 H locs) (hA : ∀ q, H0.size ≤ q → A q) {n : Int32} {N' : Nat} (hN : n = nI N') (hn : N' < 2 ^ 20) (k1 k2 : Nat) (e1 : cells + 1 = k1) (e2 : slots + N' = k2) (h1 : k1 ≤ R.cells) (h2 : k2 ≤ R.slots) (hdg : decode cc pc = .ok (.anewarray index, 3))
    (kk : ∀ (q : Nat) (H1 : Heap), va_P K.1 classes (ws ++ [(q, zR K N' (fun _ => none))]) H1 → va_D A (ws ++ [(q, zR K N' (fun _ => none))]) → va_S A H0 H1 locs → W p l e R s m args below meth c H1 locs k1 k2 Q (F0 m (pc + 3) ls (.ref q :: rest))) : W p l e R s m args below meth c H locs cells slots Q (F0 m pc ls (.int n :: rest)) := by
  subst hN; subst e1; subst e2
  refine va_newq (D := K.1) (C := RX7) hx hb hown hw hover hK hP hD hS hA (nI_pos (by omega)) (nI_clamp (by omega)) (by omega) h1 h2 hdg (fun q cA H1 hK1 hP1 hD1 hS1 => ?_)
  obtain ⟨k1, comp1, a1, a2, a3, a4⟩ : va_RA s (K.2 3) (.object RX7) := (hK.2 3 _ rfl).2
  obtain ⟨k2, comp2, b1, b2, b3, b4⟩ : va_RA s cA (.object RX7) := (hK1.2 4 (cA, .object RX7) rfl).2
  have e : K.2 3 = cA := Option.some.inj (a4.symm.trans b4)
  subst e
  exact kk q H1 hP1 hD1 hS1
end ZNR
section ZN
variable {p : Program} {l : Launch} {e : Env} {R : Room} {s : State} {m : MethodId} {args : Array Value} {below : List Frame} {meth : Method} {c : Code} {H : Heap} {locs : List Loc} {cells slots : Nat} {Q : State → Prop}
variable {cc : ByteArray} {pc : Nat} {ls : Array Slot} {A : Nat → Prop} {K : zK} {mc ms : Nat} {S : Type} {w1 : S → va_W}
theorem z_vret {post : S → Prop} (hx : p.tables.exec = Jvm.exec) (hb : c.code = cc) (hr : meth.sig.returnType = none) (u : S) (hp : post u) (hP : va_P K.1 classes (w1 u) H) (hD : va_D A (w1 u)) (hS : va_S A s.heap H locs) (hc : cells ≤ mc) (hs : slots ≤ ms) (hlocks : meth.locks = false) (hdg : decode cc pc = .ok (.return_, 1)) : W p l e R s m args below meth c H locs cells slots (MQ below (va_Qv post (zB K A w1) A) args s mc ms A) (F0 m pc ls []) :=
  W.widen hc hs (W.vret hx hb hr (fun t ht _ => ⟨⟨u, rfl, hp, by rw [ht]; exact hP, hD⟩, hS.F ht⟩) hS.2.2 hdg hlocks)
theorem z_iret {post : Int32 → S → Prop} {v : Int32} (hx : p.tables.exec = Jvm.exec) (hb : c.code = cc) (hr : meth.sig.returnType = some .int) (u : S) (hp : post v u) (hP : va_P K.1 classes (w1 u) H) (hD : va_D A (w1 u)) (hS : va_S A s.heap H locs) (hc : cells ≤ mc) (hs : slots ≤ ms) (hlocks : meth.locks = false) (hdg : decode cc pc = .ok (.ireturn, 1)) : W p l e R s m args below meth c H locs cells slots (MQ below (va_Qi post (zB K A w1) A) args s mc ms A) (F0 m pc ls [.int v]) :=
  W.widen hc hs (W.iret (v := v) hx hb hr (fun t ht _ => ⟨⟨v, u, rfl, hp, by rw [ht]; exact hP, hD⟩, hS.F ht⟩) hS.2.2 hdg hlocks)
theorem z_zret {post : Int32 → S → Prop} {v : Int32} (hx : p.tables.exec = Jvm.exec) (hb : c.code = cc) (hr : meth.sig.returnType = some .boolean) (hnv : narrow .boolean (.int v) = .int v) (u : S) (hp : post v u) (hP : va_P K.1 classes (w1 u) H) (hD : va_D A (w1 u)) (hS : va_S A s.heap H locs) (hc : cells ≤ mc) (hs : slots ≤ ms) (hlocks : meth.locks = false) (hdg : decode cc pc = .ok (.ireturn, 1)) : W p l e R s m args below meth c H locs cells slots (MQ below (va_Qi post (zB K A w1) A) args s mc ms A) (F0 m pc ls [.int v]) :=
  W.widen hc hs (W.zret (v := v) hx hb hr hnv (fun t ht _ => ⟨⟨v, u, rfl, hp, by rw [ht]; exact hP, hD⟩, hS.F ht⟩) hS.2.2 hdg hlocks)
theorem z_lret {post : Int64 → S → Prop} {v : Int64} (hx : p.tables.exec = Jvm.exec) (hb : c.code = cc) (hr : meth.sig.returnType = some .long) (u : S) (hp : post v u) (hP : va_P K.1 classes (w1 u) H) (hD : va_D A (w1 u)) (hS : va_S A s.heap H locs) (hc : cells ≤ mc) (hs : slots ≤ ms) (hlocks : meth.locks = false) (hdg : decode cc pc = .ok (.lreturn, 1)) : W p l e R s m args below meth c H locs cells slots (MQ below (va_Ql post (zB K A w1) A) args s mc ms A) (F0 m pc ls [.long v]) :=
  W.widen hc hs (W.lret (v := v) hx hb hr (fun t ht _ => ⟨⟨v, u, rfl, hp, by rw [ht]; exact hP, hD⟩, hS.F ht⟩) hS.2.2 hdg hlocks)
theorem z_aret {post : S → Prop} {ra : S → Nat} {C : String} (hx : p.tables.exec = Jvm.exec) (hb : c.code = cc) (hr : meth.sig.returnType = some (.object C)) (u : S) (hp : post u) (hP : va_P K.1 classes (w1 u) H) (hD : va_D A (w1 u)) (hS : va_S A s.heap H locs) (hc : cells ≤ mc) (hs : slots ≤ ms) (hlocks : meth.locks = false) (hdg : decode cc pc = .ok (.areturn, 1)) : W p l e R s m args below meth c H locs cells slots (MQ below (va_Qr post (fun u a t => a = ra u ∧ zB K A w1 u t) A) args s mc ms A) (F0 m pc ls [.ref (ra u)]) :=
  W.widen hc hs (W.aret (v := .ref (ra u)) hx hb hr (Or.inl ⟨_, rfl⟩) (Or.inr ⟨_, rfl⟩) (fun t ht _ => ⟨⟨u, ra u, rfl, hp, rfl, by rw [ht]; exact hP, hD⟩, hS.F ht⟩) hS.2.2 hdg hlocks)
end ZN
/-- a contract out of a walk of the body -/
theorem z_met {l : Launch} {y : MethodName} {cc : ByteArray} {maxL : Nat} {ret : Option FieldType} {rm : Room} {K : zK} {ws : va_W} {sz : Nat} {av : List Value} {Qc : (Nat → Prop) → Array Value → State → Outcome → State → Prop} {mc ms : Nat} (hy : plainName y.cls = true) (hlen : (lg_sl av).length ≤ maxL)
    (body : ∀ (p : Program) (e : Env) (s : State) (m : MethodId) (args : Array Value) (below : List Frame) (meth : Method) (c : Code) (A : Nat → Prop) (ls : Array Slot) (H : Heap), p.tables.exec = Jvm.exec → c.code = cc → meth.sig.returnType = ret → (∀ w ∈ WG, w.before args s = true) → s.vm.findClass y.cls = some m.cls → meth.locks = false → c.maxLocals = maxL → meth.name = y.name → va_K K.1 classes (zT K) s → va_P K.1 classes ws H → va_D A ws → (∀ q, s.heap.size ≤ q → A q) → va_S A s.heap H [] → zE A s s.heap → lv_has ls maxL (lv_args 0 av) → W p l e rm s m args below meth c H [] 0 0 (MQ below (Qc A) args s mc ms A) (F0 m 0 ls [])) :
    Met l y (Cond.code y cc maxL ret :: WG) rm (zPre K ws sz av) (Qc (va_A ws sz)) mc ms (va_A ws sz) := by
  refine Met.ofW (cc := cc) (maxL := maxL) (ret := ret) hy rfl ?_
  intro p e s m args below meth c s₁ B hml hv
  obtain ⟨rfl, hsz, hP, hK, hD0, hZ⟩ := hv
  have hts := atoms_spec (ws := Cond.code y cc maxL ret :: WG) B.pre
  subst hsz
  have hl := lv_entry av (n := maxL) hlen
  rw [lg_entry_eq]
  generalize (lg_sl av ++ List.replicate (maxL - (lg_sl av).length) Slot.unset).toArray = ls at hl ⊢
  exact body p e s m _ below meth c (va_A ws s.heap.size) ls s.heap B.exec B.bytes B.returns (fun w h => hts w (List.mem_cons_of_mem _ h)) (findClass_of_methodNamed B.named) B.notSynchronized hml (name_of_methodNamed B.named B.method).1 hK hP (hD0.self (sz := s.heap.size)) (fun q h => Or.inr h) va_S.rf hZ hl
theorem z_xmet {l : Launch} {y : MethodName} {cc : ByteArray} {maxL : Nat} {ret : Option FieldType} {rm : Room} {K : zK} {ws : va_W} {sz : Nat} {av : List Value} {Qc : (Nat → Prop) → Array Value → State → Outcome → State → Prop} {XC : (Nat → Prop) → String → State → State → Prop} {mc ms : Nat} (hy : plainName y.cls = true) (hlen : (lg_sl av).length ≤ maxL)
    (body : ∀ (p : Program) (e : Env) (s : State) (m : MethodId) (args : Array Value) (below : List Frame) (meth : Method) (c : Code) (A : Nat → Prop) (ls : Array Slot) (H : Heap), p.tables.exec = Jvm.exec → c.code = cc → meth.sig.returnType = ret → (∀ w ∈ WG, w.before args s = true) → s.vm.findClass y.cls = some m.cls → meth.locks = false → c.maxLocals = maxL → (∀ x ∈ c.exceptionTable.toList, False) → va_K K.1 classes (zT K) s → va_P K.1 classes ws H → va_D A ws → (∀ q, s.heap.size ≤ q → A q) → va_S A s.heap H [] → zE A s s.heap → lv_has ls maxL (lv_args 0 av) → W p l e rm s m args below meth c H [] 0 0 (vx_MQ below (Qc A) (XC A) args s mc ms A) (F0 m 0 ls [])) :
    vx_Met l y (Cond.code y cc maxL ret :: WG) rm (zPre K ws sz av) (Qc (va_A ws sz)) (XC (va_A ws sz)) mc ms (va_A ws sz) := by
  refine vx_ofW (cc := cc) (maxL := maxL) (ret := ret) hy rfl ?_
  intro p e s m args below meth c s₁ B hml hno hv
  obtain ⟨rfl, hsz, hP, hK, hD0, hZ⟩ := hv
  have hts := atoms_spec (ws := Cond.code y cc maxL ret :: WG) B.pre
  subst hsz
  have hl := lv_entry av (n := maxL) hlen
  rw [lg_entry_eq]
  generalize (lg_sl av ++ List.replicate (maxL - (lg_sl av).length) Slot.unset).toArray = ls at hl ⊢
  exact body p e s m _ below meth c (va_A ws s.heap.size) ls s.heap B.exec B.bytes B.returns (fun w h => hts w (List.mem_cons_of_mem _ h)) (findClass_of_methodNamed B.named) B.notSynchronized hml hno hK hP (hD0.self (sz := s.heap.size)) (fun q h => Or.inr h) va_S.rf hZ hl
/-- a method with handlers, that answers -/
theorem z_hmet {l : Launch} {y : MethodName} {cc : ByteArray} {maxL : Nat} {ret : Option FieldType} {hh : List (Nat × Nat × Nat × Nat)} {rm : Room} {K : zK} {ws : va_W} {sz : Nat} {av : List Value} {Qc : (Nat → Prop) → Array Value → State → Outcome → State → Prop} {XC : (Nat → Prop) → String → State → State → Prop} {mc ms : Nat} (hy : plainName y.cls = true) (hlen : (lg_sl av).length ≤ maxL)
    (body : ∀ (p : Program) (e : Env) (s : State) (m : MethodId) (args : Array Value) (below : List Frame) (meth : Method) (c : Code) (A : Nat → Prop) (ls : Array Slot) (H : Heap), p.tables.exec = Jvm.exec → c.code = cc → meth.sig.returnType = ret → (∀ w ∈ WG, w.before args s = true) → s.vm.findClass y.cls = some m.cls → meth.locks = false → c.maxLocals = maxL → c.exceptionTable.toList = tableOf hh → va_K K.1 classes (zT K) s → va_P K.1 classes ws H → va_D A ws → (∀ q, s.heap.size ≤ q → A q) → va_S A s.heap H [] → zE A s s.heap → lv_has ls maxL (lv_args 0 av) → W p l e rm s m args below meth c H [] 0 0 (MQ below (Qc A) args s mc ms A) (F0 m 0 ls [])) :
    vx_Met l y (Cond.codeWith y cc maxL ret hh :: WG) rm (zPre K ws sz av) (Qc (va_A ws sz)) (XC (va_A ws sz)) mc ms (va_A ws sz) := by
  refine vx_ofWH (cc := cc) (maxL := maxL) (ret := ret) (hh := hh) hy rfl ?_
  intro p e s m args below meth c s₁ B hml hv
  obtain ⟨rfl, hsz, hP, hK, hD0, hZ⟩ := hv
  have hts := atoms_spec (ws := Cond.codeWith y cc maxL ret hh :: WG) B.pre
  have hTab : c.exceptionTable.toList = tableOf hh := vx_table (x := y) B (hts _ List.mem_cons_self)
  subst hsz
  have hl := lv_entry av (n := maxL) hlen
  rw [lg_entry_eq]
  generalize (lg_sl av ++ List.replicate (maxL - (lg_sl av).length) Slot.unset).toArray = ls at hl ⊢
  exact vx_ret (body p e s m _ below meth c (va_A ws s.heap.size) ls s.heap B.exec B.bytes B.returns (fun w h => hts w (List.mem_cons_of_mem _ h)) (findClass_of_methodNamed B.named) B.notSynchronized hml hTab hK hP (hD0.self (sz := s.heap.size)) (fun q h => Or.inr h) va_S.rf hZ hl)

def zL (own : String) (ic : Nat) (EX : String) : List Cond := vx_atS own ic EX zSup
theorem ok_zIA : ∀ w ∈ Cond.classLink RX11 82 zIA :: Cond.initialized zIA :: vx_atS RX11 86 zIA zSup, vx_ot w = true := by decide +kernel
theorem ok_zIS : ∀ w ∈ Cond.classLink RX11 89 zIS :: Cond.initialized zIS :: vx_atS RX11 93 zIS zSup, vx_ot w = true := by decide +kernel
theorem ok_zIB : ∀ w ∈ Cond.classLink RX11 161 zIB :: Cond.initialized zIB :: vx_atS RX11 165 zIB zSup, vx_ot w = true := by decide +kernel
theorem at_zIA {A : Nat → Prop} {s : State} {H : Heap} {args : Array Value} (hg : ∀ w ∈ WG, w.before args s = true) (hZ : zE A s H) : ∀ w ∈ vx_atS RX11 86 zIA zSup, w.before args s = true :=
  vx_hat (L := vx_atS RX11 86 zIA zSup) (B := [.castable zIA zIA, zIn1 "java/lang/RuntimeException", zIn1 "java/lang/Exception", zIn1 "java/lang/Throwable"]) (fun w hw => hg w (zWm ((by decide +kernel : ∀ w ∈ (vx_atS RX11 86 zIA zSup).filter goodWord, w ∈ lw_tbl) w hw) (List.mem_filter.mp hw).2)) (by decide +kernel)
    (vx_c (va_Nw.use rfl hZ.1.1.2.1) (vx_c (va_Nw.use rfl hZ.1.1.2.2.2.2.1) (vx_c (va_Nw.use rfl hZ.1.1.2.2.2.2.2.1) (vx_c (va_Nw.use rfl hZ.1.1.2.2.2.2.2.2) vx_n))))
theorem at_zIS {A : Nat → Prop} {s : State} {H : Heap} {args : Array Value} (hg : ∀ w ∈ WG, w.before args s = true) (hZ : zE A s H) : ∀ w ∈ vx_atS RX11 93 zIS zSup, w.before args s = true :=
  vx_hat (L := vx_atS RX11 93 zIS zSup) (B := [.castable zIS zIS, zIn1 "java/lang/RuntimeException", zIn1 "java/lang/Exception", zIn1 "java/lang/Throwable"]) (fun w hw => hg w (zWm ((by decide +kernel : ∀ w ∈ (vx_atS RX11 93 zIS zSup).filter goodWord, w ∈ lw_tbl) w hw) (List.mem_filter.mp hw).2)) (by decide +kernel)
    (vx_c (va_Nw.use rfl hZ.1.1.2.2.1) (vx_c (va_Nw.use rfl hZ.1.1.2.2.2.2.1) (vx_c (va_Nw.use rfl hZ.1.1.2.2.2.2.2.1) (vx_c (va_Nw.use rfl hZ.1.1.2.2.2.2.2.2) vx_n))))
theorem at_zIB {A : Nat → Prop} {s : State} {H : Heap} {args : Array Value} (hg : ∀ w ∈ WG, w.before args s = true) (hZ : zE A s H) : ∀ w ∈ vx_atS RX11 165 zIB zSup, w.before args s = true :=
  vx_hat (L := vx_atS RX11 165 zIB zSup) (B := [.castable zIB zIB, zIn1 "java/lang/RuntimeException", zIn1 "java/lang/Exception", zIn1 "java/lang/Throwable"]) (fun w hw => hg w (zWm ((by decide +kernel : ∀ w ∈ (vx_atS RX11 165 zIB zSup).filter goodWord, w ∈ lw_tbl) w hw) (List.mem_filter.mp hw).2)) (by decide +kernel)
    (vx_c (va_Nw.use rfl hZ.1.1.2.2.2.1) (vx_c (va_Nw.use rfl hZ.1.1.2.2.2.2.1) (vx_c (va_Nw.use rfl hZ.1.1.2.2.2.2.2.1) (vx_c (va_Nw.use rfl hZ.1.1.2.2.2.2.2.2) vx_n))))
