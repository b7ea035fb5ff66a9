/-! ROWS OF THIS CLAIM'S OWN: one list of words for all methods (WG), objects as functions of their fields' places, rows of ints, longs, booleans and Rows of four fixed classes, calls with the frame rule in one row each. -/
def WG : List Cond := lw_tbl.filter goodWord
theorem zWm {w : Cond} (h : w ∈ lw_tbl) (g : goodWord w = true) : w ∈ WG := List.mem_filter.mpr ⟨h, g⟩
theorem zWg {w : Cond} (h : w ∈ WG) : goodWord w = true := (List.mem_filter.mp h).2
theorem zWt {w : Cond} (h : w ∈ WG) : w ∈ lw_tbl := (List.mem_filter.mp h).1
theorem zIn {ws : List Cond} (h : ∀ w ∈ ws, w ∈ WG) : GoodIn WG ws := fun w hw => ⟨h w hw, good_of_word (zWg (h w hw))⟩
theorem zCons {c : Cond} (h : c ∈ WG) : ∀ w ∈ c :: WG, w ∈ WG := fun w hw => (List.mem_cons.mp hw).elim (fun e => by rw [e]; exact h) id
theorem zC1 {P : Cond → Prop} {a : Cond} {l : List Cond} (h : P a) (t : ∀ w ∈ l, P w) : ∀ w ∈ a :: l, P w := fun w hw => (List.mem_cons.mp hw).elim (fun e => by rw [e]; exact h) (t w)
theorem zC0 {P : Cond → Prop} : ∀ w ∈ ([] : List Cond), P w := fun _ h => nomatch h
theorem zGI {c : Cond} (h : c ∈ WG) : GoodIn WG (c :: WG) := zIn (zCons h)
theorem zGV {own : String} {idx : Nat} {C : String} {y : MethodName} {c : Cond} (h1 : Cond.methodLink own idx y ∈ WG) (h2 : Cond.instanceMethod y ∈ WG) (h3 : Cond.selects C y y ∈ WG) (h4 : Cond.initialized C ∈ WG) (h5 : c ∈ WG) : GoodIn WG (wsV own idx C y (c :: WG)) := zIn fun w hw => by
  unfold wsV at hw
  rcases List.mem_append.mp hw with h | h
  · exact zC1 (P := fun w => w ∈ WG) h1 (zC1 h2 (zC1 h3 (zC1 h4 zC0))) w h
  · exact zCons h5 w h
theorem zGS {own : String} {idx : Nat} {y : MethodName} {c : Cond} (h1 : Cond.methodLink own idx y ∈ WG) (h2 : Cond.static y ∈ WG) (h4 : Cond.initialized y.cls ∈ WG) (h5 : c ∈ WG) : GoodIn WG (va_wsS own idx y (c :: WG)) := zIn fun w hw => by
  unfold va_wsS at hw
  rcases List.mem_append.mp hw with h | h
  · exact zC1 (P := fun w => w ∈ WG) h1 (zC1 h2 (zC1 h4 zC0)) w h
  · exact zCons h5 w h
abbrev zK : Type := va_G × (Nat → ClassId)
abbrev classes : List vw_C := [(RX0, TX0, 8), (RX1, TX1, 18), (RX2, TX2, 6), (RX3, TX3, 7), (RX5, TX5, 6), (RX6, TX6, 9), (RX7, TX7, 3), (RX9, TX9, 6), (RX10, TX10, 6), (RX11, TX11, 9), (RX12, TX12, 83)]
def zT (K : zK) : List (ClassId × FieldType) := [(K.2 0, .int), (K.2 1, .long), (K.2 2, .boolean), (K.2 3, .object RX7)]
def zI (K : zK) (n : Nat) (f : Nat → Int32) : va_E := .inl (K.2 0, n, .inl f)
def zJ (K : zK) (n : Nat) (f : Nat → Int64) : va_E := .inl (K.2 1, n, .inr (.inl f))
def zZ (K : zK) (n : Nat) (f : Nat → Int32) : va_E := .inl (K.2 2, n, .inl f)
def zR (K : zK) (n : Nat) (f : Nat → Option Nat) : va_E := .inl (K.2 3, n, .inr (.inr (.inr (.inr f))))
def zF (n : Nat) (g : Nat → Value) : List Value := (List.range n).map g
def zO (ci n : Nat) (g : Nat → Value) : va_E := .inr (ci, zF n g)
theorem zF_len {n : Nat} {g : Nat → Value} : (zF n g).length = n := by simp [zF]
theorem zF_get {n k : Nat} {g : Nat → Value} (h : k < n) : (zF n g)[k]? = some (g k) := by simp [zF, List.getElem?_range, h]
theorem zF_set {n k : Nat} {g : Nat → Value} {v : Value} : (zF n g).set k v = zF n (va_up g k v) := by
  apply List.ext_getElem?
  intro j
  by_cases hj : j < n
  · rw [zF_get hj]
    by_cases e : j = k
    · subst e
      rw [List.getElem?_set_self (by rw [zF_len]; exact hj)]
      simp [va_up]
    · rw [List.getElem?_set_ne (Ne.symm e), zF_get hj]
      simp [va_up, e]
  · rw [List.getElem?_eq_none (by rw [List.length_set, zF_len]; omega), List.getElem?_eq_none (by rw [zF_len]; omega)]
theorem zu_eq {α : Type} {g : Nat → α} {k : Nat} {v : α} : va_up g k v k = v := by simp [va_up]
theorem zu_ne {α : Type} {g : Nat → α} {k j : Nat} {v x : α} (h : j ≠ k) (e : g j = x) : va_up g k v j = x := by simp [va_up, h, e]
theorem zu_of {α : Type} {g g1 : Nat → α} {j : Nat} {x : α} (e : g1 = g) (h : g j = x) : g1 j = x := by rw [e]; exact h
theorem zu_at {α : Type} {g : Nat → α} {i j : Nat} {x : α} (e : i = j) (h : g j = x) : g i = x := by rw [e]; exact h
section ZW
variable {p : Program} {l : Launch} {e : Env} {R : Room} {s : State} {m : MethodId} {args : Array Value} {below : List Frame} {meth : Method} {c : Code} {H : Heap} {locs : List Loc} {cells slots : Nat} {Q : State → Prop}
variable {cc : ByteArray} {pc : Nat} {ls : Array Slot} {rest : List Value} {A : Nat → Prop} {a : Nat} {ws : va_W} {H0 : Heap} {K : zK} {own : String}
/-- a computed number by another name -/
theorem z_cst {x v : Int32} (h : x = v) (k : W p l e R s m args below meth c H locs cells slots Q (F0 m pc ls (.int v :: rest))) : W p l e R s m args below meth c H locs cells slots Q (F0 m pc ls (.int x :: rest)) := by rw [h]; exact k
theorem z_cstl {x v : Int64} (h : x = v) (k : W p l e R s m args below meth c H locs cells slots Q (F0 m pc ls (.long v :: rest))) : W p l e R s m args below meth c H locs cells slots Q (F0 m pc ls (.long x :: rest)) := by rw [h]; exact k
theorem z_get {C : String} {T : u_T} {N ci index : Nat} (hx : p.tables.exec = Jvm.exec) (hb : c.code = cc) (hg : ∀ w ∈ WG, w.before args s = true) (hown : s.vm.findClass own = some m.cls) (hK : va_K K.1 classes (zT K) s) (hP : va_P K.1 classes ws H) (hin : ∀ w ∈ u_ws C T N, w ∈ WG) (hc : classes[ci]? = some (C, T, N)) (q0 : Nat) {g : Nat → Value} (he : ws[q0]? = some (a, zO ci N g)) (k : Nat) (hk : k < N) (hlink : Cond.fieldLink own index (T k).1 (T k).2.1 (T k).2.2.1 ∈ WG) {v : Value} (hv : g k = v) (hdg : decode cc pc = .ok (.getfield index, 3))
    (kk : W p l e R s m args below meth c H locs cells slots Q (F0 m (pc + 3) ls (v :: rest))) : W p l e R s m args below meth c H locs cells slots Q (F0 m pc ls (.ref a :: rest)) :=
  va_get (D := K.1) hx hb hg hin hown hK hP q0 he hc k hk (hg _ hlink) (fun _ h => h) (by rw [zF_get hk, hv]) hdg kk
theorem z_put {C : String} {T : u_T} {N ci index : Nat} (hx : p.tables.exec = Jvm.exec) (hb : c.code = cc) (hg : ∀ w ∈ WG, w.before args s = true) (hown : s.vm.findClass own = some m.cls) (hK : va_K K.1 classes (zT K) s) (hP : va_P K.1 classes ws H) (hD : va_D A ws) (hS : va_S A H0 H locs) (hin : ∀ w ∈ u_ws C T N, w ∈ WG) (hc : classes[ci]? = some (C, T, N)) {ty : Nat → FieldType} (hty : ∀ k, k < N → parseFieldDescriptor (T k).2.2.1 = some (ty k)) (hnm : ∀ a, a < N → ∀ b, b < N → a ≠ b → (T a).2.1 ≠ (T b).2.1) (q0 : Nat) {g : Nat → Value} (he : ws[q0]? = some (a, zO ci N g)) (k : Nat) (hk : k < N) (hlink : Cond.fieldLink own index (T k).1 (T k).2.1 (T k).2.2.1 ∈ WG) (hfin : (T k).2.2.2 = false) {v : Value} (hn : narrow (ty k) v = v) (hfit : fits (ty k) v = true) (hdg : decode cc pc = .ok (.putfield index, 3))
    (kk : ∀ (g1 : Nat → Value) (H1 : Heap) (locs1 : List Loc), g1 = va_up g k v → va_P K.1 classes (ws.set q0 (a, zO ci N g1)) H1 → va_D A (ws.set q0 (a, zO ci N g1)) → va_S A H0 H1 locs1 → W p l e R s m args below meth c H1 locs1 cells slots Q (F0 m (pc + 3) ls rest)) : W p l e R s m args below meth c H locs cells slots Q (F0 m pc ls (v :: .ref a :: rest)) :=
  va_put (D := K.1) hx hb hg hin ty hty hnm hown hK hP hD hS q0 he hc k hk (hg _ hlink) (fun _ h => h) hfin (hty k hk) hn hfit (by rw [zF_len]; exact hk) hdg (fun H1 locs1 h1 h2 h3 => kk _ H1 locs1 rfl (by rw [zF_set] at h1; exact h1) (by rw [zF_set] at h2; exact h2) h3)
theorem z_putF {C : String} {T : u_T} {N ci index : Nat} (hx : p.tables.exec = Jvm.exec) (hb : c.code = cc) (hg : ∀ w ∈ WG, w.before args s = true) (hown : s.vm.findClass own = some m.cls) (hK : va_K K.1 classes (zT K) s) (hP : va_P K.1 classes ws H) (hD : va_D A ws) (hS : va_S A H0 H locs) (hin : ∀ w ∈ u_ws C T N, w ∈ WG) (hc : classes[ci]? = some (C, T, N)) {ty : Nat → FieldType} (hty : ∀ k, k < N → parseFieldDescriptor (T k).2.2.1 = some (ty k)) (hnm : ∀ a, a < N → ∀ b, b < N → a ≠ b → (T a).2.1 ≠ (T b).2.1) (hin2 : meth.name = "<init>") (q0 : Nat) {g : Nat → Value} (he : ws[q0]? = some (a, zO ci N g)) (k : Nat) (hk : k < N) (hlink : Cond.fieldLink own index (T k).1 (T k).2.1 (T k).2.2.1 ∈ WG) (hfin : (T k).2.2.2 = true) (hdecl : (T k).1 = own) {v : Value} (hn : narrow (ty k) v = v) (hfit : fits (ty k) v = true) (hdg : decode cc pc = .ok (.putfield index, 3))
    (kk : ∀ (g1 : Nat → Value) (H1 : Heap) (locs1 : List Loc), g1 = va_up g k v → va_P K.1 classes (ws.set q0 (a, zO ci N g1)) H1 → va_D A (ws.set q0 (a, zO ci N g1)) → va_S A H0 H1 locs1 → W p l e R s m args below meth c H1 locs1 cells slots Q (F0 m (pc + 3) ls rest)) : W p l e R s m args below meth c H locs cells slots Q (F0 m pc ls (v :: .ref a :: rest)) :=
  va_putF (D := K.1) hx hb hg hin ty hty hnm hown hK hP hD hS q0 he hc k hk (hg _ hlink) (fun _ h => h) hfin hin2 hdecl (hty k hk) hn hfit (by rw [zF_len]; exact hk) hdg (fun H1 locs1 h1 h2 h3 => kk _ H1 locs1 rfl (by rw [zF_set] at h1; exact h1) (by rw [zF_set] at h2; exact h2) h3)
theorem z_ix {i : Int32} {j n : Nat} (hi : i = nI j) (hj : j < n) (hn : n < 2 ^ 31) : vp_in i n ∧ i.toNatClampNeg = j := by
  subst hi
  exact ⟨vp_in_nI hj hn, nI_clamp (by omega)⟩
theorem z_iald (hx : p.tables.exec = Jvm.exec) (hb : c.code = cc) (hK : va_K K.1 classes (zT K) s) (hP : va_P K.1 classes ws H) (q0 : Nat) {n j : Nat} {f : Nat → Int32} (ha : ws[q0]? = some (a, zI K n f)) {i v : Int32} (hi : i = nI j) (hj : j < n) (hn : n < 2 ^ 31) (hv : f j = v) (hdg : decode cc pc = .ok (.iaload, 1))
    (kk : W p l e R s m args below meth c H locs cells slots Q (F0 m (pc + 1) ls (.int v :: rest))) : W p l e R s m args below meth c H locs cells slots Q (F0 m pc ls (.int i :: .ref a :: rest)) := by
  obtain ⟨h1, h2⟩ := z_ix hi hj hn
  refine va_iald (D := K.1) hx hb hK hP q0 0 ha rfl h1 hdg ?_
  rw [h2, hv]; exact kk
theorem z_zald (hx : p.tables.exec = Jvm.exec) (hb : c.code = cc) (hK : va_K K.1 classes (zT K) s) (hP : va_P K.1 classes ws H) (q0 : Nat) {n j : Nat} {f : Nat → Int32} (ha : ws[q0]? = some (a, zZ K n f)) {i v : Int32} (hi : i = nI j) (hj : j < n) (hn : n < 2 ^ 31) (hv : f j = v) (hdg : decode cc pc = .ok (.baload, 1))
    (kk : W p l e R s m args below meth c H locs cells slots Q (F0 m (pc + 1) ls (.int v :: rest))) : W p l e R s m args below meth c H locs cells slots Q (F0 m pc ls (.int i :: .ref a :: rest)) := by
  obtain ⟨h1, h2⟩ := z_ix hi hj hn
  refine va_zald (D := K.1) hx hb hK hP q0 2 ha rfl h1 hdg ?_
  rw [h2, hv]; exact kk
theorem z_lald (hx : p.tables.exec = Jvm.exec) (hb : c.code = cc) (hK : va_K K.1 classes (zT K) s) (hP : va_P K.1 classes ws H) (q0 : Nat) {n j : Nat} {f : Nat → Int64} (ha : ws[q0]? = some (a, zJ K n f)) {i : Int32} {v : Int64} (hi : i = nI j) (hj : j < n) (hn : n < 2 ^ 31) (hv : f j = v) (hdg : decode cc pc = .ok (.laload, 1))
    (kk : W p l e R s m args below meth c H locs cells slots Q (F0 m (pc + 1) ls (.long v :: rest))) : W p l e R s m args below meth c H locs cells slots Q (F0 m pc ls (.int i :: .ref a :: rest)) := by
  obtain ⟨h1, h2⟩ := z_ix hi hj hn
  refine va_lald (D := K.1) hx hb hK hP q0 1 ha rfl h1 hdg ?_
  rw [h2, hv]; exact kk
theorem z_upd {f : Nat → Int32} {k : Nat} {x : Int32} : upd f k x = va_up f k x := rfl
theorem z_updL {f : Nat → Int64} {k : Nat} {x : Int64} : vp_updL f k x = va_up f k x := rfl
theorem z_iast (hx : p.tables.exec = Jvm.exec) (hb : c.code = cc) (hK : va_K K.1 classes (zT K) s) (hP : va_P K.1 classes ws H) (hD : va_D A ws) (hS : va_S A H0 H locs) (q0 : Nat) {n j : Nat} {f : Nat → Int32} (ha : ws[q0]? = some (a, zI K n f)) {i x : Int32} (hi : i = nI j) (hj : j < n) (hn : n < 2 ^ 31) (hdg : decode cc pc = .ok (.iastore, 1))
    (kk : ∀ (f1 : Nat → Int32) (H1 : Heap) (locs1 : List Loc), f1 = va_up f j x → va_P K.1 classes (ws.set q0 (a, zI K n f1)) H1 → va_D A (ws.set q0 (a, zI K n f1)) → va_S A H0 H1 locs1 → W p l e R s m args below meth c H1 locs1 cells slots Q (F0 m (pc + 1) ls rest)) : W p l e R s m args below meth c H locs cells slots Q (F0 m pc ls (.int x :: .int i :: .ref a :: rest)) := by
  obtain ⟨h1, h2⟩ := z_ix hi hj hn
  refine va_iast (D := K.1) hx hb hK hP hD hS q0 0 ha rfl h1 hdg (fun H1 locs1 hP1 hD1 hS1 => ?_)
  rw [h2, z_upd] at hP1 hD1
  exact kk _ H1 locs1 rfl hP1 hD1 hS1
theorem z_last (hx : p.tables.exec = Jvm.exec) (hb : c.code = cc) (hK : va_K K.1 classes (zT K) s) (hP : va_P K.1 classes ws H) (hD : va_D A ws) (hS : va_S A H0 H locs) (q0 : Nat) {n j : Nat} {f : Nat → Int64} (ha : ws[q0]? = some (a, zJ K n f)) {i : Int32} {x : Int64} (hi : i = nI j) (hj : j < n) (hn : n < 2 ^ 31) (hdg : decode cc pc = .ok (.lastore, 1))
    (kk : ∀ (f1 : Nat → Int64) (H1 : Heap) (locs1 : List Loc), f1 = va_up f j x → va_P K.1 classes (ws.set q0 (a, zJ K n f1)) H1 → va_D A (ws.set q0 (a, zJ K n f1)) → va_S A H0 H1 locs1 → W p l e R s m args below meth c H1 locs1 cells slots Q (F0 m (pc + 1) ls rest)) : W p l e R s m args below meth c H locs cells slots Q (F0 m pc ls (.long x :: .int i :: .ref a :: rest)) := by
  obtain ⟨h1, h2⟩ := z_ix hi hj hn
  refine va_last (D := K.1) hx hb hK hP hD hS q0 1 ha rfl h1 hdg (fun H1 locs1 hP1 hD1 hS1 => ?_)
  rw [h2, z_updL] at hP1 hD1
  exact kk _ H1 locs1 rfl hP1 hD1 hS1
theorem z_zast (hx : p.tables.exec = Jvm.exec) (hb : c.code = cc) (hK : va_K K.1 classes (zT K) s) (hP : va_P K.1 classes ws H) (hD : va_D A ws) (hS : va_S A H0 H locs) (q0 : Nat) {n j : Nat} {f : Nat → Int32} (ha : ws[q0]? = some (a, zZ K n f)) {i x : Int32} (hi : i = nI j) (hj : j < n) (hn : n < 2 ^ 31) (hv : vp_nar .boolean x = x) (hdg : decode cc pc = .ok (.bastore, 1))
    (kk : ∀ (f1 : Nat → Int32) (H1 : Heap) (locs1 : List Loc), f1 = va_up f j x → va_P K.1 classes (ws.set q0 (a, zZ K n f1)) H1 → va_D A (ws.set q0 (a, zZ K n f1)) → va_S A H0 H1 locs1 → W p l e R s m args below meth c H1 locs1 cells slots Q (F0 m (pc + 1) ls rest)) : W p l e R s m args below meth c H locs cells slots Q (F0 m pc ls (.int x :: .int i :: .ref a :: rest)) := by
  obtain ⟨h1, h2⟩ := z_ix hi hj hn
  refine va_zast (D := K.1) hx hb hK hP hD hS q0 2 ha rfl h1 hdg (fun H1 locs1 hP1 hD1 hS1 => ?_)
  rw [h2, hv, z_upd] at hP1 hD1
  exact kk _ H1 locs1 rfl hP1 hD1 hS1
theorem z_aast {C : String} {T : u_T} {N ci : Nat} (hx : p.tables.exec = Jvm.exec) (hb : c.code = cc) (hK : va_K K.1 classes (zT K) s) (hP : va_P K.1 classes ws H) (hD : va_D A ws) (hS : va_S A H0 H locs) (q0 qk : Nat) {n j v : Nat} {f : Nat → Option Nat} {g : Nat → Value} (ha : ws[q0]? = some (a, zR K n f)) (hv : ws[qk]? = some (v, zO 6 3 g)) {i : Int32} (hi : i = nI j) (hj : j < n) (hn : n < 2 ^ 31) (hdg : decode cc pc = .ok (.aastore, 1))
    (kk : ∀ (f1 : Nat → Option Nat) (H1 : Heap) (locs1 : List Loc), f1 = va_up f j (some v) → va_P K.1 classes (ws.set q0 (a, zR K n f1)) H1 → va_D A (ws.set q0 (a, zR K n f1)) → va_S A H0 H1 locs1 → W p l e R s m args below meth c H1 locs1 cells slots Q (F0 m (pc + 1) ls rest)) : W p l e R s m args below meth c H locs cells slots Q (F0 m pc ls (.ref v :: .int i :: .ref a :: rest)) := by
  obtain ⟨h1, h2⟩ := z_ix hi hj hn
  refine va_astq (D := K.1) (r := (RX7, TX7, 3)) hx hb hK hP hD hS q0 3 qk 6 ha rfl hv rfl h1 hdg (fun H1 locs1 hP1 hD1 hS1 => ?_)
  rw [h2] at hP1 hD1
  exact kk _ H1 locs1 rfl hP1 hD1 hS1
theorem z_leni (hx : p.tables.exec = Jvm.exec) (hb : c.code = cc) (hK : va_K K.1 classes (zT K) s) (hP : va_P K.1 classes ws H) (q0 : Nat) {n : Nat} {f : Nat → Int32} (ha : ws[q0]? = some (a, zI K n f)) {v : Int32} (hv : Int32.ofNat n = v) (hdg : decode cc pc = .ok (.arraylength, 1))
    (kk : W p l e R s m args below meth c H locs cells slots Q (F0 m (pc + 1) ls (.int v :: rest))) : W p l e R s m args below meth c H locs cells slots Q (F0 m pc ls (.ref a :: rest)) := va_alen (D := K.1) hx hb hK hP q0 0 ha rfl hv hdg kk
theorem z_lenj (hx : p.tables.exec = Jvm.exec) (hb : c.code = cc) (hK : va_K K.1 classes (zT K) s) (hP : va_P K.1 classes ws H) (q0 : Nat) {n : Nat} {f : Nat → Int64} (ha : ws[q0]? = some (a, zJ K n f)) {v : Int32} (hv : Int32.ofNat n = v) (hdg : decode cc pc = .ok (.arraylength, 1))
    (kk : W p l e R s m args below meth c H locs cells slots Q (F0 m (pc + 1) ls (.int v :: rest))) : W p l e R s m args below meth c H locs cells slots Q (F0 m pc ls (.ref a :: rest)) := va_alen (D := K.1) hx hb hK hP q0 1 ha rfl hv hdg kk
theorem z_lenr (hx : p.tables.exec = Jvm.exec) (hb : c.code = cc) (hK : va_K K.1 classes (zT K) s) (hP : va_P K.1 classes ws H) (q0 : Nat) {n : Nat} {f : Nat → Option Nat} (ha : ws[q0]? = some (a, zR K n f)) {v : Int32} (hv : Int32.ofNat n = v) (hdg : decode cc pc = .ok (.arraylength, 1))
    (kk : W p l e R s m args below meth c H locs cells slots Q (F0 m (pc + 1) ls (.int v :: rest))) : W p l e R s m args below meth c H locs cells slots Q (F0 m pc ls (.ref a :: rest)) := va_alen (D := K.1) hx hb hK hP q0 3 ha rfl hv hdg kk
theorem z_newi (hx : p.tables.exec = Jvm.exec) (hb : c.code = cc) (hw : (Cond.arrayClass .int).before args s = true) (hK : va_K K.1 classes (zT K) s) (hP : va_P K.1 classes ws H) (hD : va_D A ws) (hS : va_S A H0 H locs) (hA : ∀ q, H0.size ≤ q → A q) {n : Int32} {N' : Nat} (hN : n = nI N') (hn : N' < 2 ^ 20) (k1 k2 : Nat) (e1 : cells + 1 = k1) (e2 : slots + N' = k2) (h1 : k1 ≤ R.cells) (h2 : k2 ≤ R.slots) (hdg : decode cc pc = .ok (.newarray .int, 2))
    (kk : ∀ (q : Nat) (H1 : Heap), va_P K.1 classes (ws ++ [(q, zI K N' (fun _ => 0))]) H1 → va_D A (ws ++ [(q, zI K N' (fun _ => 0))]) → va_S A H0 H1 locs → W p l e R s m args below meth c H1 locs k1 k2 Q (F0 m (pc + 2) ls (.ref q :: rest))) : W p l e R s m args below meth c H locs cells slots Q (F0 m pc ls (.int n :: rest)) := by
  subst hN; subst e1; subst e2
  refine va_newa (D := K.1) (atype := .int) (ty := .int) (a0 := (N', .inl (fun _ => 0))) hx hb hw rfl hK hP hD hS hA (fun cA => by rw [vp_cell_i] <;> rfl) (nI_pos (by omega)) (nI_clamp (by omega)) (by show N' * 4 ≤ _; omega) h1 h2 hdg (fun q cA H1 hK1 hP1 hD1 hS1 => ?_)
  have e : K.2 0 = cA := Option.some.inj ((show s.vm.findClass ("[" ++ FieldType.int.toString) = some (K.2 0) from (hK.2 0 _ rfl).2).symm.trans (show s.vm.findClass ("[" ++ FieldType.int.toString) = some cA from (hK1.2 4 _ rfl).2))
  subst e
  exact kk q H1 hP1 hD1 hS1
theorem z_newz (hx : p.tables.exec = Jvm.exec) (hb : c.code = cc) (hw : (Cond.arrayClass .boolean).before args s = true) (hK : va_K K.1 classes (zT K) s) (hP : va_P K.1 classes ws H) (hD : va_D A ws) (hS : va_S A H0 H locs) (hA : ∀ q, H0.size ≤ q → A q) {n : Int32} {N' : Nat} (hN : n = nI N') (hn : N' < 2 ^ 20) (k1 k2 : Nat) (e1 : cells + 1 = k1) (e2 : slots + N' = k2) (h1 : k1 ≤ R.cells) (h2 : k2 ≤ R.slots) (hdg : decode cc pc = .ok (.newarray .boolean, 2))
    (kk : ∀ (q : Nat) (H1 : Heap), va_P K.1 classes (ws ++ [(q, zZ K N' (fun _ => 0))]) H1 → va_D A (ws ++ [(q, zZ K N' (fun _ => 0))]) → va_S A H0 H1 locs → W p l e R s m args below meth c H1 locs k1 k2 Q (F0 m (pc + 2) ls (.ref q :: rest))) : W p l e R s m args below meth c H locs cells slots Q (F0 m pc ls (.int n :: rest)) := by
  subst hN; subst e1; subst e2
  refine va_newa (D := K.1) (atype := .boolean) (ty := .boolean) (a0 := (N', .inl (fun _ => 0))) hx hb hw rfl hK hP hD hS hA (fun cA => by rw [vp_cell_i] <;> rfl) (nI_pos (by omega)) (nI_clamp (by omega)) (by show N' * 1 ≤ _; omega) h1 h2 hdg (fun q cA H1 hK1 hP1 hD1 hS1 => ?_)
  have e : K.2 2 = cA := Option.some.inj ((show s.vm.findClass ("[" ++ FieldType.boolean.toString) = some (K.2 2) from (hK.2 2 _ rfl).2).symm.trans (show s.vm.findClass ("[" ++ FieldType.boolean.toString) = some cA from (hK1.2 4 _ rfl).2))
  subst e
  exact kk q H1 hP1 hD1 hS1
theorem z_newj (hx : p.tables.exec = Jvm.exec) (hb : c.code = cc) (hw : (Cond.arrayClass .long).before args s = true) (hK : va_K K.1 classes (zT K) s) (hP : va_P K.1 classes ws H) (hD : va_D A ws) (hS : va_S A H0 H locs) (hA : ∀ q, H0.size ≤ q → A q) {n : Int32} {N' : Nat} (hN : n = nI N') (hn : N' < 2 ^ 20) (k1 k2 : Nat) (e1 : cells + 1 = k1) (e2 : slots + N' = k2) (h1 : k1 ≤ R.cells) (h2 : k2 ≤ R.slots) (hdg : decode cc pc = .ok (.newarray .long, 2))
    (kk : ∀ (q : Nat) (H1 : Heap), va_P K.1 classes (ws ++ [(q, zJ K N' (fun _ => 0))]) H1 → va_D A (ws ++ [(q, zJ K N' (fun _ => 0))]) → va_S A H0 H1 locs → W p l e R s m args below meth c H1 locs k1 k2 Q (F0 m (pc + 2) ls (.ref q :: rest))) : W p l e R s m args below meth c H locs cells slots Q (F0 m pc ls (.int n :: rest)) := by
  subst hN; subst e1; subst e2
  refine va_newa (D := K.1) (atype := .long) (ty := .long) (a0 := (N', .inr (.inl (fun _ => 0)))) hx hb hw rfl hK hP hD hS hA (fun cA => by rw [vp_cell_l] <;> rfl) (nI_pos (by omega)) (nI_clamp (by omega)) (by show N' * 8 ≤ _; omega) h1 h2 hdg (fun q cA H1 hK1 hP1 hD1 hS1 => ?_)
  have e : K.2 1 = cA := Option.some.inj ((show s.vm.findClass ("[" ++ FieldType.long.toString) = some (K.2 1) from (hK.2 1 _ rfl).2).symm.trans (show s.vm.findClass ("[" ++ FieldType.long.toString) = some cA from (hK1.2 4 _ rfl).2))
  subst e
  exact kk q H1 hP1 hD1 hS1
theorem z_new {C : String} {T : u_T} {N ci index : Nat} (hx : p.tables.exec = Jvm.exec) (hb : c.code = cc) (hg : ∀ w ∈ WG, w.before args s = true) (hown : s.vm.findClass own = some m.cls) (hK : va_K K.1 classes (zT K) s) (hP : va_P K.1 classes ws H) (hD : va_D A ws) (hS : va_S A H0 H locs) (hA : ∀ q, H0.size ≤ q → A q) (hin : ∀ w ∈ u_ws C T N, w ∈ WG) (hc : classes[ci]? = some (C, T, N)) {ty : Nat → FieldType} (hty : ∀ k, k < N → parseFieldDescriptor (T k).2.2.1 = some (ty k)) (hcl : Cond.classLink own index C ∈ WG) (hinst : Cond.instantiable C N ∈ WG) (hini : Cond.initialized C ∈ WG) (k1 k2 : Nat) (e1 : cells + 1 = k1) (e2 : slots + N = k2) (h1 : k1 ≤ R.cells) (h2 : k2 ≤ R.slots) (hdg : decode cc pc = .ok (.new index, 3))
    (kk : ∀ (q : Nat) (H1 : Heap), va_P K.1 classes (ws ++ [(q, zO ci N (fun k => defaultValue (ty k)))]) H1 → va_D A (ws ++ [(q, zO ci N (fun k => defaultValue (ty k)))]) → va_S A H0 H1 locs → W p l e R s m args below meth c H1 locs k1 k2 Q (F0 m (pc + 3) ls (.ref q :: rest))) : W p l e R s m args below meth c H locs cells slots Q (F0 m pc ls rest) := by
  subst e1; subst e2
  refine va_new (D := K.1) (fs := zF N (fun k => defaultValue (ty k))) hx hb hg hin ty hty hown (hg _ hcl) (hg _ hinst) (hg _ hini) hK hP hD hS hA hc (fun j hj => ?_) h1 h2 hdg (fun q H1 hP1 hD1 hS1 => kk q H1 hP1 hD1 hS1)
  show _ = (zF N (fun k => defaultValue (ty k))).getD j .null
  rw [List.getD_eq_getElem?_getD, zF_get hj]
  rfl
end ZW
