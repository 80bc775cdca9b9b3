/-! making objects: contract Nu (one cell in, that cell and new ones out), rows for it -/
def rC (n mc ms : Nat) : Room := { frames := n, cells := mc, slots := ms, locals := 40 * n }
def Nu (l : Launch) (y : MethodName) (cy : ByteArray) (n : Nat) (rm : Room) (av : List Value) (D : va_G) (cI cJ : ClassId) (ws : va_W) (mc ms : Nat) (Ps : va_W → Prop) : Prop :=
  ∀ sz : Nat, Met l y (Cond.code y cy n none :: bw) rm (va_Pc av (fun U => U.heap.size = sz ∧ B0 D cI cJ ws U ∧ va_D (fun _ => True) ws)) (fun _ st oc t => (oc = .returned none ∧ ∃ w1, Ps w1 ∧ va_P D cs w1 t.heap ∧ va_D (va_A ws sz) w1) ∧ va_F (va_A ws sz) st t) mc ms (va_A ws sz)
theorem w_oi2 : Cond.instanceMethod Lib.objectInit ∈ bw := w_68
theorem w_oi3 : Cond.code Lib.objectInit ⟨#[0xb1]⟩ 1 none ∈ bw := w_69
theorem w_aI : Cond.arrayClass .int ∈ bw := w_98
theorem w_aJ : Cond.arrayClass .long ∈ bw := w_120
section CTOR
variable {p : Program} {l : Launch} {e : Env} {R : Room} {s : State} {m : MethodId} {args : Array Value} {below : List Frame} {meth : Method} {c : Code} {H : Heap} {locs : List Loc} {cells slots : Nat} {Q : State → Prop}
variable {cc : ByteArray} {pc nL : Nat} {ls : Array Slot} {rest : List Value} {own : String} {D : va_G} {cI cJ : ClassId} {ws : va_W} {A : Nat → Prop} {H0 : Heap}
/-- Object's own maker -/
theorem oi (S : CallFix p m c cc nL s args bw own) {idx a : Nat} (h1 : Cond.methodLink own idx Lib.objectInit ∈ bw) (hl : ls.size = nL) (hf : 1 ≤ R.frames) (hlo : (rest.map fun v => v.category).sum + 12 ≤ R.locals) (hdg : decode cc pc = .ok (.invokespecial idx, 3))
    (kk : W p l e R s m args below meth c H locs cells slots Q (F0 m (pc + 3) ls rest)) : W p l e R s m args below meth c H locs cells slots Q (F0 m pc ls (.ref a :: rest)) :=
  W.objInit (g := F0 m pc ls (.ref a :: rest)) S.1 S.2.1 S.2.2.2.1 (S.2.2.2.2 _ h1) (S.2.2.2.2 _ w_oi2) (S.2.2.2.2 _ w_oi3) rfl (hl.trans S.2.2.1.symm) rfl hdg hf (by show 2 * 0 + _ + 12 ≤ _; omega) (W.eq (g2 := F0 m (pc + 3) ls rest) rfl kk)
/-- a new row of ints -/
theorem nwI (S : CallFix p m c cc nL s args bw own) (hK : va_K D cs (tys cI cJ) s) (hP : va_P D cs ws H) (hD : va_D A ws) (hS : va_S A H0 H locs) (hA : ∀ q, H0.size ≤ q → A q) {n : Int32} {N' : Nat} (hn : ¬ n < 0) (hN : n.toNatClampNeg = N') (hy : N' * componentBytes .int ≤ 536870912) (hcells : cells + 1 ≤ R.cells) (hslots : slots + N' ≤ R.slots) (hdg : decode cc pc = .ok (.newarray .int, 2))
    (kk : ∀ (q : Nat) (H1 : Heap), va_P D cs (ws ++ [(q, .inl (cI, N', .inl (fun _ => 0)))]) H1 → va_D A (ws ++ [(q, .inl (cI, N', .inl (fun _ => 0)))]) → va_S A H0 H1 locs → W p l e R s m args below meth c H1 locs (cells + 1) (slots + N') Q (F0 m (pc + 2) ls (.ref q :: rest))) : W p l e R s m args below meth c H locs cells slots Q (F0 m pc ls (.int n :: rest)) := by
  refine va_newa (atype := .int) (ty := .int) (a0 := (N', .inl (fun _ => 0))) S.1 S.2.1 (S.2.2.2.2 _ w_aI) rfl hK hP hD hS hA (fun _ => rfl) hn hN hy hcells hslots hdg (fun q cA H1 hK1 hP1 hD1 hS1 => ?_)
  have e1 : s.vm.findClass ("[" ++ FieldType.int.toString) = some cI := (hK.2 0 _ rfl).2
  have e2 : s.vm.findClass ("[" ++ FieldType.int.toString) = some cA := (hK1.2 2 _ rfl).2
  have e3 : cA = cI := Option.some.inj (e2.symm.trans e1)
  subst e3
  exact kk q H1 hP1 hD1 hS1
theorem nwJ (S : CallFix p m c cc nL s args bw own) (hK : va_K D cs (tys cI cJ) s) (hP : va_P D cs ws H) (hD : va_D A ws) (hS : va_S A H0 H locs) (hA : ∀ q, H0.size ≤ q → A q) {n : Int32} {N' : Nat} (hn : ¬ n < 0) (hN : n.toNatClampNeg = N') (hy : N' * componentBytes .long ≤ 536870912) (hcells : cells + 1 ≤ R.cells) (hslots : slots + N' ≤ R.slots) (hdg : decode cc pc = .ok (.newarray .long, 2))
    (kk : ∀ (q : Nat) (H1 : Heap), va_P D cs (ws ++ [(q, .inl (cJ, N', .inr (.inl (fun _ => 0))))]) H1 → va_D A (ws ++ [(q, .inl (cJ, N', .inr (.inl (fun _ => 0))))]) → va_S A H0 H1 locs → W p l e R s m args below meth c H1 locs (cells + 1) (slots + N') Q (F0 m (pc + 2) ls (.ref q :: rest))) : W p l e R s m args below meth c H locs cells slots Q (F0 m pc ls (.int n :: rest)) := by
  refine va_newa (atype := .long) (ty := .long) (a0 := (N', .inr (.inl (fun _ => 0)))) S.1 S.2.1 (S.2.2.2.2 _ w_aJ) rfl hK hP hD hS hA (fun _ => rfl) hn hN hy hcells hslots hdg (fun q cA H1 hK1 hP1 hD1 hS1 => ?_)
  have e1 : s.vm.findClass ("[" ++ FieldType.long.toString) = some cJ := (hK.2 1 _ rfl).2
  have e2 : s.vm.findClass ("[" ++ FieldType.long.toString) = some cA := (hK1.2 2 _ rfl).2
  have e3 : cA = cJ := Option.some.inj (e2.symm.trans e1)
  subst e3
  exact kk q H1 hP1 hD1 hS1
/-- a new object -/
theorem nwo (S : CallFix p m c cc nL s args bw own) (hK : va_K D cs (tys cI cJ) s) (hP : va_P D cs ws H) (hD : va_D A ws) (hS : va_S A H0 H locs) (hA : ∀ q, H0.size ≤ q → A q) (ci : Nat) {idx N : Nat} {C : String} {T : u_T} (t0 : Nat → FieldType) (hin : ∀ w ∈ u_ws C T N, w ∈ bw) (hty : ∀ k, k < N → parseFieldDescriptor (T k).2.2.1 = some (t0 k))
    (h1 : Cond.classLink own idx C ∈ bw) (h2 : Cond.instantiable C N ∈ bw) (h3 : Cond.initialized C ∈ bw) (hc : cs[ci]? = some (C, T, N)) {fs : List Value} (hfs : ∀ j, j < N → defaultValue (t0 j) = vp_V fs j) (hcells : cells + 1 ≤ R.cells) (hslots : slots + N ≤ R.slots) (hdg : decode cc pc = .ok (.new idx, 3))
    (kk : ∀ (q : Nat) (H1 : Heap), va_P D cs (ws ++ [(q, .inr (ci, fs))]) H1 → va_D A (ws ++ [(q, .inr (ci, fs))]) → va_S A H0 H1 locs → W p l e R s m args below meth c H1 locs (cells + 1) (slots + N) Q (F0 m (pc + 3) ls (.ref q :: rest))) : W p l e R s m args below meth c H locs cells slots Q (F0 m pc ls rest) :=
  va_new S.1 S.2.1 S.2.2.2.2 hin t0 hty S.2.2.2.1 (S.2.2.2.2 _ h1) (S.2.2.2.2 _ h2) (S.2.2.2.2 _ h3) hK hP hD hS hA hc hfs hcells hslots hdg kk
/-- a final field, in the maker -/
theorem pfF (S : CallFix p m c cc nL s args bw own) (hK : va_K D cs (tys cI cJ) s) (hP : va_P D cs ws H) (hD : va_D A ws) (hS : va_S A H0 H locs) (hin2 : meth.name = "<init>") (q0 ci k : Nat) {a idx N : Nat} {C : String} {T : u_T} {fs : List Value} {v : Value} {ty : FieldType} (t0 : Nat → FieldType) (hin : ∀ w ∈ u_ws C T N, w ∈ bw)
    (hty : ∀ k, k < N → parseFieldDescriptor (T k).2.2.1 = some (t0 k)) (hnm : ∀ a, a < N → ∀ b, b < N → a ≠ b → (T a).2.1 ≠ (T b).2.1) (hl : Cond.fieldLink own idx (T k).1 (T k).2.1 (T k).2.2.1 ∈ bw)
    (he : ws[q0]? = some (a, .inr (ci, fs))) (hc : cs[ci]? = some (C, T, N)) (hk : k < N) (hfin : (T k).2.2.2 = true) (hdecl : (T k).1 = own) (hd : t0 k = ty) (hn : narrow ty v = v) (hfit : fits ty v = true) (hl2 : k < fs.length) (hdg : decode cc pc = .ok (.putfield idx, 3))
    (kk : ∀ (H1 : Heap) (locs1 : List Loc), va_P D cs (ws.set q0 (a, .inr (ci, fs.set k v))) H1 → va_D A (ws.set q0 (a, .inr (ci, fs.set k v))) → va_S A H0 H1 locs1 → W p l e R s m args below meth c H1 locs1 cells slots Q (F0 m (pc + 3) ls rest)) : W p l e R s m args below meth c H locs cells slots Q (F0 m pc ls (v :: .ref a :: rest)) :=
  va_putF S.1 S.2.1 S.2.2.2.2 hin t0 hty hnm S.2.2.2.1 hK hP hD hS q0 he hc k hk (S.2.2.2.2 _ hl) (fun _ h => h) hfin hin2 hdecl (by rw [hty k hk, hd]) hn hfit hl2 hdg kk
/-- behind the call of a maker -/
theorem nu_b {wc wr : va_W} {mc ms : Nat} {Ps : va_W → Prop} {st0 : List Value} (hP : va_P D cs ws H) (hD : va_D A ws) (hS : va_S A H0 H locs) (hA : ∀ q, H0.size ≤ q → A q) (isC isR : List Nat) (hC : isC.map (fun i => ws[i]?) = wc.map some) (hRr : isR.map (fun i => ws[i]?) = wr.map some) (hn : va_nd isR = true) (hdis : ∀ i ∈ isR, i ∉ isC)
    (hr : va_Run p l e R s m args below meth c H locs cells slots mc ms (F0 m pc ls st0) rest (fun st oc t => (oc = .returned none ∧ ∃ w1, Ps w1 ∧ va_P D cs w1 t.heap ∧ va_D (va_A wc H.size) w1) ∧ va_F (va_A wc H.size) st t) (va_A wc H.size))
    (kk : ∀ (w1 : va_W) (H1 : Heap) (locs1 : List Loc), Ps w1 → va_P D cs (wr ++ w1) H1 → va_D A (wr ++ w1) → va_S A H0 H1 locs1 → W p l e R s m args below meth c H1 locs1 (cells + mc) (slots + ms) Q (F0 m (pc + 3) ls rest)) : W p l e R s m args below meth c H locs cells slots Q (F0 m pc ls st0) := by
  have hF := va_free hD hS hA isC hC
  intro T0 hT X
  obtain ⟨v', st₀, t, T', L, h0, X', hL, e1, e2, ⟨⟨hv, w1, hp, hP1, hD1⟩, hz, hk1⟩, st⟩ := hr T0 hT X
  cases hv
  rw [h0] at hz hk1
  obtain ⟨hP2, hD2⟩ := va_join (H1 := t.heap) hP hD isC isR hC hRr hn hdis hk1 hF hP1 hD1
  obtain ⟨t2, a1, b1⟩ := kk w1 t.heap (locs ++ L) hp hP2 hD2 ⟨Nat.le_trans hS.1 hz, fun q h1 h2 => by rw [hk1 q (Nat.lt_of_lt_of_le h1 hS.1) (fun z => h2 (hF q z))]; exact hS.2.1 q h1 h2, fun q hq => by
      rcases List.mem_append.mp hq with h | h
      · exact hS.2.2 q h
      · exact hF _ (hL q h)⟩ T' e1 X'
  exact ⟨t2, st t2 a1, b1⟩
/-- the call of a maker -/
theorem nu_i (S : CallFix p m c cc nL s args bw own) (hN : kw s) (hK : va_K D cs (tys cI cJ) s) (hP : va_P D cs ws H) (hD : va_D A ws) (hS : va_S A H0 H locs) (hA : ∀ q, H0.size ≤ q → A q) {idx n k b mc ms : Nat} {y : MethodName} {cy : ByteArray} {rm : Room} {As : List Value} {wc wr : va_W} {Ps : va_W → Prop}
    (hM : Nu l y cy n rm (.ref b :: As) D cI cJ wc mc ms Ps) (hy : y.name = "<init>") (h1 : Cond.methodLink own idx y ∈ bw) (h2 : Cond.instanceMethod y ∈ bw) (h3 : Cond.initialized y.cls ∈ bw) (h4 : Cond.code y cy n none ∈ bw) (h5 : y.cls ≠ "java/lang/invoke/MethodHandle" ∧ y.cls ≠ "java/lang/invoke/VarHandle" ∧ (parseMethodDescriptor y.desc).map (fun d => d.parameters.length) = some k)
    (isC isR : List Nat) (hnd : va_nd isC = true) (hC : isC.map (fun i => ws[i]?) = wc.map some) (hRr : isR.map (fun i => ws[i]?) = wr.map some) (hn : va_nd isR = true) (hdis : ∀ i ∈ isR, i ∉ isC)
    (hrm : rm.cells = mc ∧ rm.slots = ms) (hR : rm.frames + 1 ≤ R.frames ∧ 8 + (n + 11) + rm.locals ≤ R.locals) (hk : As.length = k) (hsz : ls.size = nL) (hst : (rest.map fun v => v.category).sum ≤ 8) (hf : cells + mc ≤ R.cells ∧ slots + ms ≤ R.slots) (hdg : decode cc pc = .ok (.invokespecial idx, 3)) {st0 : List Value} (hst0 : st0 = As.reverse ++ .ref b :: rest)
    (kk : ∀ (w1 : va_W) (H1 : Heap) (locs1 : List Loc), Ps w1 → va_P D cs (wr ++ w1) H1 → va_D A (wr ++ w1) → va_S A H0 H1 locs1 → W p l e R s m args below meth c H1 locs1 (cells + mc) (slots + ms) Q (F0 m (pc + 3) ls rest)) : W p l e R s m args below meth c H locs cells slots Q (F0 m pc ls st0) := by
  have hPc : va_P D cs wc H := fun k q hq => by
    obtain ⟨i, -, h2⟩ := map_at hC k q hq
    exact hP i q h2
  have hDc : va_D A wc := hD.sub isC hnd hC
  have hp : PreS s H (va_Pc (.ref b :: As) (fun U => U.heap.size = H.size ∧ B0 D cI cJ wc U ∧ va_D (fun _ => True) wc)) (.ref b :: As) := ⟨fun a U g mk q => ⟨q.1, q.2.1, ⟨q.2.2.1.1, va_K.moved (u := U) (U := U.calling g mk a) (Vm.Alike.refl U.vm) q.2.2.1.2.1, kw_call q.2.2.1.2.2⟩, q.2.2.2⟩, fun U hU hW => ⟨rfl, by rw [hU], ⟨by rw [hU]; exact hPc, va_K.moved hW.alike hK, kw_warm hW hN⟩, hDc.weaken (fun _ _ _ _ => trivial)⟩⟩
  exact nu_b hP hD hS hA isC isR hC hRr hn hdis (va_runI (g := F0 m pc ls st0) (rest := rest) S (hM H.size) ⟨callB_of k S.2.2.2.2 (bw_g h4) rfl hrm.1 hrm.2 (S.2.2.2.2 _ h3) (S.2.2.2.2 _ h1) h5 hR, hy, S.2.2.2.2 _ h2⟩ hp rfl hk hsz hst0 (lv_room hst) hdg hf) kk
/-- the call of a nest mate's maker -/
theorem nu_iN (S : CallFix p m c cc nL s args bw own) (hN : kw s) (hK : va_K D cs (tys cI cJ) s) (hP : va_P D cs ws H) (hD : va_D A ws) (hS : va_S A H0 H locs) (hA : ∀ q, H0.size ≤ q → A q) {idx n k b mc ms : Nat} {y : MethodName} {cy : ByteArray} {rm : Room} {As : List Value} {wc wr : va_W} {Ps : va_W → Prop} {host : String}
    (hM : Nu l y cy n rm (.ref b :: As) D cI cJ wc mc ms Ps) (hy : y.name = "<init>") (h1 : Cond.methodLinkNest own idx y host ∈ nw) (h2 : Cond.instanceMethod y ∈ bw) (h3 : Cond.initialized y.cls ∈ bw) (h4 : Cond.code y cy n none ∈ bw) (h5 : y.cls ≠ "java/lang/invoke/MethodHandle" ∧ y.cls ≠ "java/lang/invoke/VarHandle" ∧ (parseMethodDescriptor y.desc).map (fun d => d.parameters.length) = some k)
    (isC isR : List Nat) (hnd : va_nd isC = true) (hC : isC.map (fun i => ws[i]?) = wc.map some) (hRr : isR.map (fun i => ws[i]?) = wr.map some) (hn : va_nd isR = true) (hdis : ∀ i ∈ isR, i ∉ isC)
    (hrm : rm.cells = mc ∧ rm.slots = ms) (hR : rm.frames + 1 ≤ R.frames ∧ 8 + (n + 11) + rm.locals ≤ R.locals) (hk : As.length = k) (hsz : ls.size = nL) (hst : (rest.map fun v => v.category).sum ≤ 8) (hf : cells + mc ≤ R.cells ∧ slots + ms ≤ R.slots) (hdg : decode cc pc = .ok (.invokespecial idx, 3)) {st0 : List Value} (hst0 : st0 = As.reverse ++ .ref b :: rest)
    (kk : ∀ (w1 : va_W) (H1 : Heap) (locs1 : List Loc), Ps w1 → va_P D cs (wr ++ w1) H1 → va_D A (wr ++ w1) → va_S A H0 H1 locs1 → W p l e R s m args below meth c H1 locs1 (cells + mc) (slots + ms) Q (F0 m (pc + 3) ls rest)) : W p l e R s m args below meth c H locs cells slots Q (F0 m pc ls st0) := by
  have hPc : va_P D cs wc H := fun k q hq => by
    obtain ⟨i, -, h2⟩ := map_at hC k q hq
    exact hP i q h2
  have hDc : va_D A wc := hD.sub isC hnd hC
  have hp : PreS s H (va_Pc (.ref b :: As) (fun U => U.heap.size = H.size ∧ B0 D cI cJ wc U ∧ va_D (fun _ => True) wc)) (.ref b :: As) := ⟨fun a U g mk q => ⟨q.1, q.2.1, ⟨q.2.2.1.1, va_K.moved (u := U) (U := U.calling g mk a) (Vm.Alike.refl U.vm) q.2.2.1.2.1, kw_call q.2.2.1.2.2⟩, q.2.2.2⟩, fun U hU hW => ⟨rfl, by rw [hU], ⟨by rw [hU]; exact hPc, va_K.moved hW.alike hK, kw_warm hW hN⟩, hDc.weaken (fun _ _ _ _ => trivial)⟩⟩
  exact nu_b hP hD hS hA isC isR hC hRr hn hdis (va_runIN (g := F0 m pc ls st0) (rest := rest) S (hM H.size) ⟨va_cnB k S.2.2.2.2 (bw_g h4) rfl hrm.1 hrm.2 (hN _ h1) (S.2.2.2.2 _ h3) h5 hR, hy, S.2.2.2.2 _ h2⟩ hp rfl hk hsz hst0 (lv_room hst) hdg hf) kk
/-- the end of a maker -/
theorem nu_n {w0 wE : va_W} {mc ms : Nat} {Ps : va_W → Prop} (S : CallFix p m c cc nL s args bw own) (hr : meth.sig.returnType = none) (hlocks : meth.locks = false) (hP : va_P D cs wE H) (hD : va_D (va_A w0 s.heap.size) wE) (hS : va_S (va_A w0 s.heap.size) s.heap H locs) (hdg : decode cc pc = .ok (.return_, 1)) (hw : Ps wE) (hc : cells ≤ mc) (hsl : slots ≤ ms) : W p l e R s m args below meth c H locs cells slots (MQ below (fun _ st oc t => (oc = .returned none ∧ ∃ w1, Ps w1 ∧ va_P D cs w1 t.heap ∧ va_D (va_A w0 s.heap.size) w1) ∧ va_F (va_A w0 s.heap.size) st t) args s mc ms (va_A w0 s.heap.size)) (F0 m pc ls []) := by
  refine W.widen (k := mc) (n := ms) hc hsl ?_
  exact W.vret S.1 S.2.1 hr (fun t ht _ => ⟨⟨rfl, wE, hw, by rw [ht]; exact hP, hD⟩, hS.F ht⟩) hS.2.2 hdg hlocks
end CTOR
/-- a maker's contract out of its walk -/
theorem nu_of {l : Launch} {y : MethodName} {cy : ByteArray} {n mc ms : Nat} {rm : Room} {av : List Value} {D : va_G} {cI cJ : ClassId} {ws : va_W} {Ps : va_W → Prop} (hy : plainName y.cls = true) (hyi : y.name = "<init>") (hn : (lg_sl av).length ≤ n)
    (body : ∀ (p : Program) (e : Env) (s : State) (m : MethodId) (below : List Frame) (meth : Method) (c : Code) (ls : Array Slot), CallFix p m c cy n s av.toArray bw y.cls → meth.sig.returnType = none → meth.locks = false → meth.name = "<init>" → kw s → va_K D cs (tys cI cJ) s → va_P D cs ws s.heap → va_D (va_A ws s.heap.size) ws → lv_has ls n (lv_args 0 av) →
      W p l e rm s m av.toArray below meth c s.heap [] 0 0 (MQ below (fun _ st oc t => (oc = .returned none ∧ ∃ w1, Ps w1 ∧ va_P D cs w1 t.heap ∧ va_D (va_A ws s.heap.size) w1) ∧ va_F (va_A ws s.heap.size) st t) av.toArray s mc ms (va_A ws s.heap.size)) (F0 m 0 ls [])) : Nu l y cy n rm av D cI cJ ws mc ms Ps := by
  intro sz
  refine Met.ofW (cc := cy) (maxL := n) (ret := none) hy rfl ?_
  intro p e s m args below meth c s₁ B hml hv
  obtain ⟨rfl, rfl, ⟨hP, hK, hN⟩, hD⟩ := hv
  have hts := atoms_spec (ws := Cond.code y cy n none :: bw) B.pre
  have hown : s.vm.findClass y.cls = some m.cls := findClass_of_methodNamed B.named
  have hl := lv_entry av (n := n) hn
  rw [lg_entry_eq]
  exact body p e s m below meth c _ ⟨B.exec, B.bytes, hml, hown, fun w h => hts w (List.mem_cons_of_mem _ h)⟩ B.returns B.notSynchronized ((name_of_methodNamed B.named B.method).1.trans hyi) hN hK hP hD.self hl
