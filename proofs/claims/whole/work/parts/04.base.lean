/-! base (mine): the words' rules, two kinds of contract (Pu: reads only; Mu: writes cells of its world, makes none), calls by them -/
theorem bw_g {c : Cond} (h : c ∈ bw) : GoodIn bw (c :: bw) := fun w hw =>
  have h2 : w ∈ bw := (List.mem_cons.mp hw).elim (fun e => by rw [e]; exact h) id
  ⟨h2, good_of_word (List.mem_filter.mp h2).2⟩
def isNest : Cond → Bool
  | .fieldLinkNest _ _ _ _ _ _ => true
  | .methodLinkNest _ _ _ _ => true
  | _ => false
theorem nw_nest : nw.all isNest = true := by decide +kernel
theorem nw_tab : nw.all (fun w => w.onTables) = true := by decide +kernel
def kw (U : State) : Prop := ∀ w ∈ nw, va_Nw w U
theorem kw_warm {s U : State} (hW : s.WarmedH U.vm) (h : kw s) : kw U := by
  intro w hw
  have h1 := h w hw
  have h2 := List.all_eq_true.mp nw_nest w hw
  cases w <;> first | exact va_Nw.warmF hW h1 | exact va_Nw.warmM hW h1 | (simp [isNest] at h2)
theorem kw_call {U : State} {g : JFrame} {mk : MethodId} {a : Array Value} (h : kw U) : kw (U.calling g mk a) := fun w hw => va_Nw.same (u := U) (U := U.calling g mk a) (List.all_eq_true.mp nw_tab w hw) rfl (h w hw)
/-- a truth value as the machine has it -/
def bI (b : Bool) : Int32 := if b then 1 else 0
theorem bI_t : bI true = 1 := rfl
theorem bI_f : bI false = 0 := rfl
theorem bI_0 {b : Bool} : bI b = 0 ↔ b = false := by cases b <;> decide
theorem bI_n0 {b : Bool} : ¬ bI b = 0 ↔ b = true := by cases b <;> decide
theorem bI_nar (b : Bool) : narrow .boolean (.int (bI b)) = .int (bI b) := by cases b <;> decide +kernel
/-- the functions' side: loops by fuel, bounds, rows that open a function's answer -/
def lp {α β : Type} (step : (α → Option β) → α → Option β) : Nat → α → Option β
  | 0, _ => none
  | k + 1, a => step (lp step k) a
theorem lp_some {α β : Type} {step : (α → Option β) → α → Option β} {r : β} {G : α → Prop} (hs : ∀ rc : α → Option β, (∀ a, rc a = some r → G a) → ∀ a, step rc a = some r → G a) : ∀ (k : Nat) (a : α), lp step k a = some r → G a
  | 0, _, h => by cases h
  | k + 1, a, h => hs (lp step k) (fun a h => lp_some hs k a h) a h
def ok (i : Int32) (n : Nat) : Bool := decide (0 ≤ i.toInt ∧ i.toInt < n)
def ln (i : Int32) (n : Nat) : Bool := decide (0 ≤ i.toInt ∧ i.toInt ≤ n)
theorem g_t {β : Type} {c : Prop} {i : Decidable c} {a b r : Option β} (h : @ite _ c i a b = r) (hc : c) : a = r := by rw [← h, if_pos hc]
theorem g_f {β : Type} {c : Prop} {i : Decidable c} {a b r : Option β} (h : @ite _ c i a b = r) (hc : ¬ c) : b = r := by rw [← h, if_neg hc]
theorem g_ok {β : Type} {x : Int32} {n : Nat} {i : Decidable (ok x n = true)} {a : Option β} {r : β} (h : @ite _ (ok x n = true) i a none = some r) : vp_in x n ∧ a = some r := by
  by_cases hc : ok x n = true
  · exact ⟨vp_in_iff.mpr (of_decide_eq_true hc), g_t h hc⟩
  · exact absurd (g_f h hc) (by simp)
theorem g_len {β : Type} {x : Int32} {n : Nat} {i : Decidable (ln x n = true)} {a : Option β} {r : β} (h : @ite _ (ln x n = true) i a none = some r) : (¬ x < 0 ∧ x.toNatClampNeg ≤ n) ∧ a = some r := by
  by_cases hc : ln x n = true
  · obtain ⟨h1, h2⟩ := of_decide_eq_true hc
    refine ⟨⟨fun q => ?_, ?_⟩, g_t h hc⟩
    · rw [Int32.lt_iff_toInt_lt] at q
      have e : (0 : Int32).toInt = 0 := by decide
      omega
    · show x.toInt.toNat ≤ n
      omega
  · exact absurd (g_f h hc) (by simp)
theorem g_bind {α β : Type} {x : Option α} {k : α → Option β} {r : β} (h : x.bind k = some r) : ∃ a, x = some a ∧ k a = some r := by
  cases x with
  | none => cases h
  | some a => exact ⟨a, rfl, h⟩
/-- the room of a level: forty words of locals for each frame -/
def rL (n : Nat) : Room := { frames := n, cells := 0, slots := 0, locals := 40 * n }
abbrev tys (cI cJ : ClassId) : List (ClassId × FieldType) := [(cI, .int), (cJ, .long)]
def B0 (D : va_G) (cI cJ : ClassId) (ws : va_W) (U : State) : Prop := va_P D cs ws U.heap ∧ va_K D cs (tys cI cJ) U ∧ kw U
def Pu (l : Launch) (y : MethodName) (cy : ByteArray) (n : Nat) (ret : Option FieldType) (rm : Room) (av : List Value) (D : va_G) (cI cJ : ClassId) (ws : va_W) (v : Value) : Prop :=
  Met l y (Cond.code y cy n ret :: bw) rm (va_Pc av (B0 D cI cJ ws)) (fun _ st oc t => oc = .returned (some v) ∧ t.heap = st.heap) 0 0 (fun _ => False)
def Mu (l : Launch) (y : MethodName) (cy : ByteArray) (n : Nat) (ret : Option FieldType) (rm : Room) (av : List Value) (D : va_G) (cI cJ : ClassId) (ws : va_W) (v : Option Value) (ws' : va_W) : Prop :=
  ∀ sz : Nat, Met l y (Cond.code y cy n ret :: bw) rm (va_Pc av (fun U => U.heap.size = sz ∧ B0 D cI cJ ws U ∧ va_D (fun _ => True) ws)) (fun _ st oc t => (oc = .returned v ∧ va_P D cs ws' t.heap) ∧ va_F (va_A ws sz) st t) 0 0 (va_A ws sz)
/-- what a call's words are: link, instance method, selects, initialised, code; and the number of its arguments -/
def Cw (own : String) (idx : Nat) (y : MethodName) (cy : ByteArray) (n : Nat) (ret : Option FieldType) (k : Nat) : Prop :=
  Cond.methodLink own idx y ∈ bw ∧ Cond.instanceMethod y ∈ bw ∧ Cond.selects y.cls y y ∈ bw ∧ Cond.initialized y.cls ∈ bw ∧ Cond.code y cy n ret ∈ bw ∧ y.cls ≠ "java/lang/invoke/MethodHandle" ∧ y.cls ≠ "java/lang/invoke/VarHandle" ∧ (parseMethodDescriptor y.desc).map (fun d => d.parameters.length) = some k
/-- the words of a static call -/
def Cs (own : String) (idx : Nat) (y : MethodName) (cy : ByteArray) (n : Nat) (ret : Option FieldType) (k : Nat) : Prop :=
  Cond.methodLink own idx y ∈ bw ∧ Cond.static y ∈ bw ∧ Cond.initialized y.cls ∈ bw ∧ Cond.code y cy n ret ∈ bw ∧ y.cls ≠ "java/lang/invoke/MethodHandle" ∧ y.cls ≠ "java/lang/invoke/VarHandle" ∧ (parseMethodDescriptor y.desc).map (fun d => d.parameters.length) = some k
/-- a world out of an old one and what came back from a call: cell k is the j-th that came back, or the old one -/
def mg : va_W → List (Option Nat) → va_W → va_W → Prop
  | [], [], _, [] => True
  | c :: ws, none :: js, w1, c' :: ws' => c' = c ∧ mg ws js w1 ws'
  | _ :: ws, some j :: js, w1, c' :: ws' => w1[j]? = some c' ∧ mg ws js w1 ws'
  | _, _, _, _ => False
theorem mg_sp : ∀ (ws : va_W) (js : List (Option Nat)) (w1 ws' : va_W), mg ws js w1 ws' → ∀ (k : Nat) (q : Nat × va_E), ws'[k]? = some q → (∃ j : Nat, js[k]? = some (some j) ∧ w1[j]? = some q) ∨ (js[k]? = some none ∧ ws[k]? = some q)
  | _, _, _, [], _, k, q, h => by simp at h
  | [], [], _, _ :: _, hm, _, _, _ => hm.elim
  | [], _ :: _, _, _ :: _, hm, _, _, _ => hm.elim
  | _ :: _, [], _, _ :: _, hm, _, _, _ => hm.elim
  | c :: ws, none :: js, w1, c' :: ws', hm, 0, q, h => Or.inr ⟨rfl, by rw [← h, hm.1]; rfl⟩
  | c :: ws, some j :: js, w1, c' :: ws', hm, 0, q, h => Or.inl ⟨j, rfl, by rw [hm.1, ← h]; rfl⟩
  | c :: ws, none :: js, w1, c' :: ws', hm, k + 1, q, h => mg_sp ws js w1 ws' hm.2 k q h
  | c :: ws, some j :: js, w1, c' :: ws', hm, k + 1, q, h => mg_sp ws js w1 ws' hm.2 k q h
def chk (is : List Nat) (js : List (Option Nat)) : Bool := (List.range is.length).all (fun j => (List.range js.length).all (fun k => decide (is[j]? = some k ↔ js[k]? = some (some j)))) && is.all (fun k => decide (k < js.length)) && js.all (fun o => match o with | some j => decide (j < is.length) | none => true)
theorem chk_sp {is : List Nat} {js : List (Option Nat)} (h : chk is js = true) : (∀ j k : Nat, is[j]? = some k → js[k]? = some (some j)) ∧ ∀ k j : Nat, js[k]? = some (some j) → is[j]? = some k := by
  unfold chk at h
  rw [Bool.and_eq_true, Bool.and_eq_true] at h
  obtain ⟨⟨h1, h2⟩, h3⟩ := h
  have key : ∀ j k : Nat, j < is.length → k < js.length → (is[j]? = some k ↔ js[k]? = some (some j)) := fun j k hj hk =>
    of_decide_eq_true (List.all_eq_true.mp (List.all_eq_true.mp h1 j (List.mem_range.mpr hj)) k (List.mem_range.mpr hk))
  constructor
  · intro j k e
    have hj := (List.getElem?_eq_some_iff.mp e).1
    have hk := of_decide_eq_true (List.all_eq_true.mp h2 k (List.mem_of_getElem? e))
    exact (key j k hj hk).mp e
  · intro k j e
    have hk := (List.getElem?_eq_some_iff.mp e).1
    have hj := of_decide_eq_true (List.all_eq_true.mp h3 (some j) (List.mem_of_getElem? e))
    exact (key j k hj hk).mpr e
theorem map_at {is : List Nat} {ws w : va_W} (hs : is.map (fun i => ws[i]?) = w.map some) (k : Nat) (q : Nat × va_E) (hq : w[k]? = some q) : ∃ i : Nat, is[k]? = some i ∧ ws[i]? = some q := by
  have h1 : (is.map (fun i => ws[i]?))[k]? = some (some q) := by rw [hs, List.getElem?_map, hq]; rfl
  rw [List.getElem?_map] at h1
  cases hi : is[k]? with
  | none => rw [hi] at h1; cases h1
  | some i => rw [hi] at h1; exact ⟨i, rfl, Option.some.inj h1⟩
theorem map_at' {is : List Nat} {ws w : va_W} (hs : is.map (fun i => ws[i]?) = w.map some) (k i : Nat) (hi : is[k]? = some i) : ∃ q, w[k]? = some q ∧ ws[i]? = some q := by
  have h1 : (is.map (fun i => ws[i]?))[k]? = some (ws[i]?) := by rw [List.getElem?_map, hi]; rfl
  rw [hs, List.getElem?_map] at h1
  cases hq : w[k]? with
  | none => rw [hq] at h1; cases h1
  | some q => rw [hq] at h1; exact ⟨q, rfl, (Option.some.inj h1).symm⟩
/-- behind a call that wrote: the callee's cells at their places, the rest as it was -/
theorem mg_in {A : Nat → Prop} {D : va_G} {cl : List vw_C} {ws wc w1 ws' : va_W} {H H1 : Heap} (hP : va_P D cl ws H) (hD : va_D A ws) (is : List Nat) (js : List (Option Nat)) (hs : is.map (fun i => ws[i]?) = wc.map some) (ha : w1.map (fun q => q.1) = wc.map (fun q => q.1)) (hm : mg ws js w1 ws') (hj : chk is js = true)
    (hk : ∀ q : Nat, q < H.size → ¬ va_A wc H.size q → H1[q]? = H[q]?) (hP1 : va_P D cl w1 H1) : va_P D cl ws' H1 ∧ va_D A ws' := by
  obtain ⟨j1, j2⟩ := chk_sp hj
  have adr : ∀ (k : Nat) (q : Nat × va_E), ws'[k]? = some q → ∃ q0, ws[k]? = some q0 ∧ q0.1 = q.1 := by
    intro k q h
    rcases mg_sp ws js w1 ws' hm k q h with ⟨j, h1, h2⟩ | ⟨-, h2⟩
    · obtain ⟨q0, h3, h4⟩ := map_at' hs j k (j2 k j h1)
      have e1 : (w1.map (fun q => q.1))[j]? = some q.1 := by rw [List.getElem?_map, h2]; rfl
      rw [ha, List.getElem?_map, h3] at e1
      exact ⟨q0, h4, Option.some.inj e1⟩
    · exact ⟨q, h2, rfl⟩
  refine ⟨fun k q h => ?_, fun i j x y hx hy hxy => ?_, fun k q h => ?_⟩
  · rcases mg_sp ws js w1 ws' hm k q h with ⟨j, -, h2⟩ | ⟨h1, h2⟩
    · exact hP1 j q h2
    · have hlt := (hP k q h2).lt
      refine (hP k q h2).kept (hk q.1 hlt (fun h => ?_))
      rcases h with ⟨k2, e, h⟩ | h
      · obtain ⟨i, h3, h4⟩ := map_at hs k2 (q.1, e) h
        have e2 := hD.1 k i q (q.1, e) h2 h4 rfl
        subst e2
        rw [j1 k2 k h3] at h1
        cases h1
      · omega
  · obtain ⟨x0, h1, h2⟩ := adr i x hx
    obtain ⟨y0, h3, h4⟩ := adr j y hy
    exact hD.1 i j x0 y0 h1 h3 (h2.trans (hxy.trans h4.symm))
  · obtain ⟨q0, h1, h2⟩ := adr k q h
    rw [← h2]
    exact hD.2 k q0 h1
section BASE
variable {p : Program} {l : Launch} {e : Env} {R : Room} {s : State} {m : MethodId} {args : Array Value} {below : List Frame} {meth : Method} {c : Code} {H : Heap} {locs : List Loc} {cells slots : Nat} {Q : State → Prop}
variable {cc : ByteArray} {pc nL : Nat} {ls : Array Slot} {rest : List Value} {own : String} {D : va_G} {cI cJ : ClassId} {ws : va_W} {A : Nat → Prop} {H0 : Heap}
/-- a branch on a truth value -/
theorem b_ifeq (hx : p.tables.exec = Jvm.exec) (hb : c.code = cc) {b : Bool} {off : Int} {tgt : Nat} (hdg : decode cc pc = .ok (.ifCond .eq off, 3)) (ht : (pc : Int) + off = (tgt : Int))
    (kt : ¬ b = true → W p l e R s m args below meth c H locs cells slots Q (F0 m tgt ls rest)) (kf : b = true → W p l e R s m args below meth c H locs cells slots Q (F0 m (pc + 3) ls rest)) : W p l e R s m args below meth c H locs cells slots Q (F0 m pc ls (.int (bI b) :: rest)) :=
  lv_if_eq hx hb hdg ht (fun h => kt (fun q => by rw [bI_0.mp h] at q; cases q)) (fun h => kf (bI_n0.mp h))
theorem b_ifne (hx : p.tables.exec = Jvm.exec) (hb : c.code = cc) {b : Bool} {off : Int} {tgt : Nat} (hdg : decode cc pc = .ok (.ifCond .ne off, 3)) (ht : (pc : Int) + off = (tgt : Int))
    (kt : b = true → W p l e R s m args below meth c H locs cells slots Q (F0 m tgt ls rest)) (kf : ¬ b = true → W p l e R s m args below meth c H locs cells slots Q (F0 m (pc + 3) ls rest)) : W p l e R s m args below meth c H locs cells slots Q (F0 m pc ls (.int (bI b) :: rest)) :=
  lv_if_ne hx hb hdg ht (fun h => kt (bI_n0.mp h)) (fun h => kf (fun q => by rw [bI_0.mp h] at q; cases q))
/-- a switch's default, in the table or outside -/
theorem lv_tableD (hx : p.tables.exec = Jvm.exec) (hb : c.code = cc) {dflt lo hi : Int} {offs : Array Int} {len : Nat} {x : Int32} {tgt : Nat} (hdg : decode cc pc = .ok (.tableswitch dflt lo hi offs, len)) (h : ¬ x.toInt < lo → ¬ hi < x.toInt → offs[(x.toInt - lo).toNat]? = some dflt) (ht : (pc : Int) + dflt = (tgt : Int))
    (k : W p l e R s m args below meth c H locs cells slots Q (F0 m tgt ls rest)) : W p l e R s m args below meth c H locs cells slots Q (F0 m pc ls (.int x :: rest)) := by
  by_cases h1 : x.toInt < lo
  · exact lv_tableOut hx hb hdg (Or.inl h1) ht k
  · by_cases h2 : hi < x.toInt
    · exact lv_tableOut hx hb hdg (Or.inr h2) ht k
    · exact lv_tableIn hx hb hdg h1 h2 (h h1 h2) ht k
/-- Math.max -/
theorem mx (S : CallFix p m c cc nL s args bw own) {index : Nat} (h1 : Cond.methodLink own index Lib.Math.max.name ∈ bw) (h2 : Cond.static Lib.Math.max.name ∈ bw) (h3 : Cond.initialized "java/lang/Math" ∈ bw) (h4 : Cond.code Lib.Math.max.name Lib.Math.max.code 2 (some .int) ∈ bw) (hl : ls.size = nL) (hf : 1 ≤ R.frames) (hlo : (rest.map fun v => v.category).sum + 13 ≤ R.locals) {x y : Int32} (hdg : decode cc pc = .ok (.invokestatic index, 3))
    (kk : W p l e R s m args below meth c H locs 0 0 Q (F0 m (pc + 3) ls (.int (if x < y then y else x) :: rest))) : W p l e R s m args below meth c H locs 0 0 Q (F0 m pc ls (.int y :: .int x :: rest)) :=
  va_mmax S.1 S.2.1 (S.2.2.1.trans hl.symm) S.2.2.2.1 (S.2.2.2.2 _ h1) (S.2.2.2.2 _ h2) (S.2.2.2.2 _ h3) (S.2.2.2.2 _ h4) hf hlo (Nat.zero_le _) (Nat.zero_le _) hdg kk
/-- System.arraycopy of the first n of one row to the first n of another -/
theorem cpi (S : CallFix p m c cc nL s args bw own) {index : Nat} (h1 : Cond.methodLink own index arraycopyName ∈ bw) (h2 : Cond.native arraycopyName ∈ bw) (h3 : Cond.static arraycopyName ∈ bw) (h4 : Cond.initialized "java/lang/System" ∈ bw) (hl : ls.size = nL) (hK : va_K D cs (tys cI cJ) s) (hP : va_P D cs ws H) (hD : va_D A ws) (hS : va_S A H0 H locs) (q0 q1 : Nat) {a0 a : Nat} {f g : Nat → Int32} (ha0 : ws[q0]? = some (a0, .inl (cI, 120, .inl f))) (ha1 : ws[q1]? = some (a, .inl (cI, 120, .inl g)))
    {n : Int32} (hn : ¬ n < 0 ∧ n.toNatClampNeg ≤ 120) (hf : 1 ≤ R.frames) (hlo : (rest.map fun v => v.category).sum + (nativeFrameWords "java/lang/System" "arraycopy" 5 + 11) ≤ R.locals) (hdg : decode cc pc = .ok (.invokestatic index, 3))
    (kk : ∀ (H1 : Heap) (locs1 : List Loc), va_P D cs (ws.set q1 (a, .inl (cI, 120, .inl (va_cpy f g 0 0 n.toNatClampNeg)))) H1 → va_D A (ws.set q1 (a, .inl (cI, 120, .inl (va_cpy f g 0 0 n.toNatClampNeg)))) → va_S A H0 H1 locs1 → W p l e R s m args below meth c H1 locs1 0 0 Q (F0 m (pc + 3) ls rest)) : W p l e R s m args below meth c H locs 0 0 Q (F0 m pc ls (.int n :: .int 0 :: .ref a :: .int 0 :: .ref a0 :: rest)) :=
  va_copyi (sp := 0) (dp := 0) S.1 S.2.1 (S.2.2.1.trans hl.symm) S.2.2.2.1 (S.2.2.2.2 _ h1) (S.2.2.2.2 _ h2) (S.2.2.2.2 _ h3) (S.2.2.2.2 _ h4) hK hP hD hS q0 q1 0 0 ha0 ha1 rfl rfl rfl (by decide) (by decide) hn.1 (by rw [show (0 : Int32).toNatClampNeg = 0 from by decide, Nat.zero_add]; exact hn.2) (by rw [show (0 : Int32).toNatClampNeg = 0 from by decide, Nat.zero_add]; exact hn.2) (fun _ _ => rfl) hf hlo hdg (by rw [show (0 : Int32).toNatClampNeg = 0 from by decide]; exact kk)
/-- a field, of the class's own -/
theorem gf (S : CallFix p m c cc nL s args bw own) (hK : va_K D cs (tys cI cJ) s) (hP : va_P D cs ws H) (q0 ci k : Nat) {a idx N : Nat} {C : String} {T : u_T} {fs : List Value} {v : Value} (hin : ∀ w ∈ u_ws C T N, w ∈ bw) (hl : Cond.fieldLink own idx (T k).1 (T k).2.1 (T k).2.2.1 ∈ bw)
    (he : ws[q0]? = some (a, .inr (ci, fs))) (hc : cs[ci]? = some (C, T, N)) (hk : k < N) (hv : fs[k]? = some v) (hdg : decode cc pc = .ok (.getfield idx, 3))
    (kk : W p l e R s m args below meth c H locs cells slots Q (F0 m (pc + 3) ls (v :: rest))) : W p l e R s m args below meth c H locs cells slots Q (F0 m pc ls (.ref a :: rest)) :=
  va_get S.1 S.2.1 S.2.2.2.2 hin S.2.2.2.1 hK hP q0 he hc k hk (S.2.2.2.2 _ hl) (fun _ h => h) hv hdg kk
/-- a nest mate's field -/
theorem gfN (S : CallFix p m c cc nL s args bw own) (hN : kw s) (hK : va_K D cs (tys cI cJ) s) (hP : va_P D cs ws H) (q0 ci k : Nat) {a idx N : Nat} {C host : String} {T : u_T} {fs : List Value} {v : Value} (hin : ∀ w ∈ u_ws C T N, w ∈ bw) (hl : Cond.fieldLinkNest own idx (T k).1 (T k).2.1 (T k).2.2.1 host ∈ nw)
    (he : ws[q0]? = some (a, .inr (ci, fs))) (hc : cs[ci]? = some (C, T, N)) (hk : k < N) (hv : fs[k]? = some v) (hdg : decode cc pc = .ok (.getfield idx, 3))
    (kk : W p l e R s m args below meth c H locs cells slots Q (F0 m (pc + 3) ls (v :: rest))) : W p l e R s m args below meth c H locs cells slots Q (F0 m pc ls (.ref a :: rest)) :=
  va_getN S.1 S.2.1 S.2.2.2.2 hin S.2.2.2.1 hK hP q0 he hc k hk (va_Nw.use rfl (hN _ hl)) (fun _ h => h) hv hdg kk
theorem pf (S : CallFix p m c cc nL s args bw own) (hK : va_K D cs (tys cI cJ) s) (hP : va_P D cs ws H) (hD : va_D A ws) (hS : va_S A H0 H locs) (q0 ci k : Nat) {a idx N : Nat} {C : String} {T : u_T} {fs : List Value} {v : Value} {ty : FieldType} (t0 : Nat → FieldType) (hin : ∀ w ∈ u_ws C T N, w ∈ bw)
    (hty : ∀ k, k < N → parseFieldDescriptor (T k).2.2.1 = some (t0 k)) (hnm : ∀ a, a < N → ∀ b, b < N → a ≠ b → (T a).2.1 ≠ (T b).2.1) (hl : Cond.fieldLink own idx (T k).1 (T k).2.1 (T k).2.2.1 ∈ bw)
    (he : ws[q0]? = some (a, .inr (ci, fs))) (hc : cs[ci]? = some (C, T, N)) (hk : k < N) (hfin : (T k).2.2.2 = false) (hd : t0 k = ty) (hn : narrow ty v = v) (hfit : fits ty v = true) (hl2 : k < fs.length) (hdg : decode cc pc = .ok (.putfield idx, 3))
    (kk : ∀ (H1 : Heap) (locs1 : List Loc), va_P D cs (ws.set q0 (a, .inr (ci, fs.set k v))) H1 → va_D A (ws.set q0 (a, .inr (ci, fs.set k v))) → va_S A H0 H1 locs1 → W p l e R s m args below meth c H1 locs1 cells slots Q (F0 m (pc + 3) ls rest)) : W p l e R s m args below meth c H locs cells slots Q (F0 m pc ls (v :: .ref a :: rest)) :=
  va_put S.1 S.2.1 S.2.2.2.2 hin t0 hty hnm S.2.2.2.1 hK hP hD hS q0 he hc k hk (S.2.2.2.2 _ hl) (fun _ h => h) hfin (by rw [hty k hk, hd]) hn hfit hl2 hdg kk
theorem pfN (S : CallFix p m c cc nL s args bw own) (hN : kw s) (hK : va_K D cs (tys cI cJ) s) (hP : va_P D cs ws H) (hD : va_D A ws) (hS : va_S A H0 H locs) (q0 ci k : Nat) {a idx N : Nat} {C host : String} {T : u_T} {fs : List Value} {v : Value} {ty : FieldType} (t0 : Nat → FieldType) (hin : ∀ w ∈ u_ws C T N, w ∈ bw)
    (hty : ∀ k, k < N → parseFieldDescriptor (T k).2.2.1 = some (t0 k)) (hnm : ∀ a, a < N → ∀ b, b < N → a ≠ b → (T a).2.1 ≠ (T b).2.1) (hl : Cond.fieldLinkNest own idx (T k).1 (T k).2.1 (T k).2.2.1 host ∈ nw)
    (he : ws[q0]? = some (a, .inr (ci, fs))) (hc : cs[ci]? = some (C, T, N)) (hk : k < N) (hfin : (T k).2.2.2 = false) (hd : t0 k = ty) (hn : narrow ty v = v) (hfit : fits ty v = true) (hl2 : k < fs.length) (hdg : decode cc pc = .ok (.putfield idx, 3))
    (kk : ∀ (H1 : Heap) (locs1 : List Loc), va_P D cs (ws.set q0 (a, .inr (ci, fs.set k v))) H1 → va_D A (ws.set q0 (a, .inr (ci, fs.set k v))) → va_S A H0 H1 locs1 → W p l e R s m args below meth c H1 locs1 cells slots Q (F0 m (pc + 3) ls rest)) : W p l e R s m args below meth c H locs cells slots Q (F0 m pc ls (v :: .ref a :: rest)) :=
  va_putN S.1 S.2.1 S.2.2.2.2 hin t0 hty hnm S.2.2.2.1 hK hP hD hS q0 he hc k hk (va_Nw.use rfl (hN _ hl)) (fun _ h => h) hfin (by rw [hty k hk, hd]) hn hfit hl2 hdg kk
/-- the words of a virtual call -/
theorem cw_of {idx n k : Nat} {y : MethodName} {cy : ByteArray} {ret : Option FieldType} {rm : Room} (S : CallFix p m c cc nL s args bw own) (hw : Cw own idx y cy n ret k) (hrm : rm.cells = 0 ∧ rm.slots = 0) (hR : rm.frames + 1 ≤ R.frames ∧ 8 + (n + 11) + rm.locals ≤ R.locals) : CallW R s args own y.cls idx y cy n ret (Cond.code y cy n ret :: bw) rm 0 0 k := by
  obtain ⟨h1, h2, h3, h4, h5, h6⟩ := hw
  exact ⟨callB_of k S.2.2.2.2 (bw_g h5) rfl hrm.1 hrm.2 (S.2.2.2.2 _ h4) (S.2.2.2.2 _ h1) h6 hR, S.2.2.2.2 _ h2, S.2.2.2.2 _ h3⟩
/-- a call of a method that only reads -/
theorem pu_v (S : CallFix p m c cc nL s args bw own) (hN : kw s) (hK : va_K D cs (tys cI cJ) s) (hP : va_P D cs ws H) {idx n k b : Nat} {y : MethodName} {cy : ByteArray} {ret : Option FieldType} {rm : Room} {As : List Value} {wc : va_W} {v : Value}
    (hM : Pu l y cy n ret rm (.ref b :: As) D cI cJ wc v) (hw : Cw own idx y cy n ret k) (is : List Nat) (hs : is.filterMap (fun i => ws[i]?) = wc) (ci : Nat) {T : u_T} {N : Nat} {fs : List Value} (he : wc[0]? = some (b, .inr (ci, fs))) (hc : cs[ci]? = some (y.cls, T, N))
    (hrm : rm.cells = 0 ∧ rm.slots = 0) (hR : rm.frames + 1 ≤ R.frames ∧ 8 + (n + 11) + rm.locals ≤ R.locals) (hk : As.length = k) (hsz : ls.size = nL) (hst : (rest.map fun v => v.category).sum ≤ 8) (hf : cells ≤ R.cells ∧ slots ≤ R.slots) (hdg : decode cc pc = .ok (.invokevirtual idx, 3)) {st0 : List Value} (hst0 : st0 = As.reverse ++ .ref b :: rest)
    (kk : W p l e R s m args below meth c H locs cells slots Q (F0 m (pc + 3) ls (v :: rest))) : W p l e R s m args below meth c H locs cells slots Q (F0 m pc ls st0) := by
  have hPc := hP.sub is hs
  have hp : PreV s H y.cls b (va_Pc (.ref b :: As) (B0 D cI cJ wc)) As := ⟨fun a U g mk q => ⟨q.1, q.2.1, va_K.moved (u := U) (U := U.calling g mk a) (Vm.Alike.refl U.vm) q.2.2.1, kw_call q.2.2.2⟩, va_recv hK hPc hc he, fun U hU hW => ⟨rfl, by rw [hU]; exact hPc, va_K.moved hW.alike hK, kw_warm hW hN⟩⟩
  have hr := W.runV (g := F0 m pc ls st0) (rest := rest) (e := e) (below := below) (meth := meth) (locs := locs) (cells := cells) (slots := slots) S hM (cw_of S hw hrm hR) hp rfl hk hsz hst0 (lv_room hst) hdg hf
  intro T0 hT X
  obtain ⟨v', st₀, t, T', L, h0, X', hL, e1, ⟨hv, hh⟩, st⟩ := hr T0 hT X
  cases hv
  obtain ⟨t2, a1, b1⟩ := kk T' (by rw [e1, hh, h0]) (Stand.forget X' (fun q h => (hL q h).elim))
  exact ⟨t2, st t2 a1, b1⟩
/-- a static call of a method that only reads -/
theorem pu_s (S : CallFix p m c cc nL s args bw own) (hN : kw s) (hK : va_K D cs (tys cI cJ) s) (hP : va_P D cs ws H) {idx n k : Nat} {y : MethodName} {cy : ByteArray} {ret : Option FieldType} {rm : Room} {As : List Value} {wc : va_W} {v : Value}
    (hM : Pu l y cy n ret rm As D cI cJ wc v) (hw : Cs own idx y cy n ret k) (is : List Nat) (hs : is.filterMap (fun i => ws[i]?) = wc)
    (hrm : rm.cells = 0 ∧ rm.slots = 0) (hR : rm.frames + 1 ≤ R.frames ∧ 8 + (n + 11) + rm.locals ≤ R.locals) (hk : As.length = k) (hsz : ls.size = nL) (hst : (rest.map fun v => v.category).sum ≤ 8) (hf : cells ≤ R.cells ∧ slots ≤ R.slots) (hdg : decode cc pc = .ok (.invokestatic idx, 3)) {st0 : List Value} (hst0 : st0 = As.reverse ++ rest)
    (kk : W p l e R s m args below meth c H locs cells slots Q (F0 m (pc + 3) ls (v :: rest))) : W p l e R s m args below meth c H locs cells slots Q (F0 m pc ls st0) := by
  obtain ⟨h1, h2, h4, h5, h6⟩ := hw
  have hPc := hP.sub is hs
  have hp : PreS s H (va_Pc As (B0 D cI cJ wc)) As := ⟨fun a U g mk q => ⟨q.1, q.2.1, va_K.moved (u := U) (U := U.calling g mk a) (Vm.Alike.refl U.vm) q.2.2.1, kw_call q.2.2.2⟩, fun U hU hW => ⟨rfl, by rw [hU]; exact hPc, va_K.moved hW.alike hK, kw_warm hW hN⟩⟩
  have hr := va_runS (g := F0 m pc ls st0) (rest := rest) (e := e) (below := below) (meth := meth) (locs := locs) (cells := cells) (slots := slots) S hM ⟨callB_of k S.2.2.2.2 (bw_g h5) rfl hrm.1 hrm.2 (S.2.2.2.2 _ h4) (S.2.2.2.2 _ h1) h6 hR, S.2.2.2.2 _ h2⟩ hp rfl hk hsz hst0 (lv_room hst) hdg hf
  intro T0 hT X
  obtain ⟨v', st₀, t, T', L, h0, X', hL, e1, e2, ⟨hv, hh⟩, st⟩ := hr T0 hT X
  cases hv
  obtain ⟨t2, a1, b1⟩ := kk T' (by rw [e1, hh, h0]) (Stand.forget X' (fun q h => (hL q h).elim))
  exact ⟨t2, st t2 a1, b1⟩
/-- a call of a method that writes cells of its world -/
theorem mu_v (S : CallFix p m c cc nL s args bw own) (hN : kw s) (hK : va_K D cs (tys cI cJ) s) (hP : va_P D cs ws H) (hD : va_D A ws) (hS : va_S A H0 H locs) (hA : ∀ q, H0.size ≤ q → A q) {idx n k b : Nat} {y : MethodName} {cy : ByteArray} {ret : Option FieldType} {rm : Room} {As : List Value} {wc w1 : va_W} {v : Option Value}
    (hM : Mu l y cy n ret rm (.ref b :: As) D cI cJ wc v w1) (hw : Cw own idx y cy n ret k) (is : List Nat) (js : List (Option Nat)) (ws' : va_W) (hnd : va_nd is = true) (hs : is.map (fun i => ws[i]?) = wc.map some) (ha : w1.map (fun q => q.1) = wc.map (fun q => q.1)) (hm : mg ws js w1 ws') (hj : chk is js = true) (ci : Nat) {T : u_T} {N : Nat} {fs : List Value} (he : wc[0]? = some (b, .inr (ci, fs))) (hc : cs[ci]? = some (y.cls, T, N))
    (hrm : rm.cells = 0 ∧ rm.slots = 0) (hR : rm.frames + 1 ≤ R.frames ∧ 8 + (n + 11) + rm.locals ≤ R.locals) (hk : As.length = k) (hsz : ls.size = nL) (hst : (rest.map fun v => v.category).sum ≤ 8) (hf : cells ≤ R.cells ∧ slots ≤ R.slots) (hdg : decode cc pc = .ok (.invokevirtual idx, 3)) {st0 : List Value} (hst0 : st0 = As.reverse ++ .ref b :: rest)
    (kk : ∀ (H1 : Heap) (locs1 : List Loc), va_P D cs ws' H1 → va_D A ws' → va_S A H0 H1 locs1 → W p l e R s m args below meth c H1 locs1 cells slots Q (F0 m (pc + 3) ls (v.toList ++ rest))) : W p l e R s m args below meth c H locs cells slots Q (F0 m pc ls st0) := by
  have hPc : va_P D cs wc H := fun k q hq => by
    obtain ⟨i, -, h2⟩ := map_at hs k q hq
    exact hP i q h2
  have hDc : va_D A wc := hD.sub is hnd hs
  have hF := va_free hD hS hA is hs
  have hp : PreV s H y.cls b (va_Pc (.ref b :: As) (fun U => U.heap.size = H.size ∧ B0 D cI cJ wc U ∧ va_D (fun _ => True) wc)) As := ⟨fun a U g mk q => ⟨q.1, q.2.1, ⟨q.2.2.1.1, va_K.moved (u := U) (U := U.calling g mk a) (Vm.Alike.refl U.vm) q.2.2.1.2.1, kw_call q.2.2.1.2.2⟩, q.2.2.2⟩, va_recv hK hPc hc he, fun U hU hW => ⟨rfl, by rw [hU], ⟨by rw [hU]; exact hPc, va_K.moved hW.alike hK, kw_warm hW hN⟩, hDc.weaken (fun _ _ _ _ => trivial)⟩⟩
  have hr := W.runV (g := F0 m pc ls st0) (rest := rest) (e := e) (below := below) (meth := meth) (locs := locs) (cells := cells) (slots := slots) S (hM H.size) (cw_of S hw hrm hR) hp rfl hk hsz hst0 (lv_room hst) hdg hf
  intro T0 hT X
  obtain ⟨v', st₀, t, T', L, h0, X', hL, e1, ⟨⟨hv, hP1⟩, hz, hk1⟩, st⟩ := hr T0 hT X
  cases hv
  rw [h0] at hz hk1
  obtain ⟨hP2, hD2⟩ := mg_in (H1 := t.heap) hP hD is js hs ha hm hj hk1 hP1
  obtain ⟨t2, a1, b1⟩ := kk t.heap (locs ++ L) hP2 hD2 ⟨Nat.le_trans hS.1 hz, fun q h1 h2 => by rw [hk1 q (Nat.lt_of_lt_of_le h1 hS.1) (fun z => h2 (hF q z))]; exact hS.2.1 q h1 h2, fun q hq => by
      rcases List.mem_append.mp hq with h | h
      · exact hS.2.2 q h
      · exact hF _ (hL q h)⟩ T' e1 X'
  exact ⟨t2, st t2 a1, b1⟩
/-- the ends of a method that only reads -/
theorem pu_i {v w : Int32} (S : CallFix p m c cc nL s args bw own) (hr : meth.sig.returnType = some .int) (hlocks : meth.locks = false) (hdg : decode cc pc = .ok (.ireturn, 1)) (hv : v = w) : W p l e R s m args below meth c s.heap [] 0 0 (MQ below (fun _ st oc t => oc = .returned (some (.int w)) ∧ t.heap = st.heap) args s 0 0 (fun _ => False)) (F0 m pc ls [.int v]) := by
  subst hv
  exact W.iret S.1 S.2.1 hr (fun t ht _ => ⟨rfl, ht⟩) (fun _ h => by cases h) hdg hlocks
theorem pu_z {v : Int32} {b : Bool} (S : CallFix p m c cc nL s args bw own) (hr : meth.sig.returnType = some .boolean) (hlocks : meth.locks = false) (hdg : decode cc pc = .ok (.ireturn, 1)) (hv : v = bI b) : W p l e R s m args below meth c s.heap [] 0 0 (MQ below (fun _ st oc t => oc = .returned (some (.int (bI b))) ∧ t.heap = st.heap) args s 0 0 (fun _ => False)) (F0 m pc ls [.int v]) := by
  subst hv
  exact W.zret S.1 S.2.1 hr (bI_nar b) (fun t ht _ => ⟨rfl, ht⟩) (fun _ h => by cases h) hdg hlocks
theorem pu_l {v w : Int64} (S : CallFix p m c cc nL s args bw own) (hr : meth.sig.returnType = some .long) (hlocks : meth.locks = false) (hdg : decode cc pc = .ok (.lreturn, 1)) (hv : v = w) : W p l e R s m args below meth c s.heap [] 0 0 (MQ below (fun _ st oc t => oc = .returned (some (.long w)) ∧ t.heap = st.heap) args s 0 0 (fun _ => False)) (F0 m pc ls [.long v]) := by
  subst hv
  exact W.lret S.1 S.2.1 hr (fun t ht _ => ⟨rfl, ht⟩) (fun _ h => by cases h) hdg hlocks
/-- the ends of a method that writes -/
theorem mu_i {v w : Int32} {wE w1 : va_W} (S : CallFix p m c cc nL s args bw own) (hr : meth.sig.returnType = some .int) (hlocks : meth.locks = false) (hP : va_P D cs wE H) (hS : va_S A s.heap H locs) (hdg : decode cc pc = .ok (.ireturn, 1)) (hv : v = w) (hw : wE = w1) : W p l e R s m args below meth c H locs 0 0 (MQ below (fun _ st oc t => (oc = .returned (some (.int w)) ∧ va_P D cs w1 t.heap) ∧ va_F A st t) args s 0 0 A) (F0 m pc ls [.int v]) := by
  subst hv; subst hw
  exact W.iret S.1 S.2.1 hr (fun t ht _ => ⟨⟨rfl, by rw [ht]; exact hP⟩, hS.F ht⟩) hS.2.2 hdg hlocks
theorem mu_z {v : Int32} {b : Bool} {wE w1 : va_W} (S : CallFix p m c cc nL s args bw own) (hr : meth.sig.returnType = some .boolean) (hlocks : meth.locks = false) (hP : va_P D cs wE H) (hS : va_S A s.heap H locs) (hdg : decode cc pc = .ok (.ireturn, 1)) (hv : v = bI b) (hw : wE = w1) : W p l e R s m args below meth c H locs 0 0 (MQ below (fun _ st oc t => (oc = .returned (some (.int (bI b))) ∧ va_P D cs w1 t.heap) ∧ va_F A st t) args s 0 0 A) (F0 m pc ls [.int v]) := by
  subst hv; subst hw
  exact W.zret S.1 S.2.1 hr (bI_nar b) (fun t ht _ => ⟨⟨rfl, by rw [ht]; exact hP⟩, hS.F ht⟩) hS.2.2 hdg hlocks
theorem mu_n {wE w1 : va_W} (S : CallFix p m c cc nL s args bw own) (hr : meth.sig.returnType = none) (hlocks : meth.locks = false) (hP : va_P D cs wE H) (hS : va_S A s.heap H locs) (hdg : decode cc pc = .ok (.return_, 1)) (hw : wE = w1) : W p l e R s m args below meth c H locs 0 0 (MQ below (fun _ st oc t => (oc = .returned none ∧ va_P D cs w1 t.heap) ∧ va_F A st t) args s 0 0 A) (F0 m pc ls []) := by
  subst hw
  exact W.vret S.1 S.2.1 hr (fun t ht _ => ⟨⟨rfl, by rw [ht]; exact hP⟩, hS.F ht⟩) hS.2.2 hdg hlocks
end BASE
/-- a contract of a method that only reads, out of its walk -/
theorem pu_of {l : Launch} {y : MethodName} {cy : ByteArray} {n k : Nat} {ret : Option FieldType} {av : List Value} {D : va_G} {cI cJ : ClassId} {ws : va_W} {v : Value} (hy : plainName y.cls = true) (hn : (lg_sl av).length ≤ n)
    (body : ∀ (p : Program) (e : Env) (s : State) (m : MethodId) (below : List Frame) (meth : Method) (c : Code) (ls : Array Slot), CallFix p m c cy n s av.toArray bw y.cls → meth.sig.returnType = ret → meth.locks = false → kw s → va_K D cs (tys cI cJ) s → va_P D cs ws s.heap → lv_has ls n (lv_args 0 av) →
      W p l e (rL k) s m av.toArray below meth c s.heap [] 0 0 (MQ below (fun _ st oc t => oc = .returned (some v) ∧ t.heap = st.heap) av.toArray s 0 0 (fun _ => False)) (F0 m 0 ls [])) : Pu l y cy n ret (rL k) av D cI cJ ws v := by
  refine Met.ofW (cc := cy) (maxL := n) (ret := ret) hy rfl ?_
  intro p e s m args below meth c s₁ B hml hv
  obtain ⟨rfl, hP, hK, hN⟩ := hv
  have hts := atoms_spec (ws := Cond.code y cy n ret :: bw) B.pre
  have hown : s.vm.findClass y.cls = some m.cls := findClass_of_methodNamed B.named
  have hl := lv_entry av (n := n) hn
  rw [lg_entry_eq]
  exact body p e s m below meth c _ ⟨B.exec, B.bytes, hml, hown, fun w h => hts w (List.mem_cons_of_mem _ h)⟩ B.returns B.notSynchronized hN hK hP hl
/-- a contract of a method that writes, out of its walk -/
theorem mu_of {l : Launch} {y : MethodName} {cy : ByteArray} {n k : Nat} {ret : Option FieldType} {av : List Value} {D : va_G} {cI cJ : ClassId} {ws w1 : va_W} {v : Option Value} (hy : plainName y.cls = true) (hn : (lg_sl av).length ≤ n)
    (body : ∀ (p : Program) (e : Env) (s : State) (m : MethodId) (below : List Frame) (meth : Method) (c : Code) (ls : Array Slot) (A : Nat → Prop), CallFix p m c cy n s av.toArray bw y.cls → meth.sig.returnType = ret → meth.locks = false → kw s → va_K D cs (tys cI cJ) s → va_P D cs ws s.heap → va_D A ws → (∀ q, s.heap.size ≤ q → A q) → lv_has ls n (lv_args 0 av) →
      W p l e (rL k) s m av.toArray below meth c s.heap [] 0 0 (MQ below (fun _ st oc t => (oc = .returned v ∧ va_P D cs w1 t.heap) ∧ va_F A st t) av.toArray s 0 0 A) (F0 m 0 ls [])) : Mu l y cy n ret (rL k) av D cI cJ ws v w1 := by
  intro sz
  refine Met.ofW (cc := cy) (maxL := n) (ret := ret) hy rfl ?_
  intro p e s m args below meth c s₁ B hml hv
  obtain ⟨rfl, rfl, ⟨hP, hK, hN⟩, hD⟩ := hv
  have hts := atoms_spec (ws := Cond.code y cy n ret :: bw) B.pre
  have hown : s.vm.findClass y.cls = some m.cls := findClass_of_methodNamed B.named
  have hl := lv_entry av (n := n) hn
  rw [lg_entry_eq]
  exact body p e s m below meth c _ (va_A ws s.heap.size) ⟨B.exec, B.bytes, hml, hown, fun w h => hts w (List.mem_cons_of_mem _ h)⟩ B.returns B.notSynchronized hN hK hP hD.self (fun q h => Or.inr h) hl
