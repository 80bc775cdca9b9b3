/-! contracts, laid by wip/gen/parts.py -/
def fB_add (v1 : Int32) (b_count : Int32) (b_row : (Nat → Int32)) : Option (Bool × Int32 × (Nat → Int32)) :=
  if b_count < (120 : Int32) then (if ok b_count 120 = true then (some (true, b_count + (1 : Int32), upd b_row b_count.toNatClampNeg v1)) else none) else (some (false, b_count, b_row))
set_option maxHeartbeats 4000000 in
set_option maxRecDepth 100000 in
theorem cB_add (l : Launch) (D : va_G) (cI cJ : ClassId) (bA bA0 : Nat) (v1 : Int32) (b_count : Int32) (b_row : (Nat → Int32)) (r : Bool × Int32 × (Nat → Int32)) (h : fB_add v1 b_count b_row = some r) : Mu l yB_add bB_add 2 (some .boolean) (rL 0) [.ref bA, .int v1] D cI cJ [(bA, .inr (0, [.ref bA0, .int b_count])), (bA0, .inl (cI, 120, .inl b_row))] (some (.int (bI r.1))) [(bA, .inr (0, [.ref bA0, .int r.2.1])), (bA0, .inl (cI, 120, .inl r.2.2))] := by
  refine mu_of (by decide) (Nat.le_of_ble_eq_true rfl) ?_
  intro p e s m below meth c ls A S hr hlocks hN hK hP hD hA hl
  have hS : va_S A s.heap s.heap [] := va_S.rf
  have hx := S.1
  have hb := S.2.1
  have hl : lv_has ls 2 [(0, .ref bA), (1, .int v1)] := hl
  unfold fB_add at h
  refine lv_aload_n hx hb dB_add_0 rfl (lv_at hl 0 rfl) ?_
  refine gf S hK hP 0 0 1 u_zB w_128 rfl rfl (by decide) rfl dB_add_1 ?_
  refine lv_bipush (v := (120 : Int32)) hx hb dB_add_4 (by decide) ?_
  refine lv_icmp_lt (tgt := 11) hx hb dB_add_6 (by decide) (fun h6 => ?_) (fun h6 => ?_)
  · have h := g_t h h6
    refine lv_aload_n hx hb dB_add_11 rfl (lv_at hl 0 rfl) ?_
    refine gf S hK hP 0 0 0 u_zB w_127 rfl rfl (by decide) rfl dB_add_12 ?_
    refine lv_aload_n hx hb dB_add_15 rfl (lv_at hl 0 rfl) ?_
    refine gf S hK hP 0 0 1 u_zB w_128 rfl rfl (by decide) rfl dB_add_16 ?_
    refine lv_iload_n hx hb dB_add_19 rfl (lv_at hl 1 rfl) ?_
    obtain ⟨b20, h⟩ := g_ok h
    refine va_iast hx hb hK hP hD hS 1 0 rfl rfl b20 dB_add_20 (fun H locs hP hD hS => ?_)
    have hP : va_P D cs [(bA, .inr (0, [.ref bA0, .int b_count])), (bA0, .inl (cI, 120, .inl (upd b_row b_count.toNatClampNeg v1)))] H := hP
    have hD : va_D A [(bA, .inr (0, [.ref bA0, .int b_count])), (bA0, .inl (cI, 120, .inl (upd b_row b_count.toNatClampNeg v1)))] := hD
    refine lv_aload_n hx hb dB_add_21 rfl (lv_at hl 0 rfl) ?_
    refine lv_dup hx hb dB_add_22 rfl ?_
    refine gf S hK hP 0 0 1 u_zB w_128 rfl rfl (by decide) rfl dB_add_23 ?_
    refine lv_iconst (v := (1 : Int32)) hx hb dB_add_26 (by decide) ?_
    refine lv_iadd hx hb dB_add_27 ?_
    refine pf S hK hP hD hS 0 0 1 (v := .int (b_count + (1 : Int32))) zB_t u_zB zB_k zB_n w_128 rfl rfl (by decide) rfl rfl rfl rfl (Nat.le_of_ble_eq_true rfl) dB_add_28 (fun H locs hP hD hS => ?_)
    have hP : va_P D cs [(bA, .inr (0, [.ref bA0, .int (b_count + (1 : Int32))])), (bA0, .inl (cI, 120, .inl (upd b_row b_count.toNatClampNeg v1)))] H := hP
    have hD : va_D A [(bA, .inr (0, [.ref bA0, .int (b_count + (1 : Int32))])), (bA0, .inl (cI, 120, .inl (upd b_row b_count.toNatClampNeg v1)))] := hD
    refine lv_iconst (v := (1 : Int32)) hx hb dB_add_31 (by decide) ?_
    cases h
    exact mu_z S hr hlocks hP hS dB_add_32 rfl rfl
  · have h := g_f h h6
    refine lv_iconst (v := (0 : Int32)) hx hb dB_add_9 (by decide) ?_
    cases h
    exact mu_z S hr hlocks hP hS dB_add_10 rfl rfl
def fB_lowByte (v1 : Int64) (v3 : Int32) : Option (Int32) :=
  some (((v1 >>> (((8 : Int32) * v3).toInt64 &&& 63)).toInt32) &&& (255 : Int32))
set_option maxHeartbeats 4000000 in
set_option maxRecDepth 100000 in
theorem cB_lowByte (l : Launch) (D : va_G) (cI cJ : ClassId) (bA bA0 : Nat) (v1 : Int64) (v3 : Int32) (b_count : Int32) (b_row : (Nat → Int32)) (r : Int32) (h : fB_lowByte v1 v3 = some r) : Pu l yB_lowByte bB_lowByte 4 (some .int) (rL 0) [.ref bA, .long v1, .int v3] D cI cJ [(bA, .inr (0, [.ref bA0, .int b_count])), (bA0, .inl (cI, 120, .inl b_row))] (.int r) := by
  refine pu_of (by decide) (Nat.le_of_ble_eq_true rfl) ?_
  intro p e s m below meth c ls S hr hlocks hN hK hP hl
  have hx := S.1
  have hb := S.2.1
  have hl : lv_has ls 4 [(0, .ref bA), (1, .long v1), (3, .int v3)] := hl
  unfold fB_lowByte at h
  refine lv_lload_n hx hb dB_lowByte_0 rfl (lv_at hl 1 rfl) ?_
  refine lv_bipush (v := (8 : Int32)) hx hb dB_lowByte_1 (by decide) ?_
  refine lv_iload_n hx hb dB_lowByte_3 rfl (lv_at hl 2 rfl) ?_
  refine lv_imul hx hb dB_lowByte_4 ?_
  refine lv_lshr hx hb dB_lowByte_5 rfl ?_
  refine lv_l2i hx hb dB_lowByte_6 rfl ?_
  refine lv_sipush (v := (255 : Int32)) hx hb dB_lowByte_7 (by decide) ?_
  refine lv_iand hx hb dB_lowByte_10 ?_
  cases h
  exact pu_i S hr hlocks dB_lowByte_11 rfl
def fB_addNumber_6 (N : Nat) (v1 : Int64) (v3 : Int32) (rc6 : Bool × Int32 × Int32 × (Nat → Int32) → Option (Bool × Int32 × (Nat → Int32))) (v4 : Bool) (v5 : Int32) (b_count : Int32) (b_row : (Nat → Int32)) : Option (Bool × Int32 × (Nat → Int32)) :=
  if v3 ≤ v5 then (some (v4, b_count, b_row)) else (if v4 = true then ((fB_lowByte v1 v5).bind fun u22 => ((fB_add u22 b_count b_row).bind fun u25 => (rc6 (u25.1, v5 + (1 : Int32), u25.2.1, u25.2.2)))) else (some (v4, b_count, b_row)))
def fB_addNumber_6l (N : Nat) (v1 : Int64) (v3 : Int32) : Nat → Bool × Int32 × Int32 × (Nat → Int32) → Option (Bool × Int32 × (Nat → Int32)) := lp (fun rc a => fB_addNumber_6 N v1 v3 rc a.1 a.2.1 a.2.2.1 a.2.2.2)
def fB_addNumber (N : Nat) (v1 : Int64) (v3 : Int32) (b_count : Int32) (b_row : (Nat → Int32)) : Option (Bool × Int32 × (Nat → Int32)) :=
  fB_addNumber_6l N v1 v3 N (true, (0 : Int32), b_count, b_row)
set_option maxHeartbeats 4000000 in
set_option maxRecDepth 100000 in
theorem cB_addNumber (l : Launch) (D : va_G) (cI cJ : ClassId) (bA bA0 : Nat) (N : Nat) (v1 : Int64) (v3 : Int32) (b_count : Int32) (b_row : (Nat → Int32)) (r : Bool × Int32 × (Nat → Int32)) (h : fB_addNumber N v1 v3 b_count b_row = some r) : Mu l yB_addNumber bB_addNumber 6 (some .boolean) (rL 1) [.ref bA, .long v1, .int v3] D cI cJ [(bA, .inr (0, [.ref bA0, .int b_count])), (bA0, .inl (cI, 120, .inl b_row))] (some (.int (bI r.1))) [(bA, .inr (0, [.ref bA0, .int r.2.1])), (bA0, .inl (cI, 120, .inl r.2.2))] := by
  refine mu_of (by decide) (Nat.le_of_ble_eq_true rfl) ?_
  intro p e s m below meth c ls A S hr hlocks hN hK hP hD hA hl
  have hS : va_S A s.heap s.heap [] := va_S.rf
  have hx := S.1
  have hb := S.2.1
  have hl : lv_has ls 6 [(0, .ref bA), (1, .long v1), (3, .int v3)] := hl
  unfold fB_addNumber at h
  have t6 : ∀ (k : Nat) (a : Bool × Int32 × Int32 × (Nat → Int32)), fB_addNumber_6l N v1 v3 k a = some r → ∀ (ls : Array Slot) (H : Heap) (locs : List Loc), lv_has ls 6 [(0, .ref bA), (1, .long v1), (3, .int v3), (4, .int (bI a.1)), (5, .int a.2.1)] → va_P D cs [(bA, .inr (0, [.ref bA0, .int a.2.2.1])), (bA0, .inl (cI, 120, .inl a.2.2.2))] H → va_D A [(bA, .inr (0, [.ref bA0, .int a.2.2.1])), (bA0, .inl (cI, 120, .inl a.2.2.2))] → va_S A s.heap H locs → W p l e (rL 1) s m ([.ref bA, .long v1, .int v3] : List Value).toArray below meth c H locs 0 0 (MQ below (fun _ st oc t => (oc = .returned (some (.int (bI r.1))) ∧ va_P D cs [(bA, .inr (0, [.ref bA0, .int r.2.1])), (bA0, .inl (cI, 120, .inl r.2.2))] t.heap) ∧ va_F A st t) ([.ref bA, .long v1, .int v3] : List Value).toArray s 0 0 A) (F0 m 6 ls []) := by
    unfold fB_addNumber_6l
    refine lp_some ?_
    intro rc6 hrc6 a h
    obtain ⟨v4, v5, b_count, b_row⟩ := a
    intro ls H locs hl hP hD hS
    have h : fB_addNumber_6 N v1 v3 rc6 v4 v5 b_count b_row = some r := h
    have hl : lv_has ls 6 [(0, .ref bA), (1, .long v1), (3, .int v3), (4, .int (bI v4)), (5, .int v5)] := hl
    have hP : va_P D cs [(bA, .inr (0, [.ref bA0, .int b_count])), (bA0, .inl (cI, 120, .inl b_row))] H := hP
    have hD : va_D A [(bA, .inr (0, [.ref bA0, .int b_count])), (bA0, .inl (cI, 120, .inl b_row))] := hD
    unfold fB_addNumber_6 at h
    refine lv_iload hx hb dB_addNumber_6 (lv_at hl 4 rfl) ?_
    refine lv_iload_n hx hb dB_addNumber_8 rfl (lv_at hl 2 rfl) ?_
    refine lv_icmp_ge (tgt := 36) hx hb dB_addNumber_9 (by decide) (fun h9 => ?_) (fun h9 => ?_)
    · have h := g_t h h9
      refine lv_iload hx hb dB_addNumber_36 (lv_at hl 3 rfl) ?_
      cases h
      exact mu_z S hr hlocks hP hS dB_addNumber_38 rfl rfl
    · have h := g_f h h9
      refine lv_iload hx hb dB_addNumber_12 (lv_at hl 3 rfl) ?_
      refine b_ifeq (tgt := 36) hx hb dB_addNumber_14 (by decide) (fun h14 => ?_) (fun h14 => ?_)
      · have h := g_f h h14
        refine lv_iload hx hb dB_addNumber_36 (lv_at hl 3 rfl) ?_
        cases h
        exact mu_z S hr hlocks hP hS dB_addNumber_38 rfl rfl
      · have h := g_t h h14
        refine lv_aload_n hx hb dB_addNumber_17 rfl (lv_at hl 0 rfl) ?_
        refine lv_aload_n hx hb dB_addNumber_18 rfl (lv_at hl 0 rfl) ?_
        refine lv_lload_n hx hb dB_addNumber_19 rfl (lv_at hl 1 rfl) ?_
        refine lv_iload hx hb dB_addNumber_20 (lv_at hl 4 rfl) ?_
        obtain ⟨u22, e22, h⟩ := g_bind h
        refine pu_v S hN hK hP (rest := [.ref bA]) (cB_lowByte l D cI cJ bA bA0 v1 v5 b_count b_row u22 e22) k_B_19 [0, 1] rfl 0 rfl rfl ⟨rfl, rfl⟩ ⟨Nat.le_of_ble_eq_true rfl, Nat.le_of_ble_eq_true rfl⟩ rfl hl.1 (Nat.le_of_ble_eq_true rfl) ⟨Nat.le_refl _, Nat.le_refl _⟩ dB_addNumber_22 rfl ?_
        obtain ⟨u25, e25, h⟩ := g_bind h
        refine mu_v S hN hK hP hD hS hA (rest := []) (cB_add l D cI cJ bA bA0 u22 b_count b_row u25 e25) k_B_23 [0, 1] [(some 0), (some 1)] [(bA, .inr (0, [.ref bA0, .int u25.2.1])), (bA0, .inl (cI, 120, .inl u25.2.2))] rfl rfl rfl ⟨rfl, rfl, trivial⟩ (by decide +kernel) 0 rfl rfl ⟨rfl, rfl⟩ ⟨Nat.le_of_ble_eq_true rfl, Nat.le_of_ble_eq_true rfl⟩ rfl hl.1 (Nat.le_of_ble_eq_true rfl) ⟨Nat.le_refl _, Nat.le_refl _⟩ dB_addNumber_25 rfl (fun H locs hP hD hS => ?_)
        refine lv_istore (lv' := [(4, .int (bI u25.1)), (0, .ref bA), (1, .long v1), (3, .int v3), (5, .int v5)]) hx hb dB_addNumber_28 hl (Nat.le_of_ble_eq_true rfl) rfl (fun ls hl => ?_)
        refine lv_iinc (k := 4) (v := v5 + (1 : Int32)) (lv' := [(5, .int (v5 + (1 : Int32))), (4, .int (bI u25.1)), (0, .ref bA), (1, .long v1), (3, .int v3)]) hx hb dB_addNumber_30 hl rfl (congrArg (v5 + ·) (by decide : Int32.ofInt (1) = (1 : Int32))) (Nat.le_of_ble_eq_true rfl) rfl (fun ls hl => ?_)
        refine lv_goto (tgt := 6) hx hb dB_addNumber_33 (by decide) ?_
        exact hrc6 (u25.1, v5 + (1 : Int32), u25.2.1, u25.2.2) h _ _ _ (lv_sub hl [2, 3, 4, 1, 0] rfl) hP hD hS
  refine lv_iconst (v := (1 : Int32)) hx hb dB_addNumber_0 (by decide) ?_
  refine lv_istore (lv' := [(4, .int (bI true)), (0, .ref bA), (1, .long v1), (3, .int v3)]) hx hb dB_addNumber_1 hl (Nat.le_of_ble_eq_true rfl) rfl (fun ls hl => ?_)
  refine lv_iconst (v := (0 : Int32)) hx hb dB_addNumber_3 (by decide) ?_
  refine lv_istore (lv' := [(5, .int (0 : Int32)), (4, .int (bI true)), (0, .ref bA), (1, .long v1), (3, .int v3)]) hx hb dB_addNumber_4 hl (Nat.le_of_ble_eq_true rfl) rfl (fun ls hl => ?_)
  exact t6 N (true, (0 : Int32), b_count, b_row) h _ _ _ (lv_sub hl [2, 3, 4, 1, 0] rfl) hP hD hS
def fB_at (v1 : Int32) (b_count : Int32) (b_row : (Nat → Int32)) : Option (Int32) :=
  if v1 < 0 then (some ((-1 : Int32))) else (if b_count ≤ v1 then (some ((-1 : Int32))) else (if ok v1 120 = true then (some (b_row v1.toNatClampNeg)) else none))
set_option maxHeartbeats 4000000 in
set_option maxRecDepth 100000 in
theorem cB_at (l : Launch) (D : va_G) (cI cJ : ClassId) (bA bA0 : Nat) (v1 : Int32) (b_count : Int32) (b_row : (Nat → Int32)) (r : Int32) (h : fB_at v1 b_count b_row = some r) : Pu l yB_at bB_at 2 (some .int) (rL 0) [.ref bA, .int v1] D cI cJ [(bA, .inr (0, [.ref bA0, .int b_count])), (bA0, .inl (cI, 120, .inl b_row))] (.int r) := by
  refine pu_of (by decide) (Nat.le_of_ble_eq_true rfl) ?_
  intro p e s m below meth c ls S hr hlocks hN hK hP hl
  have hx := S.1
  have hb := S.2.1
  have hl : lv_has ls 2 [(0, .ref bA), (1, .int v1)] := hl
  unfold fB_at at h
  refine lv_iload_n hx hb dB_at_0 rfl (lv_at hl 1 rfl) ?_
  refine lv_if_lt (tgt := 21) hx hb dB_at_1 (by decide) (fun h1 => ?_) (fun h1 => ?_)
  · have h := g_t h h1
    refine lv_iconst (v := (-1 : Int32)) hx hb dB_at_21 (by decide) ?_
    cases h
    exact pu_i S hr hlocks dB_at_22 rfl
  · have h := g_f h h1
    refine lv_iload_n hx hb dB_at_4 rfl (lv_at hl 1 rfl) ?_
    refine lv_aload_n hx hb dB_at_5 rfl (lv_at hl 0 rfl) ?_
    refine gf S hK hP 0 0 1 u_zB w_128 rfl rfl (by decide) rfl dB_at_6 ?_
    refine lv_icmp_ge (tgt := 21) hx hb dB_at_9 (by decide) (fun h9 => ?_) (fun h9 => ?_)
    · have h := g_t h h9
      refine lv_iconst (v := (-1 : Int32)) hx hb dB_at_21 (by decide) ?_
      cases h
      exact pu_i S hr hlocks dB_at_22 rfl
    · have h := g_f h h9
      refine lv_aload_n hx hb dB_at_12 rfl (lv_at hl 0 rfl) ?_
      refine gf S hK hP 0 0 0 u_zB w_127 rfl rfl (by decide) rfl dB_at_13 ?_
      refine lv_iload_n hx hb dB_at_16 rfl (lv_at hl 1 rfl) ?_
      obtain ⟨b17, h⟩ := g_ok h
      refine va_iald hx hb hK hP 1 0 rfl rfl b17 dB_at_17 ?_
      refine lv_goto (tgt := 22) hx hb dB_at_18 (by decide) ?_
      cases h
      exact pu_i S hr hlocks dB_at_22 rfl
def fB_copyFrom (b_count : Int32) (b_row : (Nat → Int32)) (w_count : Int32) (w_row : (Nat → Int32)) : Option (Int32 × (Nat → Int32)) :=
  if ln w_count 120 = true then (some (w_count, va_cpy w_row b_row 0 0 w_count.toNatClampNeg)) else none
set_option maxHeartbeats 4000000 in
set_option maxRecDepth 100000 in
theorem cB_copyFrom (l : Launch) (D : va_G) (cI cJ : ClassId) (bA bA0 wA wA0 : Nat) (b_count : Int32) (b_row : (Nat → Int32)) (w_count : Int32) (w_row : (Nat → Int32)) (r : Int32 × (Nat → Int32)) (h : fB_copyFrom b_count b_row w_count w_row = some r) : Mu l yB_copyFrom bB_copyFrom 2 none (rL 1) [.ref bA, .ref wA] D cI cJ [(bA, .inr (0, [.ref bA0, .int b_count])), (bA0, .inl (cI, 120, .inl b_row)), (wA, .inr (0, [.ref wA0, .int w_count])), (wA0, .inl (cI, 120, .inl w_row))] none [(bA, .inr (0, [.ref bA0, .int r.1])), (bA0, .inl (cI, 120, .inl r.2)), (wA, .inr (0, [.ref wA0, .int w_count])), (wA0, .inl (cI, 120, .inl w_row))] := by
  refine mu_of (by decide) (Nat.le_of_ble_eq_true rfl) ?_
  intro p e s m below meth c ls A S hr hlocks hN hK hP hD hA hl
  have hS : va_S A s.heap s.heap [] := va_S.rf
  have hx := S.1
  have hb := S.2.1
  have hl : lv_has ls 2 [(0, .ref bA), (1, .ref wA)] := hl
  unfold fB_copyFrom at h
  refine lv_aload_n hx hb dB_copyFrom_0 rfl (lv_at hl 1 rfl) ?_
  refine gf S hK hP 2 0 0 u_zB w_127 rfl rfl (by decide) rfl dB_copyFrom_1 ?_
  refine lv_iconst (v := (0 : Int32)) hx hb dB_copyFrom_4 (by decide) ?_
  refine lv_aload_n hx hb dB_copyFrom_5 rfl (lv_at hl 0 rfl) ?_
  refine gf S hK hP 0 0 0 u_zB w_127 rfl rfl (by decide) rfl dB_copyFrom_6 ?_
  refine lv_iconst (v := (0 : Int32)) hx hb dB_copyFrom_9 (by decide) ?_
  refine lv_aload_n hx hb dB_copyFrom_10 rfl (lv_at hl 1 rfl) ?_
  refine gf S hK hP 2 0 1 u_zB w_128 rfl rfl (by decide) rfl dB_copyFrom_11 ?_
  obtain ⟨b14, h⟩ := g_len h
  refine cpi S w_cp1 w_cp2 w_cp3 w_cp4 hl.1 hK hP hD hS 3 1 rfl rfl b14 (Nat.le_of_ble_eq_true rfl) (by decide +kernel) dB_copyFrom_14 (fun H locs hP hD hS => ?_)
  have hP : va_P D cs [(bA, .inr (0, [.ref bA0, .int b_count])), (bA0, .inl (cI, 120, .inl (va_cpy w_row b_row 0 0 w_count.toNatClampNeg))), (wA, .inr (0, [.ref wA0, .int w_count])), (wA0, .inl (cI, 120, .inl w_row))] H := hP
  have hD : va_D A [(bA, .inr (0, [.ref bA0, .int b_count])), (bA0, .inl (cI, 120, .inl (va_cpy w_row b_row 0 0 w_count.toNatClampNeg))), (wA, .inr (0, [.ref wA0, .int w_count])), (wA0, .inl (cI, 120, .inl w_row))] := hD
  refine lv_aload_n hx hb dB_copyFrom_17 rfl (lv_at hl 0 rfl) ?_
  refine lv_aload_n hx hb dB_copyFrom_18 rfl (lv_at hl 1 rfl) ?_
  refine gf S hK hP 2 0 1 u_zB w_128 rfl rfl (by decide) rfl dB_copyFrom_19 ?_
  refine pf S hK hP hD hS 0 0 1 (v := .int w_count) zB_t u_zB zB_k zB_n w_128 rfl rfl (by decide) rfl rfl rfl rfl (Nat.le_of_ble_eq_true rfl) dB_copyFrom_22 (fun H locs hP hD hS => ?_)
  have hP : va_P D cs [(bA, .inr (0, [.ref bA0, .int w_count])), (bA0, .inl (cI, 120, .inl (va_cpy w_row b_row 0 0 w_count.toNatClampNeg))), (wA, .inr (0, [.ref wA0, .int w_count])), (wA0, .inl (cI, 120, .inl w_row))] H := hP
  have hD : va_D A [(bA, .inr (0, [.ref bA0, .int w_count])), (bA0, .inl (cI, 120, .inl (va_cpy w_row b_row 0 0 w_count.toNatClampNeg))), (wA, .inr (0, [.ref wA0, .int w_count])), (wA0, .inl (cI, 120, .inl w_row))] := hD
  cases h
  exact mu_n S hr hlocks hP hS dB_copyFrom_25 rfl
def fB_holds (v1 : Int32) (v2 : Int32) (b_count : Int32) : Option (Bool) :=
  if v1 < 0 then (some (false)) else (if (b_count - v2) < v1 then (some (false)) else (some (true)))
set_option maxHeartbeats 4000000 in
set_option maxRecDepth 100000 in
theorem cB_holds (l : Launch) (D : va_G) (cI cJ : ClassId) (bA bA0 : Nat) (v1 : Int32) (v2 : Int32) (b_count : Int32) (b_row : (Nat → Int32)) (r : Bool) (h : fB_holds v1 v2 b_count = some r) : Pu l yB_holds bB_holds 3 (some .boolean) (rL 0) [.ref bA, .int v1, .int v2] D cI cJ [(bA, .inr (0, [.ref bA0, .int b_count])), (bA0, .inl (cI, 120, .inl b_row))] (.int (bI r)) := by
  refine pu_of (by decide) (Nat.le_of_ble_eq_true rfl) ?_
  intro p e s m below meth c ls S hr hlocks hN hK hP hl
  have hx := S.1
  have hb := S.2.1
  have hl : lv_has ls 3 [(0, .ref bA), (1, .int v1), (2, .int v2)] := hl
  unfold fB_holds at h
  refine lv_iload_n hx hb dB_holds_0 rfl (lv_at hl 1 rfl) ?_
  refine lv_if_lt (tgt := 18) hx hb dB_holds_1 (by decide) (fun h1 => ?_) (fun h1 => ?_)
  · have h := g_t h h1
    refine lv_iconst (v := (0 : Int32)) hx hb dB_holds_18 (by decide) ?_
    cases h
    exact pu_z S hr hlocks dB_holds_19 rfl
  · have h := g_f h h1
    refine lv_iload_n hx hb dB_holds_4 rfl (lv_at hl 1 rfl) ?_
    refine lv_aload_n hx hb dB_holds_5 rfl (lv_at hl 0 rfl) ?_
    refine gf S hK hP 0 0 1 u_zB w_128 rfl rfl (by decide) rfl dB_holds_6 ?_
    refine lv_iload_n hx hb dB_holds_9 rfl (lv_at hl 2 rfl) ?_
    refine lv_isub hx hb dB_holds_10 ?_
    refine lv_icmp_gt (tgt := 18) hx hb dB_holds_11 (by decide) (fun h11 => ?_) (fun h11 => ?_)
    · have h := g_t h h11
      refine lv_iconst (v := (0 : Int32)) hx hb dB_holds_18 (by decide) ?_
      cases h
      exact pu_z S hr hlocks dB_holds_19 rfl
    · have h := g_f h h11
      refine lv_iconst (v := (1 : Int32)) hx hb dB_holds_14 (by decide) ?_
      refine lv_goto (tgt := 19) hx hb dB_holds_15 (by decide) ?_
      cases h
      exact pu_z S hr hlocks dB_holds_19 rfl
def fB_intAt_4 (N : Nat) (v1 : Int32) (b_count : Int32) (b_row : (Nat → Int32)) (rc4 : Int32 × Int32 → Option (Int32)) (v2 : Int32) (v3 : Int32) : Option (Int32) :=
  if v3 < 0 then (some (v2)) else ((fB_at (v1 + v3) b_count b_row).bind fun u16 => (rc4 ((v2 <<< ((8 : Int32) &&& 31)) ||| (u16 &&& (255 : Int32)), v3 + (-1 : Int32))))
def fB_intAt_4l (N : Nat) (v1 : Int32) (b_count : Int32) (b_row : (Nat → Int32)) : Nat → Int32 × Int32 → Option (Int32) := lp (fun rc a => fB_intAt_4 N v1 b_count b_row rc a.1 a.2)
def fB_intAt (N : Nat) (v1 : Int32) (b_count : Int32) (b_row : (Nat → Int32)) : Option (Int32) :=
  fB_intAt_4l N v1 b_count b_row N ((0 : Int32), (3 : Int32))
set_option maxHeartbeats 4000000 in
set_option maxRecDepth 100000 in
theorem cB_intAt (l : Launch) (D : va_G) (cI cJ : ClassId) (bA bA0 : Nat) (N : Nat) (v1 : Int32) (b_count : Int32) (b_row : (Nat → Int32)) (r : Int32) (h : fB_intAt N v1 b_count b_row = some r) : Pu l yB_intAt bB_intAt 4 (some .int) (rL 1) [.ref bA, .int v1] D cI cJ [(bA, .inr (0, [.ref bA0, .int b_count])), (bA0, .inl (cI, 120, .inl b_row))] (.int r) := by
  refine pu_of (by decide) (Nat.le_of_ble_eq_true rfl) ?_
  intro p e s m below meth c ls S hr hlocks hN hK hP hl
  have hx := S.1
  have hb := S.2.1
  have hl : lv_has ls 4 [(0, .ref bA), (1, .int v1)] := hl
  unfold fB_intAt at h
  have t4 : ∀ (k : Nat) (a : Int32 × Int32), fB_intAt_4l N v1 b_count b_row k a = some r → ∀ (ls : Array Slot), lv_has ls 4 [(0, .ref bA), (1, .int v1), (2, .int a.1), (3, .int a.2)] → W p l e (rL 1) s m ([.ref bA, .int v1] : List Value).toArray below meth c s.heap [] 0 0 (MQ below (fun _ st oc t => oc = .returned (some (.int r)) ∧ t.heap = st.heap) ([.ref bA, .int v1] : List Value).toArray s 0 0 (fun _ => False)) (F0 m 4 ls []) := by
    unfold fB_intAt_4l
    refine lp_some ?_
    intro rc4 hrc4 a h
    obtain ⟨v2, v3⟩ := a
    intro ls hl
    have h : fB_intAt_4 N v1 b_count b_row rc4 v2 v3 = some r := h
    have hl : lv_has ls 4 [(0, .ref bA), (1, .int v1), (2, .int v2), (3, .int v3)] := hl
    unfold fB_intAt_4 at h
    refine lv_iload_n hx hb dB_intAt_4 rfl (lv_at hl 3 rfl) ?_
    refine lv_if_lt (tgt := 31) hx hb dB_intAt_5 (by decide) (fun h5 => ?_) (fun h5 => ?_)
    · have h := g_t h h5
      refine lv_iload_n hx hb dB_intAt_31 rfl (lv_at hl 2 rfl) ?_
      cases h
      exact pu_i S hr hlocks dB_intAt_32 rfl
    · have h := g_f h h5
      refine lv_iload_n hx hb dB_intAt_8 rfl (lv_at hl 2 rfl) ?_
      refine lv_bipush (v := (8 : Int32)) hx hb dB_intAt_9 (by decide) ?_
      refine lv_ishl hx hb dB_intAt_11 ?_
      refine lv_aload_n hx hb dB_intAt_12 rfl (lv_at hl 0 rfl) ?_
      refine lv_iload_n hx hb dB_intAt_13 rfl (lv_at hl 1 rfl) ?_
      refine lv_iload_n hx hb dB_intAt_14 rfl (lv_at hl 3 rfl) ?_
      refine lv_iadd hx hb dB_intAt_15 ?_
      obtain ⟨u16, e16, h⟩ := g_bind h
      refine pu_v S hN hK hP (rest := [.int (v2 <<< ((8 : Int32) &&& 31))]) (cB_at l D cI cJ bA bA0 (v1 + v3) b_count b_row u16 e16) k_B_31 [0, 1] rfl 0 rfl rfl ⟨rfl, rfl⟩ ⟨Nat.le_of_ble_eq_true rfl, Nat.le_of_ble_eq_true rfl⟩ rfl hl.1 (Nat.le_of_ble_eq_true rfl) ⟨Nat.le_refl _, Nat.le_refl _⟩ dB_intAt_16 rfl ?_
      refine lv_sipush (v := (255 : Int32)) hx hb dB_intAt_19 (by decide) ?_
      refine lv_iand hx hb dB_intAt_22 ?_
      refine lv_ior hx hb dB_intAt_23 ?_
      refine lv_istore_n (lv' := [(2, .int ((v2 <<< ((8 : Int32) &&& 31)) ||| (u16 &&& (255 : Int32)))), (0, .ref bA), (1, .int v1), (3, .int v3)]) hx hb dB_intAt_24 rfl hl (Nat.le_of_ble_eq_true rfl) rfl (fun ls hl => ?_)
      refine lv_iinc (k := 3) (v := v3 + (-1 : Int32)) (lv' := [(3, .int (v3 + (-1 : Int32))), (2, .int ((v2 <<< ((8 : Int32) &&& 31)) ||| (u16 &&& (255 : Int32)))), (0, .ref bA), (1, .int v1)]) hx hb dB_intAt_25 hl rfl (congrArg (v3 + ·) (by decide : Int32.ofInt (-1) = (-1 : Int32))) (Nat.le_of_ble_eq_true rfl) rfl (fun ls hl => ?_)
      refine lv_goto (tgt := 4) hx hb dB_intAt_28 (by decide) ?_
      exact hrc4 ((v2 <<< ((8 : Int32) &&& 31)) ||| (u16 &&& (255 : Int32)), v3 + (-1 : Int32)) h _ (lv_sub hl [2, 3, 1, 0] rfl)
  refine lv_iconst (v := (0 : Int32)) hx hb dB_intAt_0 (by decide) ?_
  refine lv_istore_n (lv' := [(2, .int (0 : Int32)), (0, .ref bA), (1, .int v1)]) hx hb dB_intAt_1 rfl hl (Nat.le_of_ble_eq_true rfl) rfl (fun ls hl => ?_)
  refine lv_iconst (v := (3 : Int32)) hx hb dB_intAt_2 (by decide) ?_
  refine lv_istore_n (lv' := [(3, .int (3 : Int32)), (2, .int (0 : Int32)), (0, .ref bA), (1, .int v1)]) hx hb dB_intAt_3 rfl hl (Nat.le_of_ble_eq_true rfl) rfl (fun ls hl => ?_)
  exact t4 N ((0 : Int32), (3 : Int32)) h _ (lv_sub hl [2, 3, 1, 0] rfl)
def fB_longAt (N : Nat) (v1 : Int32) (b_count : Int32) (b_row : (Nat → Int32)) : Option (Int64) :=
  (fB_intAt N v1 b_count b_row).bind fun u2 => ((fB_intAt N (v1 + (4 : Int32)) b_count b_row).bind fun u15 => (some ((u15.toInt64 <<< ((32 : Int32).toInt64 &&& 63)) ||| (u2.toInt64 &&& (4294967295 : Int64)))))
set_option maxHeartbeats 4000000 in
set_option maxRecDepth 100000 in
theorem cB_longAt (l : Launch) (D : va_G) (cI cJ : ClassId) (bA bA0 : Nat) (N : Nat) (v1 : Int32) (b_count : Int32) (b_row : (Nat → Int32)) (r : Int64) (h : fB_longAt N v1 b_count b_row = some r) : Pu l yB_longAt bB_longAt 6 (some .long) (rL 2) [.ref bA, .int v1] D cI cJ [(bA, .inr (0, [.ref bA0, .int b_count])), (bA0, .inl (cI, 120, .inl b_row))] (.long r) := by
  refine pu_of (by decide) (Nat.le_of_ble_eq_true rfl) ?_
  intro p e s m below meth c ls S hr hlocks hN hK hP hl
  have hx := S.1
  have hb := S.2.1
  have hl : lv_has ls 6 [(0, .ref bA), (1, .int v1)] := hl
  unfold fB_longAt at h
  refine lv_aload_n hx hb dB_longAt_0 rfl (lv_at hl 0 rfl) ?_
  refine lv_iload_n hx hb dB_longAt_1 rfl (lv_at hl 1 rfl) ?_
  obtain ⟨u2, e2, h⟩ := g_bind h
  refine pu_v S hN hK hP (rest := []) (cB_intAt l D cI cJ bA bA0 N v1 b_count b_row u2 e2) k_B_35 [0, 1] rfl 0 rfl rfl ⟨rfl, rfl⟩ ⟨Nat.le_of_ble_eq_true rfl, Nat.le_of_ble_eq_true rfl⟩ rfl hl.1 (Nat.le_of_ble_eq_true rfl) ⟨Nat.le_refl _, Nat.le_refl _⟩ dB_longAt_2 rfl ?_
  refine lv_i2l hx hb dB_longAt_5 rfl ?_
  refine lv_ldc2 hx hb S.2.2.2.1 (S.2.2.2.2 _ w_567) dB_longAt_6 ?_
  refine lv_land hx hb dB_longAt_9 ?_
  refine lv_lstore_n (lv' := [(2, .long (u2.toInt64 &&& (4294967295 : Int64))), (0, .ref bA), (1, .int v1)]) hx hb dB_longAt_10 rfl hl (Nat.le_of_ble_eq_true rfl) rfl (fun ls hl => ?_)
  refine lv_aload_n hx hb dB_longAt_11 rfl (lv_at hl 1 rfl) ?_
  refine lv_iload_n hx hb dB_longAt_12 rfl (lv_at hl 2 rfl) ?_
  refine lv_iconst (v := (4 : Int32)) hx hb dB_longAt_13 (by decide) ?_
  refine lv_iadd hx hb dB_longAt_14 ?_
  obtain ⟨u15, e15, h⟩ := g_bind h
  refine pu_v S hN hK hP (rest := []) (cB_intAt l D cI cJ bA bA0 N (v1 + (4 : Int32)) b_count b_row u15 e15) k_B_35 [0, 1] rfl 0 rfl rfl ⟨rfl, rfl⟩ ⟨Nat.le_of_ble_eq_true rfl, Nat.le_of_ble_eq_true rfl⟩ rfl hl.1 (Nat.le_of_ble_eq_true rfl) ⟨Nat.le_refl _, Nat.le_refl _⟩ dB_longAt_15 rfl ?_
  refine lv_i2l hx hb dB_longAt_18 rfl ?_
  refine lv_lstore (lv' := [(4, .long u15.toInt64), (2, .long (u2.toInt64 &&& (4294967295 : Int64))), (0, .ref bA), (1, .int v1)]) hx hb dB_longAt_19 hl (Nat.le_of_ble_eq_true rfl) rfl (fun ls hl => ?_)
  refine lv_lload hx hb dB_longAt_21 (lv_at hl 0 rfl) ?_
  refine lv_bipush (v := (32 : Int32)) hx hb dB_longAt_23 (by decide) ?_
  refine lv_lshl hx hb dB_longAt_25 rfl ?_
  refine lv_lload_n hx hb dB_longAt_26 rfl (lv_at hl 1 rfl) ?_
  refine lv_lor hx hb dB_longAt_27 ?_
  cases h
  exact pu_l S hr hlocks dB_longAt_28 rfl
def fB_replace (v1 : Int32) (v2 : Int32) (b_count : Int32) (b_row : (Nat → Int32)) : Option (Bool × (Nat → Int32)) :=
  if v1 < 0 then (some (false, b_row)) else (if v1 < b_count then (if ok v1 120 = true then (some (true, upd b_row v1.toNatClampNeg v2)) else none) else (some (false, b_row)))
set_option maxHeartbeats 4000000 in
set_option maxRecDepth 100000 in
theorem cB_replace (l : Launch) (D : va_G) (cI cJ : ClassId) (bA bA0 : Nat) (v1 : Int32) (v2 : Int32) (b_count : Int32) (b_row : (Nat → Int32)) (r : Bool × (Nat → Int32)) (h : fB_replace v1 v2 b_count b_row = some r) : Mu l yB_replace bB_replace 3 (some .boolean) (rL 0) [.ref bA, .int v1, .int v2] D cI cJ [(bA, .inr (0, [.ref bA0, .int b_count])), (bA0, .inl (cI, 120, .inl b_row))] (some (.int (bI r.1))) [(bA, .inr (0, [.ref bA0, .int b_count])), (bA0, .inl (cI, 120, .inl r.2))] := by
  refine mu_of (by decide) (Nat.le_of_ble_eq_true rfl) ?_
  intro p e s m below meth c ls A S hr hlocks hN hK hP hD hA hl
  have hS : va_S A s.heap s.heap [] := va_S.rf
  have hx := S.1
  have hb := S.2.1
  have hl : lv_has ls 3 [(0, .ref bA), (1, .int v1), (2, .int v2)] := hl
  unfold fB_replace at h
  refine lv_iload_n hx hb dB_replace_0 rfl (lv_at hl 1 rfl) ?_
  refine lv_if_lt (tgt := 12) hx hb dB_replace_1 (by decide) (fun h1 => ?_) (fun h1 => ?_)
  · have h := g_t h h1
    refine lv_iconst (v := (0 : Int32)) hx hb dB_replace_12 (by decide) ?_
    cases h
    exact mu_z S hr hlocks hP hS dB_replace_13 rfl rfl
  · have h := g_f h h1
    refine lv_iload_n hx hb dB_replace_4 rfl (lv_at hl 1 rfl) ?_
    refine lv_aload_n hx hb dB_replace_5 rfl (lv_at hl 0 rfl) ?_
    refine gf S hK hP 0 0 1 u_zB w_128 rfl rfl (by decide) rfl dB_replace_6 ?_
    refine lv_icmp_lt (tgt := 14) hx hb dB_replace_9 (by decide) (fun h9 => ?_) (fun h9 => ?_)
    · have h := g_t h h9
      refine lv_aload_n hx hb dB_replace_14 rfl (lv_at hl 0 rfl) ?_
      refine gf S hK hP 0 0 0 u_zB w_127 rfl rfl (by decide) rfl dB_replace_15 ?_
      refine lv_iload_n hx hb dB_replace_18 rfl (lv_at hl 1 rfl) ?_
      refine lv_iload_n hx hb dB_replace_19 rfl (lv_at hl 2 rfl) ?_
      obtain ⟨b20, h⟩ := g_ok h
      refine va_iast hx hb hK hP hD hS 1 0 rfl rfl b20 dB_replace_20 (fun H locs hP hD hS => ?_)
      have hP : va_P D cs [(bA, .inr (0, [.ref bA0, .int b_count])), (bA0, .inl (cI, 120, .inl (upd b_row v1.toNatClampNeg v2)))] H := hP
      have hD : va_D A [(bA, .inr (0, [.ref bA0, .int b_count])), (bA0, .inl (cI, 120, .inl (upd b_row v1.toNatClampNeg v2)))] := hD
      refine lv_iconst (v := (1 : Int32)) hx hb dB_replace_21 (by decide) ?_
      cases h
      exact mu_z S hr hlocks hP hS dB_replace_22 rfl rfl
    · have h := g_f h h9
      refine lv_iconst (v := (0 : Int32)) hx hb dB_replace_12 (by decide) ?_
      cases h
      exact mu_z S hr hlocks hP hS dB_replace_13 rfl rfl
def fB_replaceNumber_3 (N : Nat) (v1 : Int32) (v2 : Int64) (v4 : Int32) (b_count : Int32) (rc3 : Int32 × (Nat → Int32) → Option ((Nat → Int32))) (v5 : Int32) (b_row : (Nat → Int32)) : Option ((Nat → Int32)) :=
  if v4 ≤ v5 then (some (b_row)) else ((fB_lowByte v2 v5).bind fun u19 => ((fB_replace (v1 + v5) u19 b_count b_row).bind fun u22 => (rc3 (v5 + (1 : Int32), u22.2))))
def fB_replaceNumber_3l (N : Nat) (v1 : Int32) (v2 : Int64) (v4 : Int32) (b_count : Int32) : Nat → Int32 × (Nat → Int32) → Option ((Nat → Int32)) := lp (fun rc a => fB_replaceNumber_3 N v1 v2 v4 b_count rc a.1 a.2)
def fB_replaceNumber (N : Nat) (v1 : Int32) (v2 : Int64) (v4 : Int32) (b_count : Int32) (b_row : (Nat → Int32)) : Option ((Nat → Int32)) :=
  fB_replaceNumber_3l N v1 v2 v4 b_count N ((0 : Int32), b_row)
set_option maxHeartbeats 4000000 in
set_option maxRecDepth 100000 in
theorem cB_replaceNumber (l : Launch) (D : va_G) (cI cJ : ClassId) (bA bA0 : Nat) (N : Nat) (v1 : Int32) (v2 : Int64) (v4 : Int32) (b_count : Int32) (b_row : (Nat → Int32)) (r : (Nat → Int32)) (h : fB_replaceNumber N v1 v2 v4 b_count b_row = some r) : Mu l yB_replaceNumber bB_replaceNumber 6 none (rL 1) [.ref bA, .int v1, .long v2, .int v4] D cI cJ [(bA, .inr (0, [.ref bA0, .int b_count])), (bA0, .inl (cI, 120, .inl b_row))] none [(bA, .inr (0, [.ref bA0, .int b_count])), (bA0, .inl (cI, 120, .inl r))] := by
  refine mu_of (by decide) (Nat.le_of_ble_eq_true rfl) ?_
  intro p e s m below meth c ls A S hr hlocks hN hK hP hD hA hl
  have hS : va_S A s.heap s.heap [] := va_S.rf
  have hx := S.1
  have hb := S.2.1
  have hl : lv_has ls 6 [(0, .ref bA), (1, .int v1), (2, .long v2), (4, .int v4)] := hl
  unfold fB_replaceNumber at h
  have t3 : ∀ (k : Nat) (a : Int32 × (Nat → Int32)), fB_replaceNumber_3l N v1 v2 v4 b_count k a = some r → ∀ (ls : Array Slot) (H : Heap) (locs : List Loc), lv_has ls 6 [(0, .ref bA), (1, .int v1), (2, .long v2), (4, .int v4), (5, .int a.1)] → va_P D cs [(bA, .inr (0, [.ref bA0, .int b_count])), (bA0, .inl (cI, 120, .inl a.2))] H → va_D A [(bA, .inr (0, [.ref bA0, .int b_count])), (bA0, .inl (cI, 120, .inl a.2))] → va_S A s.heap H locs → W p l e (rL 1) s m ([.ref bA, .int v1, .long v2, .int v4] : List Value).toArray below meth c H locs 0 0 (MQ below (fun _ st oc t => (oc = .returned none ∧ va_P D cs [(bA, .inr (0, [.ref bA0, .int b_count])), (bA0, .inl (cI, 120, .inl r))] t.heap) ∧ va_F A st t) ([.ref bA, .int v1, .long v2, .int v4] : List Value).toArray s 0 0 A) (F0 m 3 ls []) := by
    unfold fB_replaceNumber_3l
    refine lp_some ?_
    intro rc3 hrc3 a h
    obtain ⟨v5, b_row⟩ := a
    intro ls H locs hl hP hD hS
    have h : fB_replaceNumber_3 N v1 v2 v4 b_count rc3 v5 b_row = some r := h
    have hl : lv_has ls 6 [(0, .ref bA), (1, .int v1), (2, .long v2), (4, .int v4), (5, .int v5)] := hl
    have hP : va_P D cs [(bA, .inr (0, [.ref bA0, .int b_count])), (bA0, .inl (cI, 120, .inl b_row))] H := hP
    have hD : va_D A [(bA, .inr (0, [.ref bA0, .int b_count])), (bA0, .inl (cI, 120, .inl b_row))] := hD
    unfold fB_replaceNumber_3 at h
    refine lv_iload hx hb dB_replaceNumber_3 (lv_at hl 4 rfl) ?_
    refine lv_iload hx hb dB_replaceNumber_5 (lv_at hl 3 rfl) ?_
    refine lv_icmp_ge (tgt := 32) hx hb dB_replaceNumber_7 (by decide) (fun h7 => ?_) (fun h7 => ?_)
    · have h := g_t h h7
      cases h
      exact mu_n S hr hlocks hP hS dB_replaceNumber_32 rfl
    · have h := g_f h h7
      refine lv_aload_n hx hb dB_replaceNumber_10 rfl (lv_at hl 0 rfl) ?_
      refine lv_iload_n hx hb dB_replaceNumber_11 rfl (lv_at hl 1 rfl) ?_
      refine lv_iload hx hb dB_replaceNumber_12 (lv_at hl 4 rfl) ?_
      refine lv_iadd hx hb dB_replaceNumber_14 ?_
      refine lv_aload_n hx hb dB_replaceNumber_15 rfl (lv_at hl 0 rfl) ?_
      refine lv_lload_n hx hb dB_replaceNumber_16 rfl (lv_at hl 2 rfl) ?_
      refine lv_iload hx hb dB_replaceNumber_17 (lv_at hl 4 rfl) ?_
      obtain ⟨u19, e19, h⟩ := g_bind h
      refine pu_v S hN hK hP (rest := [.int (v1 + v5), .ref bA]) (cB_lowByte l D cI cJ bA bA0 v2 v5 b_count b_row u19 e19) k_B_19 [0, 1] rfl 0 rfl rfl ⟨rfl, rfl⟩ ⟨Nat.le_of_ble_eq_true rfl, Nat.le_of_ble_eq_true rfl⟩ rfl hl.1 (Nat.le_of_ble_eq_true rfl) ⟨Nat.le_refl _, Nat.le_refl _⟩ dB_replaceNumber_19 rfl ?_
      obtain ⟨u22, e22, h⟩ := g_bind h
      refine mu_v S hN hK hP hD hS hA (rest := []) (cB_replace l D cI cJ bA bA0 (v1 + v5) u19 b_count b_row u22 e22) k_B_27 [0, 1] [(some 0), (some 1)] [(bA, .inr (0, [.ref bA0, .int b_count])), (bA0, .inl (cI, 120, .inl u22.2))] rfl rfl rfl ⟨rfl, rfl, trivial⟩ (by decide +kernel) 0 rfl rfl ⟨rfl, rfl⟩ ⟨Nat.le_of_ble_eq_true rfl, Nat.le_of_ble_eq_true rfl⟩ rfl hl.1 (Nat.le_of_ble_eq_true rfl) ⟨Nat.le_refl _, Nat.le_refl _⟩ dB_replaceNumber_22 rfl (fun H locs hP hD hS => ?_)
      refine lv_pop hx hb dB_replaceNumber_25 rfl ?_
      refine lv_iinc (k := 4) (v := v5 + (1 : Int32)) (lv' := [(5, .int (v5 + (1 : Int32))), (0, .ref bA), (1, .int v1), (2, .long v2), (4, .int v4)]) hx hb dB_replaceNumber_26 hl rfl (congrArg (v5 + ·) (by decide : Int32.ofInt (1) = (1 : Int32))) (Nat.le_of_ble_eq_true rfl) rfl (fun ls hl => ?_)
      refine lv_goto (tgt := 3) hx hb dB_replaceNumber_29 (by decide) ?_
      exact hrc3 (v5 + (1 : Int32), u22.2) h _ _ _ (lv_sub hl [1, 2, 3, 4, 0] rfl) hP hD hS
  refine lv_iconst (v := (0 : Int32)) hx hb dB_replaceNumber_0 (by decide) ?_
  refine lv_istore (lv' := [(5, .int (0 : Int32)), (0, .ref bA), (1, .int v1), (2, .long v2), (4, .int v4)]) hx hb dB_replaceNumber_1 hl (Nat.le_of_ble_eq_true rfl) rfl (fun ls hl => ?_)
  exact t3 N ((0 : Int32), b_row) h _ _ _ (lv_sub hl [1, 2, 3, 4, 0] rfl) hP hD hS
