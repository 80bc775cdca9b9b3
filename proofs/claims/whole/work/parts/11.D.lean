/-! contracts, laid by wip/gen/parts.py -/
def fD_hasClass (v1 : Int32) (d_classCount : Int32) : Option (Bool) :=
  if v1 < 0 then (some (false)) else (if d_classCount ≤ v1 then (some (false)) else (some (true)))
set_option maxHeartbeats 4000000 in
set_option maxRecDepth 100000 in
theorem cD_hasClass (l : Launch) (D : va_G) (cI cJ : ClassId) (dA dA0 dA1 dA2 dA3 dA4 : Nat) (v1 : Int32) (d_classCount : Int32) (d_propertyCount : Int32) (d_parents : (Nat → Int32)) (d_owners : (Nat → Int32)) (d_letters : (Nat → Int32)) (d_sorts : (Nat → Int32)) (d_targets : (Nat → Int32)) (r : Bool) (h : fD_hasClass v1 d_classCount = some r) : Pu l yD_hasClass bD_hasClass 2 (some .boolean) (rL 0) [.ref dA, .int v1] D cI cJ [(dA, .inr (1, [.ref dA0, .ref dA1, .ref dA2, .ref dA3, .ref dA4, .int d_classCount, .int d_propertyCount])), (dA0, .inl (cI, 6, .inl d_parents)), (dA1, .inl (cI, 8, .inl d_owners)), (dA2, .inl (cI, 8, .inl d_letters)), (dA3, .inl (cI, 8, .inl d_sorts)), (dA4, .inl (cI, 8, .inl d_targets))] (.int (bI r)) := by
  refine pu_of (by decide) (Nat.le_of_ble_eq_true rfl) ?_
  intro p e s m below meth c ls S hr hlocks hN hK hP hl
  have hx := S.1
  have hb := S.2.1
  have hl : lv_has ls 2 [(0, .ref dA), (1, .int v1)] := hl
  unfold fD_hasClass at h
  refine lv_iload_n hx hb dD_hasClass_0 rfl (lv_at hl 1 rfl) ?_
  refine lv_if_lt (tgt := 16) hx hb dD_hasClass_1 (by decide) (fun h1 => ?_) (fun h1 => ?_)
  · have h := g_t h h1
    refine lv_iconst (v := (0 : Int32)) hx hb dD_hasClass_16 (by decide) ?_
    cases h
    exact pu_z S hr hlocks dD_hasClass_17 rfl
  · have h := g_f h h1
    refine lv_iload_n hx hb dD_hasClass_4 rfl (lv_at hl 1 rfl) ?_
    refine lv_aload_n hx hb dD_hasClass_5 rfl (lv_at hl 0 rfl) ?_
    refine gf S hK hP 0 1 5 u_zD w_81 rfl rfl (by decide) rfl dD_hasClass_6 ?_
    refine lv_icmp_ge (tgt := 16) hx hb dD_hasClass_9 (by decide) (fun h9 => ?_) (fun h9 => ?_)
    · have h := g_t h h9
      refine lv_iconst (v := (0 : Int32)) hx hb dD_hasClass_16 (by decide) ?_
      cases h
      exact pu_z S hr hlocks dD_hasClass_17 rfl
    · have h := g_f h h9
      refine lv_iconst (v := (1 : Int32)) hx hb dD_hasClass_12 (by decide) ?_
      refine lv_goto (tgt := 17) hx hb dD_hasClass_13 (by decide) ?_
      cases h
      exact pu_z S hr hlocks dD_hasClass_17 rfl
def fD_addClass (v1 : Int32) (d_classCount : Int32) (d_parents : (Nat → Int32)) : Option (Int32 × Int32 × (Nat → Int32)) :=
  if (6 : Int32) ≤ d_classCount then (some ((-1 : Int32), d_classCount, d_parents)) else (if v1 = (-1 : Int32) then (if ok d_classCount 6 = true then (some ((d_classCount + (1 : Int32)) - (1 : Int32), d_classCount + (1 : Int32), upd d_parents d_classCount.toNatClampNeg v1)) else none) else ((fD_hasClass v1 d_classCount).bind fun u16 => (if u16 = true then (if ok d_classCount 6 = true then (some ((d_classCount + (1 : Int32)) - (1 : Int32), d_classCount + (1 : Int32), upd d_parents d_classCount.toNatClampNeg v1)) else none) else (some ((-1 : Int32), d_classCount, d_parents)))))
set_option maxHeartbeats 4000000 in
set_option maxRecDepth 100000 in
theorem cD_addClass (l : Launch) (D : va_G) (cI cJ : ClassId) (dA dA0 dA1 dA2 dA3 dA4 : Nat) (v1 : Int32) (d_classCount : Int32) (d_propertyCount : Int32) (d_parents : (Nat → Int32)) (d_owners : (Nat → Int32)) (d_letters : (Nat → Int32)) (d_sorts : (Nat → Int32)) (d_targets : (Nat → Int32)) (r : Int32 × Int32 × (Nat → Int32)) (h : fD_addClass v1 d_classCount d_parents = some r) : Mu l yD_addClass bD_addClass 2 (some .int) (rL 1) [.ref dA, .int v1] D cI cJ [(dA, .inr (1, [.ref dA0, .ref dA1, .ref dA2, .ref dA3, .ref dA4, .int d_classCount, .int d_propertyCount])), (dA0, .inl (cI, 6, .inl d_parents)), (dA1, .inl (cI, 8, .inl d_owners)), (dA2, .inl (cI, 8, .inl d_letters)), (dA3, .inl (cI, 8, .inl d_sorts)), (dA4, .inl (cI, 8, .inl d_targets))] (some (.int r.1)) [(dA, .inr (1, [.ref dA0, .ref dA1, .ref dA2, .ref dA3, .ref dA4, .int r.2.1, .int d_propertyCount])), (dA0, .inl (cI, 6, .inl r.2.2)), (dA1, .inl (cI, 8, .inl d_owners)), (dA2, .inl (cI, 8, .inl d_letters)), (dA3, .inl (cI, 8, .inl d_sorts)), (dA4, .inl (cI, 8, .inl d_targets))] := by
  refine mu_of (by decide) (Nat.le_of_ble_eq_true rfl) ?_
  intro p e s m below meth c ls A S hr hlocks hN hK hP hD hA hl
  have hS : va_S A s.heap s.heap [] := va_S.rf
  have hx := S.1
  have hb := S.2.1
  have hl : lv_has ls 2 [(0, .ref dA), (1, .int v1)] := hl
  unfold fD_addClass at h
  refine lv_aload_n hx hb dD_addClass_0 rfl (lv_at hl 0 rfl) ?_
  refine gf S hK hP 0 1 5 u_zD w_81 rfl rfl (by decide) rfl dD_addClass_1 ?_
  refine lv_bipush (v := (6 : Int32)) hx hb dD_addClass_4 (by decide) ?_
  refine lv_icmp_ge (tgt := 22) hx hb dD_addClass_6 (by decide) (fun h6 => ?_) (fun h6 => ?_)
  · have h := g_t h h6
    refine lv_iconst (v := (-1 : Int32)) hx hb dD_addClass_22 (by decide) ?_
    cases h
    exact mu_i S hr hlocks hP hS dD_addClass_23 rfl rfl
  · have h := g_f h h6
    refine lv_iload_n hx hb dD_addClass_9 rfl (lv_at hl 1 rfl) ?_
    refine lv_iconst (v := (-1 : Int32)) hx hb dD_addClass_10 (by decide) ?_
    refine lv_icmp_eq (tgt := 24) hx hb dD_addClass_11 (by decide) (fun h11 => ?_) (fun h11 => ?_)
    · have h := g_t h h11
      refine lv_aload_n hx hb dD_addClass_24 rfl (lv_at hl 0 rfl) ?_
      refine gf S hK hP 0 1 0 u_zD w_76 rfl rfl (by decide) rfl dD_addClass_25 ?_
      refine lv_aload_n hx hb dD_addClass_28 rfl (lv_at hl 0 rfl) ?_
      refine gf S hK hP 0 1 5 u_zD w_81 rfl rfl (by decide) rfl dD_addClass_29 ?_
      refine lv_iload_n hx hb dD_addClass_32 rfl (lv_at hl 1 rfl) ?_
      obtain ⟨b33, h⟩ := g_ok h
      refine va_iast hx hb hK hP hD hS 1 0 rfl rfl b33 dD_addClass_33 (fun H locs hP hD hS => ?_)
      have hP : va_P D cs [(dA, .inr (1, [.ref dA0, .ref dA1, .ref dA2, .ref dA3, .ref dA4, .int d_classCount, .int d_propertyCount])), (dA0, .inl (cI, 6, .inl (upd d_parents d_classCount.toNatClampNeg v1))), (dA1, .inl (cI, 8, .inl d_owners)), (dA2, .inl (cI, 8, .inl d_letters)), (dA3, .inl (cI, 8, .inl d_sorts)), (dA4, .inl (cI, 8, .inl d_targets))] H := hP
      have hD : va_D A [(dA, .inr (1, [.ref dA0, .ref dA1, .ref dA2, .ref dA3, .ref dA4, .int d_classCount, .int d_propertyCount])), (dA0, .inl (cI, 6, .inl (upd d_parents d_classCount.toNatClampNeg v1))), (dA1, .inl (cI, 8, .inl d_owners)), (dA2, .inl (cI, 8, .inl d_letters)), (dA3, .inl (cI, 8, .inl d_sorts)), (dA4, .inl (cI, 8, .inl d_targets))] := hD
      refine lv_aload_n hx hb dD_addClass_34 rfl (lv_at hl 0 rfl) ?_
      refine lv_dup hx hb dD_addClass_35 rfl ?_
      refine gf S hK hP 0 1 5 u_zD w_81 rfl rfl (by decide) rfl dD_addClass_36 ?_
      refine lv_iconst (v := (1 : Int32)) hx hb dD_addClass_39 (by decide) ?_
      refine lv_iadd hx hb dD_addClass_40 ?_
      refine pf S hK hP hD hS 0 1 5 (v := .int (d_classCount + (1 : Int32))) zD_t u_zD zD_k zD_n w_81 rfl rfl (by decide) rfl rfl rfl rfl (Nat.le_of_ble_eq_true rfl) dD_addClass_41 (fun H locs hP hD hS => ?_)
      have hP : va_P D cs [(dA, .inr (1, [.ref dA0, .ref dA1, .ref dA2, .ref dA3, .ref dA4, .int (d_classCount + (1 : Int32)), .int d_propertyCount])), (dA0, .inl (cI, 6, .inl (upd d_parents d_classCount.toNatClampNeg v1))), (dA1, .inl (cI, 8, .inl d_owners)), (dA2, .inl (cI, 8, .inl d_letters)), (dA3, .inl (cI, 8, .inl d_sorts)), (dA4, .inl (cI, 8, .inl d_targets))] H := hP
      have hD : va_D A [(dA, .inr (1, [.ref dA0, .ref dA1, .ref dA2, .ref dA3, .ref dA4, .int (d_classCount + (1 : Int32)), .int d_propertyCount])), (dA0, .inl (cI, 6, .inl (upd d_parents d_classCount.toNatClampNeg v1))), (dA1, .inl (cI, 8, .inl d_owners)), (dA2, .inl (cI, 8, .inl d_letters)), (dA3, .inl (cI, 8, .inl d_sorts)), (dA4, .inl (cI, 8, .inl d_targets))] := hD
      refine lv_aload_n hx hb dD_addClass_44 rfl (lv_at hl 0 rfl) ?_
      refine gf S hK hP 0 1 5 u_zD w_81 rfl rfl (by decide) rfl dD_addClass_45 ?_
      refine lv_iconst (v := (1 : Int32)) hx hb dD_addClass_48 (by decide) ?_
      refine lv_isub hx hb dD_addClass_49 ?_
      cases h
      exact mu_i S hr hlocks hP hS dD_addClass_50 rfl rfl
    · have h := g_f h h11
      refine lv_aload_n hx hb dD_addClass_14 rfl (lv_at hl 0 rfl) ?_
      refine lv_iload_n hx hb dD_addClass_15 rfl (lv_at hl 1 rfl) ?_
      obtain ⟨u16, e16, h⟩ := g_bind h
      refine pu_v S hN hK hP (rest := []) (cD_hasClass l D cI cJ dA dA0 dA1 dA2 dA3 dA4 v1 d_classCount d_propertyCount d_parents d_owners d_letters d_sorts d_targets u16 e16) k_D_34 [0, 1, 2, 3, 4, 5] rfl 1 rfl rfl ⟨rfl, rfl⟩ ⟨Nat.le_of_ble_eq_true rfl, Nat.le_of_ble_eq_true rfl⟩ rfl hl.1 (Nat.le_of_ble_eq_true rfl) ⟨Nat.le_refl _, Nat.le_refl _⟩ dD_addClass_16 rfl ?_
      refine b_ifne (tgt := 24) hx hb dD_addClass_19 (by decide) (fun h19 => ?_) (fun h19 => ?_)
      · have h := g_t h h19
        refine lv_aload_n hx hb dD_addClass_24 rfl (lv_at hl 0 rfl) ?_
        refine gf S hK hP 0 1 0 u_zD w_76 rfl rfl (by decide) rfl dD_addClass_25 ?_
        refine lv_aload_n hx hb dD_addClass_28 rfl (lv_at hl 0 rfl) ?_
        refine gf S hK hP 0 1 5 u_zD w_81 rfl rfl (by decide) rfl dD_addClass_29 ?_
        refine lv_iload_n hx hb dD_addClass_32 rfl (lv_at hl 1 rfl) ?_
        obtain ⟨b33, h⟩ := g_ok h
        refine va_iast hx hb hK hP hD hS 1 0 rfl rfl b33 dD_addClass_33 (fun H locs hP hD hS => ?_)
        have hP : va_P D cs [(dA, .inr (1, [.ref dA0, .ref dA1, .ref dA2, .ref dA3, .ref dA4, .int d_classCount, .int d_propertyCount])), (dA0, .inl (cI, 6, .inl (upd d_parents d_classCount.toNatClampNeg v1))), (dA1, .inl (cI, 8, .inl d_owners)), (dA2, .inl (cI, 8, .inl d_letters)), (dA3, .inl (cI, 8, .inl d_sorts)), (dA4, .inl (cI, 8, .inl d_targets))] H := hP
        have hD : va_D A [(dA, .inr (1, [.ref dA0, .ref dA1, .ref dA2, .ref dA3, .ref dA4, .int d_classCount, .int d_propertyCount])), (dA0, .inl (cI, 6, .inl (upd d_parents d_classCount.toNatClampNeg v1))), (dA1, .inl (cI, 8, .inl d_owners)), (dA2, .inl (cI, 8, .inl d_letters)), (dA3, .inl (cI, 8, .inl d_sorts)), (dA4, .inl (cI, 8, .inl d_targets))] := hD
        refine lv_aload_n hx hb dD_addClass_34 rfl (lv_at hl 0 rfl) ?_
        refine lv_dup hx hb dD_addClass_35 rfl ?_
        refine gf S hK hP 0 1 5 u_zD w_81 rfl rfl (by decide) rfl dD_addClass_36 ?_
        refine lv_iconst (v := (1 : Int32)) hx hb dD_addClass_39 (by decide) ?_
        refine lv_iadd hx hb dD_addClass_40 ?_
        refine pf S hK hP hD hS 0 1 5 (v := .int (d_classCount + (1 : Int32))) zD_t u_zD zD_k zD_n w_81 rfl rfl (by decide) rfl rfl rfl rfl (Nat.le_of_ble_eq_true rfl) dD_addClass_41 (fun H locs hP hD hS => ?_)
        have hP : va_P D cs [(dA, .inr (1, [.ref dA0, .ref dA1, .ref dA2, .ref dA3, .ref dA4, .int (d_classCount + (1 : Int32)), .int d_propertyCount])), (dA0, .inl (cI, 6, .inl (upd d_parents d_classCount.toNatClampNeg v1))), (dA1, .inl (cI, 8, .inl d_owners)), (dA2, .inl (cI, 8, .inl d_letters)), (dA3, .inl (cI, 8, .inl d_sorts)), (dA4, .inl (cI, 8, .inl d_targets))] H := hP
        have hD : va_D A [(dA, .inr (1, [.ref dA0, .ref dA1, .ref dA2, .ref dA3, .ref dA4, .int (d_classCount + (1 : Int32)), .int d_propertyCount])), (dA0, .inl (cI, 6, .inl (upd d_parents d_classCount.toNatClampNeg v1))), (dA1, .inl (cI, 8, .inl d_owners)), (dA2, .inl (cI, 8, .inl d_letters)), (dA3, .inl (cI, 8, .inl d_sorts)), (dA4, .inl (cI, 8, .inl d_targets))] := hD
        refine lv_aload_n hx hb dD_addClass_44 rfl (lv_at hl 0 rfl) ?_
        refine gf S hK hP 0 1 5 u_zD w_81 rfl rfl (by decide) rfl dD_addClass_45 ?_
        refine lv_iconst (v := (1 : Int32)) hx hb dD_addClass_48 (by decide) ?_
        refine lv_isub hx hb dD_addClass_49 ?_
        cases h
        exact mu_i S hr hlocks hP hS dD_addClass_50 rfl rfl
      · have h := g_f h h19
        refine lv_iconst (v := (-1 : Int32)) hx hb dD_addClass_22 (by decide) ?_
        cases h
        exact mu_i S hr hlocks hP hS dD_addClass_23 rfl rfl
def fD_isKindOf_5 (N : Nat) (v1 : Int32) (v2 : Int32) (d_classCount : Int32) (d_parents : (Nat → Int32)) (rc5 : Int32 × Int32 → Option (Bool)) (v3 : Int32) (v4 : Int32) : Option (Bool) :=
  if (6 : Int32) ≤ v4 then (some (false)) else ((fD_hasClass v3 d_classCount).bind fun u14 => (if u14 = true then (if v3 = v2 then (some (true)) else (if ok v3 6 = true then (rc5 (d_parents v3.toNatClampNeg, v4 + (1 : Int32))) else none)) else (some (false))))
def fD_isKindOf_5l (N : Nat) (v1 : Int32) (v2 : Int32) (d_classCount : Int32) (d_parents : (Nat → Int32)) : Nat → Int32 × Int32 → Option (Bool) := lp (fun rc a => fD_isKindOf_5 N v1 v2 d_classCount d_parents rc a.1 a.2)
def fD_isKindOf (N : Nat) (v1 : Int32) (v2 : Int32) (d_classCount : Int32) (d_parents : (Nat → Int32)) : Option (Bool) :=
  fD_isKindOf_5l N v1 v2 d_classCount d_parents N (v1, (0 : Int32))
set_option maxHeartbeats 4000000 in
set_option maxRecDepth 100000 in
theorem cD_isKindOf (l : Launch) (D : va_G) (cI cJ : ClassId) (dA dA0 dA1 dA2 dA3 dA4 : Nat) (N : Nat) (v1 : Int32) (v2 : Int32) (d_classCount : Int32) (d_propertyCount : Int32) (d_parents : (Nat → Int32)) (d_owners : (Nat → Int32)) (d_letters : (Nat → Int32)) (d_sorts : (Nat → Int32)) (d_targets : (Nat → Int32)) (r : Bool) (h : fD_isKindOf N v1 v2 d_classCount d_parents = some r) : Pu l yD_isKindOf bD_isKindOf 5 (some .boolean) (rL 1) [.ref dA, .int v1, .int v2] D cI cJ [(dA, .inr (1, [.ref dA0, .ref dA1, .ref dA2, .ref dA3, .ref dA4, .int d_classCount, .int d_propertyCount])), (dA0, .inl (cI, 6, .inl d_parents)), (dA1, .inl (cI, 8, .inl d_owners)), (dA2, .inl (cI, 8, .inl d_letters)), (dA3, .inl (cI, 8, .inl d_sorts)), (dA4, .inl (cI, 8, .inl d_targets))] (.int (bI r)) := by
  refine pu_of (by decide) (Nat.le_of_ble_eq_true rfl) ?_
  intro p e s m below meth c ls S hr hlocks hN hK hP hl
  have hx := S.1
  have hb := S.2.1
  have hl : lv_has ls 5 [(0, .ref dA), (1, .int v1), (2, .int v2)] := hl
  unfold fD_isKindOf at h
  have t5 : ∀ (k : Nat) (a : Int32 × Int32), fD_isKindOf_5l N v1 v2 d_classCount d_parents k a = some r → ∀ (ls : Array Slot), lv_has ls 5 [(0, .ref dA), (2, .int v2), (3, .int a.1), (4, .int a.2)] → W p l e (rL 1) s m ([.ref dA, .int v1, .int v2] : List Value).toArray below meth c s.heap [] 0 0 (MQ below (fun _ st oc t => oc = .returned (some (.int (bI r))) ∧ t.heap = st.heap) ([.ref dA, .int v1, .int v2] : List Value).toArray s 0 0 (fun _ => False)) (F0 m 5 ls []) := by
    unfold fD_isKindOf_5l
    refine lp_some ?_
    intro rc5 hrc5 a h
    obtain ⟨v3, v4⟩ := a
    intro ls hl
    have h : fD_isKindOf_5 N v1 v2 d_classCount d_parents rc5 v3 v4 = some r := h
    have hl : lv_has ls 5 [(0, .ref dA), (2, .int v2), (3, .int v3), (4, .int v4)] := hl
    unfold fD_isKindOf_5 at h
    refine lv_iload hx hb dD_isKindOf_5 (lv_at hl 3 rfl) ?_
    refine lv_bipush (v := (6 : Int32)) hx hb dD_isKindOf_7 (by decide) ?_
    refine lv_icmp_ge (tgt := 40) hx hb dD_isKindOf_9 (by decide) (fun h9 => ?_) (fun h9 => ?_)
    · have h := g_t h h9
      refine lv_iconst (v := (0 : Int32)) hx hb dD_isKindOf_40 (by decide) ?_
      cases h
      exact pu_z S hr hlocks dD_isKindOf_41 rfl
    · have h := g_f h h9
      refine lv_aload_n hx hb dD_isKindOf_12 rfl (lv_at hl 0 rfl) ?_
      refine lv_iload_n hx hb dD_isKindOf_13 rfl (lv_at hl 2 rfl) ?_
      obtain ⟨u14, e14, h⟩ := g_bind h
      refine pu_v S hN hK hP (rest := []) (cD_hasClass l D cI cJ dA dA0 dA1 dA2 dA3 dA4 v3 d_classCount d_propertyCount d_parents d_owners d_letters d_sorts d_targets u14 e14) k_D_34 [0, 1, 2, 3, 4, 5] rfl 1 rfl rfl ⟨rfl, rfl⟩ ⟨Nat.le_of_ble_eq_true rfl, Nat.le_of_ble_eq_true rfl⟩ rfl hl.1 (Nat.le_of_ble_eq_true rfl) ⟨Nat.le_refl _, Nat.le_refl _⟩ dD_isKindOf_14 rfl ?_
      refine b_ifeq (tgt := 40) hx hb dD_isKindOf_17 (by decide) (fun h17 => ?_) (fun h17 => ?_)
      · have h := g_f h h17
        refine lv_iconst (v := (0 : Int32)) hx hb dD_isKindOf_40 (by decide) ?_
        cases h
        exact pu_z S hr hlocks dD_isKindOf_41 rfl
      · have h := g_t h h17
        refine lv_iload_n hx hb dD_isKindOf_20 rfl (lv_at hl 2 rfl) ?_
        refine lv_iload_n hx hb dD_isKindOf_21 rfl (lv_at hl 1 rfl) ?_
        refine lv_icmp_ne (tgt := 27) hx hb dD_isKindOf_22 (by decide) (fun h22 => ?_) (fun h22 => ?_)
        · have h := g_f h h22
          refine lv_aload_n hx hb dD_isKindOf_27 rfl (lv_at hl 0 rfl) ?_
          refine gf S hK hP 0 1 0 u_zD w_76 rfl rfl (by decide) rfl dD_isKindOf_28 ?_
          refine lv_iload_n hx hb dD_isKindOf_31 rfl (lv_at hl 2 rfl) ?_
          obtain ⟨b32, h⟩ := g_ok h
          refine va_iald hx hb hK hP 1 0 rfl rfl b32 dD_isKindOf_32 ?_
          refine lv_istore_n (lv' := [(3, .int (d_parents v3.toNatClampNeg)), (0, .ref dA), (2, .int v2), (4, .int v4)]) hx hb dD_isKindOf_33 rfl hl (Nat.le_of_ble_eq_true rfl) rfl (fun ls hl => ?_)
          refine lv_iinc (k := 3) (v := v4 + (1 : Int32)) (lv' := [(4, .int (v4 + (1 : Int32))), (3, .int (d_parents v3.toNatClampNeg)), (0, .ref dA), (2, .int v2)]) hx hb dD_isKindOf_34 hl rfl (congrArg (v4 + ·) (by decide : Int32.ofInt (1) = (1 : Int32))) (Nat.le_of_ble_eq_true rfl) rfl (fun ls hl => ?_)
          refine lv_goto (tgt := 5) hx hb dD_isKindOf_37 (by decide) ?_
          exact hrc5 (d_parents v3.toNatClampNeg, v4 + (1 : Int32)) h _ (lv_sub hl [2, 3, 1, 0] rfl)
        · have h := g_t h h22
          refine lv_iconst (v := (1 : Int32)) hx hb dD_isKindOf_25 (by decide) ?_
          cases h
          exact pu_z S hr hlocks dD_isKindOf_26 rfl
  refine lv_iload_n hx hb dD_isKindOf_0 rfl (lv_at hl 1 rfl) ?_
  refine lv_istore_n (lv' := [(3, .int v1), (0, .ref dA), (1, .int v1), (2, .int v2)]) hx hb dD_isKindOf_1 rfl hl (Nat.le_of_ble_eq_true rfl) rfl (fun ls hl => ?_)
  refine lv_iconst (v := (0 : Int32)) hx hb dD_isKindOf_2 (by decide) ?_
  refine lv_istore (lv' := [(4, .int (0 : Int32)), (3, .int v1), (0, .ref dA), (1, .int v1), (2, .int v2)]) hx hb dD_isKindOf_3 hl (Nat.le_of_ble_eq_true rfl) rfl (fun ls hl => ?_)
  exact t5 N (v1, (0 : Int32)) h _ (lv_sub hl [2, 4, 1, 0] rfl)
def fD_isTaken_2 (N : Nat) (v1 : Int32) (v2 : Int32) (d_classCount : Int32) (d_propertyCount : Int32) (d_parents : (Nat → Int32)) (d_owners : (Nat → Int32)) (d_letters : (Nat → Int32)) (rc2 : Int32 → Option (Bool)) (v3 : Int32) : Option (Bool) :=
  if d_propertyCount ≤ v3 then (some (false)) else (if ok v3 8 = true then (if (d_letters v3.toNatClampNeg) = v2 then (if ok v3 8 = true then ((fD_isKindOf N v1 (d_owners v3.toNatClampNeg) d_classCount d_parents).bind fun u28 => (if u28 = true then (some (true)) else (if ok v3 8 = true then ((fD_isKindOf N (d_owners v3.toNatClampNeg) v1 d_classCount d_parents).bind fun u42 => (if u42 = true then (some (true)) else (rc2 (v3 + (1 : Int32))))) else none))) else none) else (rc2 (v3 + (1 : Int32)))) else none)
def fD_isTaken_2l (N : Nat) (v1 : Int32) (v2 : Int32) (d_classCount : Int32) (d_propertyCount : Int32) (d_parents : (Nat → Int32)) (d_owners : (Nat → Int32)) (d_letters : (Nat → Int32)) : Nat → Int32 → Option (Bool) := lp (fun rc a => fD_isTaken_2 N v1 v2 d_classCount d_propertyCount d_parents d_owners d_letters rc a)
def fD_isTaken (N : Nat) (v1 : Int32) (v2 : Int32) (d_classCount : Int32) (d_propertyCount : Int32) (d_parents : (Nat → Int32)) (d_owners : (Nat → Int32)) (d_letters : (Nat → Int32)) : Option (Bool) :=
  fD_isTaken_2l N v1 v2 d_classCount d_propertyCount d_parents d_owners d_letters N (0 : Int32)
set_option maxHeartbeats 4000000 in
set_option maxRecDepth 100000 in
theorem cD_isTaken (l : Launch) (D : va_G) (cI cJ : ClassId) (dA dA0 dA1 dA2 dA3 dA4 : Nat) (N : Nat) (v1 : Int32) (v2 : Int32) (d_classCount : Int32) (d_propertyCount : Int32) (d_parents : (Nat → Int32)) (d_owners : (Nat → Int32)) (d_letters : (Nat → Int32)) (d_sorts : (Nat → Int32)) (d_targets : (Nat → Int32)) (r : Bool) (h : fD_isTaken N v1 v2 d_classCount d_propertyCount d_parents d_owners d_letters = some r) : Pu l yD_isTaken bD_isTaken 4 (some .boolean) (rL 2) [.ref dA, .int v1, .int v2] D cI cJ [(dA, .inr (1, [.ref dA0, .ref dA1, .ref dA2, .ref dA3, .ref dA4, .int d_classCount, .int d_propertyCount])), (dA0, .inl (cI, 6, .inl d_parents)), (dA1, .inl (cI, 8, .inl d_owners)), (dA2, .inl (cI, 8, .inl d_letters)), (dA3, .inl (cI, 8, .inl d_sorts)), (dA4, .inl (cI, 8, .inl d_targets))] (.int (bI r)) := by
  refine pu_of (by decide) (Nat.le_of_ble_eq_true rfl) ?_
  intro p e s m below meth c ls S hr hlocks hN hK hP hl
  have hx := S.1
  have hb := S.2.1
  have hl : lv_has ls 4 [(0, .ref dA), (1, .int v1), (2, .int v2)] := hl
  unfold fD_isTaken at h
  have t2 : ∀ (k : Nat) (a : Int32), fD_isTaken_2l N v1 v2 d_classCount d_propertyCount d_parents d_owners d_letters k a = some r → ∀ (ls : Array Slot), lv_has ls 4 [(0, .ref dA), (1, .int v1), (2, .int v2), (3, .int a)] → W p l e (rL 2) s m ([.ref dA, .int v1, .int v2] : List Value).toArray below meth c s.heap [] 0 0 (MQ below (fun _ st oc t => oc = .returned (some (.int (bI r))) ∧ t.heap = st.heap) ([.ref dA, .int v1, .int v2] : List Value).toArray s 0 0 (fun _ => False)) (F0 m 2 ls []) := by
    unfold fD_isTaken_2l
    refine lp_some ?_
    intro rc2 hrc2 v3 h
    intro ls hl
    have h : fD_isTaken_2 N v1 v2 d_classCount d_propertyCount d_parents d_owners d_letters rc2 v3 = some r := h
    have hl : lv_has ls 4 [(0, .ref dA), (1, .int v1), (2, .int v2), (3, .int v3)] := hl
    unfold fD_isTaken_2 at h
    refine lv_iload_n hx hb dD_isTaken_2 rfl (lv_at hl 3 rfl) ?_
    refine lv_aload_n hx hb dD_isTaken_3 rfl (lv_at hl 0 rfl) ?_
    refine gf S hK hP 0 1 6 u_zD w_82 rfl rfl (by decide) rfl dD_isTaken_4 ?_
    refine lv_icmp_ge (tgt := 56) hx hb dD_isTaken_7 (by decide) (fun h7 => ?_) (fun h7 => ?_)
    · have h := g_t h h7
      refine lv_iconst (v := (0 : Int32)) hx hb dD_isTaken_56 (by decide) ?_
      cases h
      exact pu_z S hr hlocks dD_isTaken_57 rfl
    · have h := g_f h h7
      refine lv_aload_n hx hb dD_isTaken_10 rfl (lv_at hl 0 rfl) ?_
      refine gf S hK hP 0 1 2 u_zD w_78 rfl rfl (by decide) rfl dD_isTaken_11 ?_
      refine lv_iload_n hx hb dD_isTaken_14 rfl (lv_at hl 3 rfl) ?_
      obtain ⟨b15, h⟩ := g_ok h
      refine va_iald hx hb hK hP 3 0 rfl rfl b15 dD_isTaken_15 ?_
      refine lv_iload_n hx hb dD_isTaken_16 rfl (lv_at hl 2 rfl) ?_
      refine lv_icmp_ne (tgt := 50) hx hb dD_isTaken_17 (by decide) (fun h17 => ?_) (fun h17 => ?_)
      · have h := g_f h h17
        refine lv_iinc (k := 3) (v := v3 + (1 : Int32)) (lv' := [(3, .int (v3 + (1 : Int32))), (0, .ref dA), (1, .int v1), (2, .int v2)]) hx hb dD_isTaken_50 hl rfl (congrArg (v3 + ·) (by decide : Int32.ofInt (1) = (1 : Int32))) (Nat.le_of_ble_eq_true rfl) rfl (fun ls hl => ?_)
        refine lv_goto (tgt := 2) hx hb dD_isTaken_53 (by decide) ?_
        exact hrc2 (v3 + (1 : Int32)) h _ (lv_sub hl [1, 2, 3, 0] rfl)
      · have h := g_t h h17
        refine lv_aload_n hx hb dD_isTaken_20 rfl (lv_at hl 0 rfl) ?_
        refine lv_iload_n hx hb dD_isTaken_21 rfl (lv_at hl 1 rfl) ?_
        refine lv_aload_n hx hb dD_isTaken_22 rfl (lv_at hl 0 rfl) ?_
        refine gf S hK hP 0 1 1 u_zD w_77 rfl rfl (by decide) rfl dD_isTaken_23 ?_
        refine lv_iload_n hx hb dD_isTaken_26 rfl (lv_at hl 3 rfl) ?_
        obtain ⟨b27, h⟩ := g_ok h
        refine va_iald hx hb hK hP 2 0 rfl rfl b27 dD_isTaken_27 ?_
        obtain ⟨u28, e28, h⟩ := g_bind h
        refine pu_v S hN hK hP (rest := []) (cD_isKindOf l D cI cJ dA dA0 dA1 dA2 dA3 dA4 N v1 (d_owners v3.toNatClampNeg) d_classCount d_propertyCount d_parents d_owners d_letters d_sorts d_targets u28 e28) k_D_42 [0, 1, 2, 3, 4, 5] rfl 1 rfl rfl ⟨rfl, rfl⟩ ⟨Nat.le_of_ble_eq_true rfl, Nat.le_of_ble_eq_true rfl⟩ rfl hl.1 (Nat.le_of_ble_eq_true rfl) ⟨Nat.le_refl _, Nat.le_refl _⟩ dD_isTaken_28 rfl ?_
        refine b_ifne (tgt := 48) hx hb dD_isTaken_31 (by decide) (fun h31 => ?_) (fun h31 => ?_)
        · have h := g_t h h31
          refine lv_iconst (v := (1 : Int32)) hx hb dD_isTaken_48 (by decide) ?_
          cases h
          exact pu_z S hr hlocks dD_isTaken_49 rfl
        · have h := g_f h h31
          refine lv_aload_n hx hb dD_isTaken_34 rfl (lv_at hl 0 rfl) ?_
          refine lv_aload_n hx hb dD_isTaken_35 rfl (lv_at hl 0 rfl) ?_
          refine gf S hK hP 0 1 1 u_zD w_77 rfl rfl (by decide) rfl dD_isTaken_36 ?_
          refine lv_iload_n hx hb dD_isTaken_39 rfl (lv_at hl 3 rfl) ?_
          obtain ⟨b40, h⟩ := g_ok h
          refine va_iald hx hb hK hP 2 0 rfl rfl b40 dD_isTaken_40 ?_
          refine lv_iload_n hx hb dD_isTaken_41 rfl (lv_at hl 1 rfl) ?_
          obtain ⟨u42, e42, h⟩ := g_bind h
          refine pu_v S hN hK hP (rest := []) (cD_isKindOf l D cI cJ dA dA0 dA1 dA2 dA3 dA4 N (d_owners v3.toNatClampNeg) v1 d_classCount d_propertyCount d_parents d_owners d_letters d_sorts d_targets u42 e42) k_D_42 [0, 1, 2, 3, 4, 5] rfl 1 rfl rfl ⟨rfl, rfl⟩ ⟨Nat.le_of_ble_eq_true rfl, Nat.le_of_ble_eq_true rfl⟩ rfl hl.1 (Nat.le_of_ble_eq_true rfl) ⟨Nat.le_refl _, Nat.le_refl _⟩ dD_isTaken_42 rfl ?_
          refine b_ifeq (tgt := 50) hx hb dD_isTaken_45 (by decide) (fun h45 => ?_) (fun h45 => ?_)
          · have h := g_f h h45
            refine lv_iinc (k := 3) (v := v3 + (1 : Int32)) (lv' := [(3, .int (v3 + (1 : Int32))), (0, .ref dA), (1, .int v1), (2, .int v2)]) hx hb dD_isTaken_50 hl rfl (congrArg (v3 + ·) (by decide : Int32.ofInt (1) = (1 : Int32))) (Nat.le_of_ble_eq_true rfl) rfl (fun ls hl => ?_)
            refine lv_goto (tgt := 2) hx hb dD_isTaken_53 (by decide) ?_
            exact hrc2 (v3 + (1 : Int32)) h _ (lv_sub hl [1, 2, 3, 0] rfl)
          · have h := g_t h h45
            refine lv_iconst (v := (1 : Int32)) hx hb dD_isTaken_48 (by decide) ?_
            cases h
            exact pu_z S hr hlocks dD_isTaken_49 rfl
  refine lv_iconst (v := (0 : Int32)) hx hb dD_isTaken_0 (by decide) ?_
  refine lv_istore_n (lv' := [(3, .int (0 : Int32)), (0, .ref dA), (1, .int v1), (2, .int v2)]) hx hb dD_isTaken_1 rfl hl (Nat.le_of_ble_eq_true rfl) rfl (fun ls hl => ?_)
  exact t2 N (0 : Int32) h _ (lv_sub hl [1, 2, 3, 0] rfl)
def fD_addProperty (N : Nat) (v1 : Int32) (v2 : Int32) (v3 : Int32) (v4 : Int32) (d_classCount : Int32) (d_propertyCount : Int32) (d_parents : (Nat → Int32)) (d_owners : (Nat → Int32)) (d_letters : (Nat → Int32)) (d_sorts : (Nat → Int32)) (d_targets : (Nat → Int32)) : Option (Bool × Int32 × (Nat → Int32) × (Nat → Int32) × (Nat → Int32) × (Nat → Int32)) :=
  if (8 : Int32) ≤ d_propertyCount then (some (false, d_propertyCount, d_owners, d_letters, d_sorts, d_targets)) else ((fD_hasClass v1 d_classCount).bind fun u11 => (if u11 = true then (if v2 < 0 then (some (false, d_propertyCount, d_owners, d_letters, d_sorts, d_targets)) else (if (26 : Int32) ≤ v2 then (some (false, d_propertyCount, d_owners, d_letters, d_sorts, d_targets)) else (if v3 < 0 then (some (false, d_propertyCount, d_owners, d_letters, d_sorts, d_targets)) else (if v3 ≤ (3 : Int32) then (if v3 = (3 : Int32) then ((fD_hasClass v4 d_classCount).bind fun u48 => (if u48 = true then ((fD_isTaken N v1 v2 d_classCount d_propertyCount d_parents d_owners d_letters).bind fun u57 => (if u57 = true then (some (false, d_propertyCount, d_owners, d_letters, d_sorts, d_targets)) else (if ok d_propertyCount 8 = true then (if ok d_propertyCount 8 = true then (if ok d_propertyCount 8 = true then (if ok d_propertyCount 8 = true then (some (true, d_propertyCount + (1 : Int32), upd d_owners d_propertyCount.toNatClampNeg v1, upd d_letters d_propertyCount.toNatClampNeg v2, upd d_sorts d_propertyCount.toNatClampNeg v3, upd d_targets d_propertyCount.toNatClampNeg v4)) else none) else none) else none) else none))) else (some (false, d_propertyCount, d_owners, d_letters, d_sorts, d_targets)))) else ((fD_isTaken N v1 v2 d_classCount d_propertyCount d_parents d_owners d_letters).bind fun u57 => (if u57 = true then (some (false, d_propertyCount, d_owners, d_letters, d_sorts, d_targets)) else (if ok d_propertyCount 8 = true then (if ok d_propertyCount 8 = true then (if ok d_propertyCount 8 = true then (if ok d_propertyCount 8 = true then (some (true, d_propertyCount + (1 : Int32), upd d_owners d_propertyCount.toNatClampNeg v1, upd d_letters d_propertyCount.toNatClampNeg v2, upd d_sorts d_propertyCount.toNatClampNeg v3, upd d_targets d_propertyCount.toNatClampNeg v4)) else none) else none) else none) else none)))) else (some (false, d_propertyCount, d_owners, d_letters, d_sorts, d_targets)))))) else (some (false, d_propertyCount, d_owners, d_letters, d_sorts, d_targets))))
set_option maxHeartbeats 4000000 in
set_option maxRecDepth 100000 in
theorem cD_addProperty (l : Launch) (D : va_G) (cI cJ : ClassId) (dA dA0 dA1 dA2 dA3 dA4 : Nat) (N : Nat) (v1 : Int32) (v2 : Int32) (v3 : Int32) (v4 : Int32) (d_classCount : Int32) (d_propertyCount : Int32) (d_parents : (Nat → Int32)) (d_owners : (Nat → Int32)) (d_letters : (Nat → Int32)) (d_sorts : (Nat → Int32)) (d_targets : (Nat → Int32)) (r : Bool × Int32 × (Nat → Int32) × (Nat → Int32) × (Nat → Int32) × (Nat → Int32)) (h : fD_addProperty N v1 v2 v3 v4 d_classCount d_propertyCount d_parents d_owners d_letters d_sorts d_targets = some r) : Mu l yD_addProperty bD_addProperty 5 (some .boolean) (rL 3) [.ref dA, .int v1, .int v2, .int v3, .int v4] D cI cJ [(dA, .inr (1, [.ref dA0, .ref dA1, .ref dA2, .ref dA3, .ref dA4, .int d_classCount, .int d_propertyCount])), (dA0, .inl (cI, 6, .inl d_parents)), (dA1, .inl (cI, 8, .inl d_owners)), (dA2, .inl (cI, 8, .inl d_letters)), (dA3, .inl (cI, 8, .inl d_sorts)), (dA4, .inl (cI, 8, .inl d_targets))] (some (.int (bI r.1))) [(dA, .inr (1, [.ref dA0, .ref dA1, .ref dA2, .ref dA3, .ref dA4, .int d_classCount, .int r.2.1])), (dA0, .inl (cI, 6, .inl d_parents)), (dA1, .inl (cI, 8, .inl r.2.2.1)), (dA2, .inl (cI, 8, .inl r.2.2.2.1)), (dA3, .inl (cI, 8, .inl r.2.2.2.2.1)), (dA4, .inl (cI, 8, .inl r.2.2.2.2.2))] := by
  refine mu_of (by decide) (Nat.le_of_ble_eq_true rfl) ?_
  intro p e s m below meth c ls A S hr hlocks hN hK hP hD hA hl
  have hS : va_S A s.heap s.heap [] := va_S.rf
  have hx := S.1
  have hb := S.2.1
  have hl : lv_has ls 5 [(0, .ref dA), (1, .int v1), (2, .int v2), (3, .int v3), (4, .int v4)] := hl
  unfold fD_addProperty at h
  refine lv_aload_n hx hb dD_addProperty_0 rfl (lv_at hl 0 rfl) ?_
  refine gf S hK hP 0 1 6 u_zD w_82 rfl rfl (by decide) rfl dD_addProperty_1 ?_
  refine lv_bipush (v := (8 : Int32)) hx hb dD_addProperty_4 (by decide) ?_
  refine lv_icmp_ge (tgt := 17) hx hb dD_addProperty_6 (by decide) (fun h6 => ?_) (fun h6 => ?_)
  · have h := g_t h h6
    refine lv_iconst (v := (0 : Int32)) hx hb dD_addProperty_17 (by decide) ?_
    cases h
    exact mu_z S hr hlocks hP hS dD_addProperty_18 rfl rfl
  · have h := g_f h h6
    refine lv_aload_n hx hb dD_addProperty_9 rfl (lv_at hl 0 rfl) ?_
    refine lv_iload_n hx hb dD_addProperty_10 rfl (lv_at hl 1 rfl) ?_
    obtain ⟨u11, e11, h⟩ := g_bind h
    refine pu_v S hN hK hP (rest := []) (cD_hasClass l D cI cJ dA dA0 dA1 dA2 dA3 dA4 v1 d_classCount d_propertyCount d_parents d_owners d_letters d_sorts d_targets u11 e11) k_D_34 [0, 1, 2, 3, 4, 5] rfl 1 rfl rfl ⟨rfl, rfl⟩ ⟨Nat.le_of_ble_eq_true rfl, Nat.le_of_ble_eq_true rfl⟩ rfl hl.1 (Nat.le_of_ble_eq_true rfl) ⟨Nat.le_refl _, Nat.le_refl _⟩ dD_addProperty_11 rfl ?_
    refine b_ifne (tgt := 19) hx hb dD_addProperty_14 (by decide) (fun h14 => ?_) (fun h14 => ?_)
    · have h := g_t h h14
      refine lv_iload_n hx hb dD_addProperty_19 rfl (lv_at hl 2 rfl) ?_
      refine lv_if_lt (tgt := 38) hx hb dD_addProperty_20 (by decide) (fun h20 => ?_) (fun h20 => ?_)
      · have h := g_t h h20
        refine lv_iconst (v := (0 : Int32)) hx hb dD_addProperty_38 (by decide) ?_
        cases h
        exact mu_z S hr hlocks hP hS dD_addProperty_39 rfl rfl
      · have h := g_f h h20
        refine lv_iload_n hx hb dD_addProperty_23 rfl (lv_at hl 2 rfl) ?_
        refine lv_bipush (v := (26 : Int32)) hx hb dD_addProperty_24 (by decide) ?_
        refine lv_icmp_ge (tgt := 38) hx hb dD_addProperty_26 (by decide) (fun h26 => ?_) (fun h26 => ?_)
        · have h := g_t h h26
          refine lv_iconst (v := (0 : Int32)) hx hb dD_addProperty_38 (by decide) ?_
          cases h
          exact mu_z S hr hlocks hP hS dD_addProperty_39 rfl rfl
        · have h := g_f h h26
          refine lv_iload_n hx hb dD_addProperty_29 rfl (lv_at hl 3 rfl) ?_
          refine lv_if_lt (tgt := 38) hx hb dD_addProperty_30 (by decide) (fun h30 => ?_) (fun h30 => ?_)
          · have h := g_t h h30
            refine lv_iconst (v := (0 : Int32)) hx hb dD_addProperty_38 (by decide) ?_
            cases h
            exact mu_z S hr hlocks hP hS dD_addProperty_39 rfl rfl
          · have h := g_f h h30
            refine lv_iload_n hx hb dD_addProperty_33 rfl (lv_at hl 3 rfl) ?_
            refine lv_iconst (v := (3 : Int32)) hx hb dD_addProperty_34 (by decide) ?_
            refine lv_icmp_le (tgt := 40) hx hb dD_addProperty_35 (by decide) (fun h35 => ?_) (fun h35 => ?_)
            · have h := g_t h h35
              refine lv_iload_n hx hb dD_addProperty_40 rfl (lv_at hl 3 rfl) ?_
              refine lv_iconst (v := (3 : Int32)) hx hb dD_addProperty_41 (by decide) ?_
              refine lv_icmp_ne (tgt := 54) hx hb dD_addProperty_42 (by decide) (fun h42 => ?_) (fun h42 => ?_)
              · have h := g_f h h42
                refine lv_aload_n hx hb dD_addProperty_54 rfl (lv_at hl 0 rfl) ?_
                refine lv_iload_n hx hb dD_addProperty_55 rfl (lv_at hl 1 rfl) ?_
                refine lv_iload_n hx hb dD_addProperty_56 rfl (lv_at hl 2 rfl) ?_
                obtain ⟨u57, e57, h⟩ := g_bind h
                refine pu_v S hN hK hP (rest := []) (cD_isTaken l D cI cJ dA dA0 dA1 dA2 dA3 dA4 N v1 v2 d_classCount d_propertyCount d_parents d_owners d_letters d_sorts d_targets u57 e57) k_D_38 [0, 1, 2, 3, 4, 5] rfl 1 rfl rfl ⟨rfl, rfl⟩ ⟨Nat.le_of_ble_eq_true rfl, Nat.le_of_ble_eq_true rfl⟩ rfl hl.1 (Nat.le_of_ble_eq_true rfl) ⟨Nat.le_refl _, Nat.le_refl _⟩ dD_addProperty_57 rfl ?_
                refine b_ifeq (tgt := 65) hx hb dD_addProperty_60 (by decide) (fun h60 => ?_) (fun h60 => ?_)
                · have h := g_f h h60
                  refine lv_aload_n hx hb dD_addProperty_65 rfl (lv_at hl 0 rfl) ?_
                  refine gf S hK hP 0 1 1 u_zD w_77 rfl rfl (by decide) rfl dD_addProperty_66 ?_
                  refine lv_aload_n hx hb dD_addProperty_69 rfl (lv_at hl 0 rfl) ?_
                  refine gf S hK hP 0 1 6 u_zD w_82 rfl rfl (by decide) rfl dD_addProperty_70 ?_
                  refine lv_iload_n hx hb dD_addProperty_73 rfl (lv_at hl 1 rfl) ?_
                  obtain ⟨b74, h⟩ := g_ok h
                  refine va_iast hx hb hK hP hD hS 2 0 rfl rfl b74 dD_addProperty_74 (fun H locs hP hD hS => ?_)
                  have hP : va_P D cs [(dA, .inr (1, [.ref dA0, .ref dA1, .ref dA2, .ref dA3, .ref dA4, .int d_classCount, .int d_propertyCount])), (dA0, .inl (cI, 6, .inl d_parents)), (dA1, .inl (cI, 8, .inl (upd d_owners d_propertyCount.toNatClampNeg v1))), (dA2, .inl (cI, 8, .inl d_letters)), (dA3, .inl (cI, 8, .inl d_sorts)), (dA4, .inl (cI, 8, .inl d_targets))] H := hP
                  have hD : va_D A [(dA, .inr (1, [.ref dA0, .ref dA1, .ref dA2, .ref dA3, .ref dA4, .int d_classCount, .int d_propertyCount])), (dA0, .inl (cI, 6, .inl d_parents)), (dA1, .inl (cI, 8, .inl (upd d_owners d_propertyCount.toNatClampNeg v1))), (dA2, .inl (cI, 8, .inl d_letters)), (dA3, .inl (cI, 8, .inl d_sorts)), (dA4, .inl (cI, 8, .inl d_targets))] := hD
                  refine lv_aload_n hx hb dD_addProperty_75 rfl (lv_at hl 0 rfl) ?_
                  refine gf S hK hP 0 1 2 u_zD w_78 rfl rfl (by decide) rfl dD_addProperty_76 ?_
                  refine lv_aload_n hx hb dD_addProperty_79 rfl (lv_at hl 0 rfl) ?_
                  refine gf S hK hP 0 1 6 u_zD w_82 rfl rfl (by decide) rfl dD_addProperty_80 ?_
                  refine lv_iload_n hx hb dD_addProperty_83 rfl (lv_at hl 2 rfl) ?_
                  obtain ⟨b84, h⟩ := g_ok h
                  refine va_iast hx hb hK hP hD hS 3 0 rfl rfl b84 dD_addProperty_84 (fun H locs hP hD hS => ?_)
                  have hP : va_P D cs [(dA, .inr (1, [.ref dA0, .ref dA1, .ref dA2, .ref dA3, .ref dA4, .int d_classCount, .int d_propertyCount])), (dA0, .inl (cI, 6, .inl d_parents)), (dA1, .inl (cI, 8, .inl (upd d_owners d_propertyCount.toNatClampNeg v1))), (dA2, .inl (cI, 8, .inl (upd d_letters d_propertyCount.toNatClampNeg v2))), (dA3, .inl (cI, 8, .inl d_sorts)), (dA4, .inl (cI, 8, .inl d_targets))] H := hP
                  have hD : va_D A [(dA, .inr (1, [.ref dA0, .ref dA1, .ref dA2, .ref dA3, .ref dA4, .int d_classCount, .int d_propertyCount])), (dA0, .inl (cI, 6, .inl d_parents)), (dA1, .inl (cI, 8, .inl (upd d_owners d_propertyCount.toNatClampNeg v1))), (dA2, .inl (cI, 8, .inl (upd d_letters d_propertyCount.toNatClampNeg v2))), (dA3, .inl (cI, 8, .inl d_sorts)), (dA4, .inl (cI, 8, .inl d_targets))] := hD
                  refine lv_aload_n hx hb dD_addProperty_85 rfl (lv_at hl 0 rfl) ?_
                  refine gf S hK hP 0 1 3 u_zD w_79 rfl rfl (by decide) rfl dD_addProperty_86 ?_
                  refine lv_aload_n hx hb dD_addProperty_89 rfl (lv_at hl 0 rfl) ?_
                  refine gf S hK hP 0 1 6 u_zD w_82 rfl rfl (by decide) rfl dD_addProperty_90 ?_
                  refine lv_iload_n hx hb dD_addProperty_93 rfl (lv_at hl 3 rfl) ?_
                  obtain ⟨b94, h⟩ := g_ok h
                  refine va_iast hx hb hK hP hD hS 4 0 rfl rfl b94 dD_addProperty_94 (fun H locs hP hD hS => ?_)
                  have hP : va_P D cs [(dA, .inr (1, [.ref dA0, .ref dA1, .ref dA2, .ref dA3, .ref dA4, .int d_classCount, .int d_propertyCount])), (dA0, .inl (cI, 6, .inl d_parents)), (dA1, .inl (cI, 8, .inl (upd d_owners d_propertyCount.toNatClampNeg v1))), (dA2, .inl (cI, 8, .inl (upd d_letters d_propertyCount.toNatClampNeg v2))), (dA3, .inl (cI, 8, .inl (upd d_sorts d_propertyCount.toNatClampNeg v3))), (dA4, .inl (cI, 8, .inl d_targets))] H := hP
                  have hD : va_D A [(dA, .inr (1, [.ref dA0, .ref dA1, .ref dA2, .ref dA3, .ref dA4, .int d_classCount, .int d_propertyCount])), (dA0, .inl (cI, 6, .inl d_parents)), (dA1, .inl (cI, 8, .inl (upd d_owners d_propertyCount.toNatClampNeg v1))), (dA2, .inl (cI, 8, .inl (upd d_letters d_propertyCount.toNatClampNeg v2))), (dA3, .inl (cI, 8, .inl (upd d_sorts d_propertyCount.toNatClampNeg v3))), (dA4, .inl (cI, 8, .inl d_targets))] := hD
                  refine lv_aload_n hx hb dD_addProperty_95 rfl (lv_at hl 0 rfl) ?_
                  refine gf S hK hP 0 1 4 u_zD w_80 rfl rfl (by decide) rfl dD_addProperty_96 ?_
                  refine lv_aload_n hx hb dD_addProperty_99 rfl (lv_at hl 0 rfl) ?_
                  refine gf S hK hP 0 1 6 u_zD w_82 rfl rfl (by decide) rfl dD_addProperty_100 ?_
                  refine lv_iload hx hb dD_addProperty_103 (lv_at hl 4 rfl) ?_
                  obtain ⟨b105, h⟩ := g_ok h
                  refine va_iast hx hb hK hP hD hS 5 0 rfl rfl b105 dD_addProperty_105 (fun H locs hP hD hS => ?_)
                  have hP : va_P D cs [(dA, .inr (1, [.ref dA0, .ref dA1, .ref dA2, .ref dA3, .ref dA4, .int d_classCount, .int d_propertyCount])), (dA0, .inl (cI, 6, .inl d_parents)), (dA1, .inl (cI, 8, .inl (upd d_owners d_propertyCount.toNatClampNeg v1))), (dA2, .inl (cI, 8, .inl (upd d_letters d_propertyCount.toNatClampNeg v2))), (dA3, .inl (cI, 8, .inl (upd d_sorts d_propertyCount.toNatClampNeg v3))), (dA4, .inl (cI, 8, .inl (upd d_targets d_propertyCount.toNatClampNeg v4)))] H := hP
                  have hD : va_D A [(dA, .inr (1, [.ref dA0, .ref dA1, .ref dA2, .ref dA3, .ref dA4, .int d_classCount, .int d_propertyCount])), (dA0, .inl (cI, 6, .inl d_parents)), (dA1, .inl (cI, 8, .inl (upd d_owners d_propertyCount.toNatClampNeg v1))), (dA2, .inl (cI, 8, .inl (upd d_letters d_propertyCount.toNatClampNeg v2))), (dA3, .inl (cI, 8, .inl (upd d_sorts d_propertyCount.toNatClampNeg v3))), (dA4, .inl (cI, 8, .inl (upd d_targets d_propertyCount.toNatClampNeg v4)))] := hD
                  refine lv_aload_n hx hb dD_addProperty_106 rfl (lv_at hl 0 rfl) ?_
                  refine lv_dup hx hb dD_addProperty_107 rfl ?_
                  refine gf S hK hP 0 1 6 u_zD w_82 rfl rfl (by decide) rfl dD_addProperty_108 ?_
                  refine lv_iconst (v := (1 : Int32)) hx hb dD_addProperty_111 (by decide) ?_
                  refine lv_iadd hx hb dD_addProperty_112 ?_
                  refine pf S hK hP hD hS 0 1 6 (v := .int (d_propertyCount + (1 : Int32))) zD_t u_zD zD_k zD_n w_82 rfl rfl (by decide) rfl rfl rfl rfl (Nat.le_of_ble_eq_true rfl) dD_addProperty_113 (fun H locs hP hD hS => ?_)
                  have hP : va_P D cs [(dA, .inr (1, [.ref dA0, .ref dA1, .ref dA2, .ref dA3, .ref dA4, .int d_classCount, .int (d_propertyCount + (1 : Int32))])), (dA0, .inl (cI, 6, .inl d_parents)), (dA1, .inl (cI, 8, .inl (upd d_owners d_propertyCount.toNatClampNeg v1))), (dA2, .inl (cI, 8, .inl (upd d_letters d_propertyCount.toNatClampNeg v2))), (dA3, .inl (cI, 8, .inl (upd d_sorts d_propertyCount.toNatClampNeg v3))), (dA4, .inl (cI, 8, .inl (upd d_targets d_propertyCount.toNatClampNeg v4)))] H := hP
                  have hD : va_D A [(dA, .inr (1, [.ref dA0, .ref dA1, .ref dA2, .ref dA3, .ref dA4, .int d_classCount, .int (d_propertyCount + (1 : Int32))])), (dA0, .inl (cI, 6, .inl d_parents)), (dA1, .inl (cI, 8, .inl (upd d_owners d_propertyCount.toNatClampNeg v1))), (dA2, .inl (cI, 8, .inl (upd d_letters d_propertyCount.toNatClampNeg v2))), (dA3, .inl (cI, 8, .inl (upd d_sorts d_propertyCount.toNatClampNeg v3))), (dA4, .inl (cI, 8, .inl (upd d_targets d_propertyCount.toNatClampNeg v4)))] := hD
                  refine lv_iconst (v := (1 : Int32)) hx hb dD_addProperty_116 (by decide) ?_
                  cases h
                  exact mu_z S hr hlocks hP hS dD_addProperty_117 rfl rfl
                · have h := g_t h h60
                  refine lv_iconst (v := (0 : Int32)) hx hb dD_addProperty_63 (by decide) ?_
                  cases h
                  exact mu_z S hr hlocks hP hS dD_addProperty_64 rfl rfl
              · have h := g_t h h42
                refine lv_aload_n hx hb dD_addProperty_45 rfl (lv_at hl 0 rfl) ?_
                refine lv_iload hx hb dD_addProperty_46 (lv_at hl 4 rfl) ?_
                obtain ⟨u48, e48, h⟩ := g_bind h
                refine pu_v S hN hK hP (rest := []) (cD_hasClass l D cI cJ dA dA0 dA1 dA2 dA3 dA4 v4 d_classCount d_propertyCount d_parents d_owners d_letters d_sorts d_targets u48 e48) k_D_34 [0, 1, 2, 3, 4, 5] rfl 1 rfl rfl ⟨rfl, rfl⟩ ⟨Nat.le_of_ble_eq_true rfl, Nat.le_of_ble_eq_true rfl⟩ rfl hl.1 (Nat.le_of_ble_eq_true rfl) ⟨Nat.le_refl _, Nat.le_refl _⟩ dD_addProperty_48 rfl ?_
                refine b_ifeq (tgt := 63) hx hb dD_addProperty_51 (by decide) (fun h51 => ?_) (fun h51 => ?_)
                · have h := g_f h h51
                  refine lv_iconst (v := (0 : Int32)) hx hb dD_addProperty_63 (by decide) ?_
                  cases h
                  exact mu_z S hr hlocks hP hS dD_addProperty_64 rfl rfl
                · have h := g_t h h51
                  refine lv_aload_n hx hb dD_addProperty_54 rfl (lv_at hl 0 rfl) ?_
                  refine lv_iload_n hx hb dD_addProperty_55 rfl (lv_at hl 1 rfl) ?_
                  refine lv_iload_n hx hb dD_addProperty_56 rfl (lv_at hl 2 rfl) ?_
                  obtain ⟨u57, e57, h⟩ := g_bind h
                  refine pu_v S hN hK hP (rest := []) (cD_isTaken l D cI cJ dA dA0 dA1 dA2 dA3 dA4 N v1 v2 d_classCount d_propertyCount d_parents d_owners d_letters d_sorts d_targets u57 e57) k_D_38 [0, 1, 2, 3, 4, 5] rfl 1 rfl rfl ⟨rfl, rfl⟩ ⟨Nat.le_of_ble_eq_true rfl, Nat.le_of_ble_eq_true rfl⟩ rfl hl.1 (Nat.le_of_ble_eq_true rfl) ⟨Nat.le_refl _, Nat.le_refl _⟩ dD_addProperty_57 rfl ?_
                  refine b_ifeq (tgt := 65) hx hb dD_addProperty_60 (by decide) (fun h60 => ?_) (fun h60 => ?_)
                  · have h := g_f h h60
                    refine lv_aload_n hx hb dD_addProperty_65 rfl (lv_at hl 0 rfl) ?_
                    refine gf S hK hP 0 1 1 u_zD w_77 rfl rfl (by decide) rfl dD_addProperty_66 ?_
                    refine lv_aload_n hx hb dD_addProperty_69 rfl (lv_at hl 0 rfl) ?_
                    refine gf S hK hP 0 1 6 u_zD w_82 rfl rfl (by decide) rfl dD_addProperty_70 ?_
                    refine lv_iload_n hx hb dD_addProperty_73 rfl (lv_at hl 1 rfl) ?_
                    obtain ⟨b74, h⟩ := g_ok h
                    refine va_iast hx hb hK hP hD hS 2 0 rfl rfl b74 dD_addProperty_74 (fun H locs hP hD hS => ?_)
                    have hP : va_P D cs [(dA, .inr (1, [.ref dA0, .ref dA1, .ref dA2, .ref dA3, .ref dA4, .int d_classCount, .int d_propertyCount])), (dA0, .inl (cI, 6, .inl d_parents)), (dA1, .inl (cI, 8, .inl (upd d_owners d_propertyCount.toNatClampNeg v1))), (dA2, .inl (cI, 8, .inl d_letters)), (dA3, .inl (cI, 8, .inl d_sorts)), (dA4, .inl (cI, 8, .inl d_targets))] H := hP
                    have hD : va_D A [(dA, .inr (1, [.ref dA0, .ref dA1, .ref dA2, .ref dA3, .ref dA4, .int d_classCount, .int d_propertyCount])), (dA0, .inl (cI, 6, .inl d_parents)), (dA1, .inl (cI, 8, .inl (upd d_owners d_propertyCount.toNatClampNeg v1))), (dA2, .inl (cI, 8, .inl d_letters)), (dA3, .inl (cI, 8, .inl d_sorts)), (dA4, .inl (cI, 8, .inl d_targets))] := hD
                    refine lv_aload_n hx hb dD_addProperty_75 rfl (lv_at hl 0 rfl) ?_
                    refine gf S hK hP 0 1 2 u_zD w_78 rfl rfl (by decide) rfl dD_addProperty_76 ?_
                    refine lv_aload_n hx hb dD_addProperty_79 rfl (lv_at hl 0 rfl) ?_
                    refine gf S hK hP 0 1 6 u_zD w_82 rfl rfl (by decide) rfl dD_addProperty_80 ?_
                    refine lv_iload_n hx hb dD_addProperty_83 rfl (lv_at hl 2 rfl) ?_
                    obtain ⟨b84, h⟩ := g_ok h
                    refine va_iast hx hb hK hP hD hS 3 0 rfl rfl b84 dD_addProperty_84 (fun H locs hP hD hS => ?_)
                    have hP : va_P D cs [(dA, .inr (1, [.ref dA0, .ref dA1, .ref dA2, .ref dA3, .ref dA4, .int d_classCount, .int d_propertyCount])), (dA0, .inl (cI, 6, .inl d_parents)), (dA1, .inl (cI, 8, .inl (upd d_owners d_propertyCount.toNatClampNeg v1))), (dA2, .inl (cI, 8, .inl (upd d_letters d_propertyCount.toNatClampNeg v2))), (dA3, .inl (cI, 8, .inl d_sorts)), (dA4, .inl (cI, 8, .inl d_targets))] H := hP
                    have hD : va_D A [(dA, .inr (1, [.ref dA0, .ref dA1, .ref dA2, .ref dA3, .ref dA4, .int d_classCount, .int d_propertyCount])), (dA0, .inl (cI, 6, .inl d_parents)), (dA1, .inl (cI, 8, .inl (upd d_owners d_propertyCount.toNatClampNeg v1))), (dA2, .inl (cI, 8, .inl (upd d_letters d_propertyCount.toNatClampNeg v2))), (dA3, .inl (cI, 8, .inl d_sorts)), (dA4, .inl (cI, 8, .inl d_targets))] := hD
                    refine lv_aload_n hx hb dD_addProperty_85 rfl (lv_at hl 0 rfl) ?_
                    refine gf S hK hP 0 1 3 u_zD w_79 rfl rfl (by decide) rfl dD_addProperty_86 ?_
                    refine lv_aload_n hx hb dD_addProperty_89 rfl (lv_at hl 0 rfl) ?_
                    refine gf S hK hP 0 1 6 u_zD w_82 rfl rfl (by decide) rfl dD_addProperty_90 ?_
                    refine lv_iload_n hx hb dD_addProperty_93 rfl (lv_at hl 3 rfl) ?_
                    obtain ⟨b94, h⟩ := g_ok h
                    refine va_iast hx hb hK hP hD hS 4 0 rfl rfl b94 dD_addProperty_94 (fun H locs hP hD hS => ?_)
                    have hP : va_P D cs [(dA, .inr (1, [.ref dA0, .ref dA1, .ref dA2, .ref dA3, .ref dA4, .int d_classCount, .int d_propertyCount])), (dA0, .inl (cI, 6, .inl d_parents)), (dA1, .inl (cI, 8, .inl (upd d_owners d_propertyCount.toNatClampNeg v1))), (dA2, .inl (cI, 8, .inl (upd d_letters d_propertyCount.toNatClampNeg v2))), (dA3, .inl (cI, 8, .inl (upd d_sorts d_propertyCount.toNatClampNeg v3))), (dA4, .inl (cI, 8, .inl d_targets))] H := hP
                    have hD : va_D A [(dA, .inr (1, [.ref dA0, .ref dA1, .ref dA2, .ref dA3, .ref dA4, .int d_classCount, .int d_propertyCount])), (dA0, .inl (cI, 6, .inl d_parents)), (dA1, .inl (cI, 8, .inl (upd d_owners d_propertyCount.toNatClampNeg v1))), (dA2, .inl (cI, 8, .inl (upd d_letters d_propertyCount.toNatClampNeg v2))), (dA3, .inl (cI, 8, .inl (upd d_sorts d_propertyCount.toNatClampNeg v3))), (dA4, .inl (cI, 8, .inl d_targets))] := hD
                    refine lv_aload_n hx hb dD_addProperty_95 rfl (lv_at hl 0 rfl) ?_
                    refine gf S hK hP 0 1 4 u_zD w_80 rfl rfl (by decide) rfl dD_addProperty_96 ?_
                    refine lv_aload_n hx hb dD_addProperty_99 rfl (lv_at hl 0 rfl) ?_
                    refine gf S hK hP 0 1 6 u_zD w_82 rfl rfl (by decide) rfl dD_addProperty_100 ?_
                    refine lv_iload hx hb dD_addProperty_103 (lv_at hl 4 rfl) ?_
                    obtain ⟨b105, h⟩ := g_ok h
                    refine va_iast hx hb hK hP hD hS 5 0 rfl rfl b105 dD_addProperty_105 (fun H locs hP hD hS => ?_)
                    have hP : va_P D cs [(dA, .inr (1, [.ref dA0, .ref dA1, .ref dA2, .ref dA3, .ref dA4, .int d_classCount, .int d_propertyCount])), (dA0, .inl (cI, 6, .inl d_parents)), (dA1, .inl (cI, 8, .inl (upd d_owners d_propertyCount.toNatClampNeg v1))), (dA2, .inl (cI, 8, .inl (upd d_letters d_propertyCount.toNatClampNeg v2))), (dA3, .inl (cI, 8, .inl (upd d_sorts d_propertyCount.toNatClampNeg v3))), (dA4, .inl (cI, 8, .inl (upd d_targets d_propertyCount.toNatClampNeg v4)))] H := hP
                    have hD : va_D A [(dA, .inr (1, [.ref dA0, .ref dA1, .ref dA2, .ref dA3, .ref dA4, .int d_classCount, .int d_propertyCount])), (dA0, .inl (cI, 6, .inl d_parents)), (dA1, .inl (cI, 8, .inl (upd d_owners d_propertyCount.toNatClampNeg v1))), (dA2, .inl (cI, 8, .inl (upd d_letters d_propertyCount.toNatClampNeg v2))), (dA3, .inl (cI, 8, .inl (upd d_sorts d_propertyCount.toNatClampNeg v3))), (dA4, .inl (cI, 8, .inl (upd d_targets d_propertyCount.toNatClampNeg v4)))] := hD
                    refine lv_aload_n hx hb dD_addProperty_106 rfl (lv_at hl 0 rfl) ?_
                    refine lv_dup hx hb dD_addProperty_107 rfl ?_
                    refine gf S hK hP 0 1 6 u_zD w_82 rfl rfl (by decide) rfl dD_addProperty_108 ?_
                    refine lv_iconst (v := (1 : Int32)) hx hb dD_addProperty_111 (by decide) ?_
                    refine lv_iadd hx hb dD_addProperty_112 ?_
                    refine pf S hK hP hD hS 0 1 6 (v := .int (d_propertyCount + (1 : Int32))) zD_t u_zD zD_k zD_n w_82 rfl rfl (by decide) rfl rfl rfl rfl (Nat.le_of_ble_eq_true rfl) dD_addProperty_113 (fun H locs hP hD hS => ?_)
                    have hP : va_P D cs [(dA, .inr (1, [.ref dA0, .ref dA1, .ref dA2, .ref dA3, .ref dA4, .int d_classCount, .int (d_propertyCount + (1 : Int32))])), (dA0, .inl (cI, 6, .inl d_parents)), (dA1, .inl (cI, 8, .inl (upd d_owners d_propertyCount.toNatClampNeg v1))), (dA2, .inl (cI, 8, .inl (upd d_letters d_propertyCount.toNatClampNeg v2))), (dA3, .inl (cI, 8, .inl (upd d_sorts d_propertyCount.toNatClampNeg v3))), (dA4, .inl (cI, 8, .inl (upd d_targets d_propertyCount.toNatClampNeg v4)))] H := hP
                    have hD : va_D A [(dA, .inr (1, [.ref dA0, .ref dA1, .ref dA2, .ref dA3, .ref dA4, .int d_classCount, .int (d_propertyCount + (1 : Int32))])), (dA0, .inl (cI, 6, .inl d_parents)), (dA1, .inl (cI, 8, .inl (upd d_owners d_propertyCount.toNatClampNeg v1))), (dA2, .inl (cI, 8, .inl (upd d_letters d_propertyCount.toNatClampNeg v2))), (dA3, .inl (cI, 8, .inl (upd d_sorts d_propertyCount.toNatClampNeg v3))), (dA4, .inl (cI, 8, .inl (upd d_targets d_propertyCount.toNatClampNeg v4)))] := hD
                    refine lv_iconst (v := (1 : Int32)) hx hb dD_addProperty_116 (by decide) ?_
                    cases h
                    exact mu_z S hr hlocks hP hS dD_addProperty_117 rfl rfl
                  · have h := g_t h h60
                    refine lv_iconst (v := (0 : Int32)) hx hb dD_addProperty_63 (by decide) ?_
                    cases h
                    exact mu_z S hr hlocks hP hS dD_addProperty_64 rfl rfl
            · have h := g_f h h35
              refine lv_iconst (v := (0 : Int32)) hx hb dD_addProperty_38 (by decide) ?_
              cases h
              exact mu_z S hr hlocks hP hS dD_addProperty_39 rfl rfl
    · have h := g_f h h14
      refine lv_iconst (v := (0 : Int32)) hx hb dD_addProperty_17 (by decide) ?_
      cases h
      exact mu_z S hr hlocks hP hS dD_addProperty_18 rfl rfl
def fD_hasProperty (v1 : Int32) (d_propertyCount : Int32) : Option (Bool) :=
  if v1 < 0 then (some (false)) else (if d_propertyCount ≤ v1 then (some (false)) else (some (true)))
set_option maxHeartbeats 4000000 in
set_option maxRecDepth 100000 in
theorem cD_hasProperty (l : Launch) (D : va_G) (cI cJ : ClassId) (dA dA0 dA1 dA2 dA3 dA4 : Nat) (v1 : Int32) (d_classCount : Int32) (d_propertyCount : Int32) (d_parents : (Nat → Int32)) (d_owners : (Nat → Int32)) (d_letters : (Nat → Int32)) (d_sorts : (Nat → Int32)) (d_targets : (Nat → Int32)) (r : Bool) (h : fD_hasProperty v1 d_propertyCount = some r) : Pu l yD_hasProperty bD_hasProperty 2 (some .boolean) (rL 0) [.ref dA, .int v1] D cI cJ [(dA, .inr (1, [.ref dA0, .ref dA1, .ref dA2, .ref dA3, .ref dA4, .int d_classCount, .int d_propertyCount])), (dA0, .inl (cI, 6, .inl d_parents)), (dA1, .inl (cI, 8, .inl d_owners)), (dA2, .inl (cI, 8, .inl d_letters)), (dA3, .inl (cI, 8, .inl d_sorts)), (dA4, .inl (cI, 8, .inl d_targets))] (.int (bI r)) := by
  refine pu_of (by decide) (Nat.le_of_ble_eq_true rfl) ?_
  intro p e s m below meth c ls S hr hlocks hN hK hP hl
  have hx := S.1
  have hb := S.2.1
  have hl : lv_has ls 2 [(0, .ref dA), (1, .int v1)] := hl
  unfold fD_hasProperty at h
  refine lv_iload_n hx hb dD_hasProperty_0 rfl (lv_at hl 1 rfl) ?_
  refine lv_if_lt (tgt := 16) hx hb dD_hasProperty_1 (by decide) (fun h1 => ?_) (fun h1 => ?_)
  · have h := g_t h h1
    refine lv_iconst (v := (0 : Int32)) hx hb dD_hasProperty_16 (by decide) ?_
    cases h
    exact pu_z S hr hlocks dD_hasProperty_17 rfl
  · have h := g_f h h1
    refine lv_iload_n hx hb dD_hasProperty_4 rfl (lv_at hl 1 rfl) ?_
    refine lv_aload_n hx hb dD_hasProperty_5 rfl (lv_at hl 0 rfl) ?_
    refine gf S hK hP 0 1 6 u_zD w_82 rfl rfl (by decide) rfl dD_hasProperty_6 ?_
    refine lv_icmp_ge (tgt := 16) hx hb dD_hasProperty_9 (by decide) (fun h9 => ?_) (fun h9 => ?_)
    · have h := g_t h h9
      refine lv_iconst (v := (0 : Int32)) hx hb dD_hasProperty_16 (by decide) ?_
      cases h
      exact pu_z S hr hlocks dD_hasProperty_17 rfl
    · have h := g_f h h9
      refine lv_iconst (v := (1 : Int32)) hx hb dD_hasProperty_12 (by decide) ?_
      refine lv_goto (tgt := 17) hx hb dD_hasProperty_13 (by decide) ?_
      cases h
      exact pu_z S hr hlocks dD_hasProperty_17 rfl
def fD_sort (v1 : Int32) (d_propertyCount : Int32) (d_sorts : (Nat → Int32)) : Option (Int32) :=
  (fD_hasProperty v1 d_propertyCount).bind fun u2 => (if u2 = true then (if ok v1 8 = true then (some (d_sorts v1.toNatClampNeg)) else none) else (some ((-1 : Int32))))
set_option maxHeartbeats 4000000 in
set_option maxRecDepth 100000 in
theorem cD_sort (l : Launch) (D : va_G) (cI cJ : ClassId) (dA dA0 dA1 dA2 dA3 dA4 : Nat) (v1 : Int32) (d_classCount : Int32) (d_propertyCount : Int32) (d_parents : (Nat → Int32)) (d_owners : (Nat → Int32)) (d_letters : (Nat → Int32)) (d_sorts : (Nat → Int32)) (d_targets : (Nat → Int32)) (r : Int32) (h : fD_sort v1 d_propertyCount d_sorts = some r) : Pu l yD_sort bD_sort 2 (some .int) (rL 1) [.ref dA, .int v1] D cI cJ [(dA, .inr (1, [.ref dA0, .ref dA1, .ref dA2, .ref dA3, .ref dA4, .int d_classCount, .int d_propertyCount])), (dA0, .inl (cI, 6, .inl d_parents)), (dA1, .inl (cI, 8, .inl d_owners)), (dA2, .inl (cI, 8, .inl d_letters)), (dA3, .inl (cI, 8, .inl d_sorts)), (dA4, .inl (cI, 8, .inl d_targets))] (.int r) := by
  refine pu_of (by decide) (Nat.le_of_ble_eq_true rfl) ?_
  intro p e s m below meth c ls S hr hlocks hN hK hP hl
  have hx := S.1
  have hb := S.2.1
  have hl : lv_has ls 2 [(0, .ref dA), (1, .int v1)] := hl
  unfold fD_sort at h
  refine lv_aload_n hx hb dD_sort_0 rfl (lv_at hl 0 rfl) ?_
  refine lv_iload_n hx hb dD_sort_1 rfl (lv_at hl 1 rfl) ?_
  obtain ⟨u2, e2, h⟩ := g_bind h
  refine pu_v S hN hK hP (rest := []) (cD_hasProperty l D cI cJ dA dA0 dA1 dA2 dA3 dA4 v1 d_classCount d_propertyCount d_parents d_owners d_letters d_sorts d_targets u2 e2) k_D_45 [0, 1, 2, 3, 4, 5] rfl 1 rfl rfl ⟨rfl, rfl⟩ ⟨Nat.le_of_ble_eq_true rfl, Nat.le_of_ble_eq_true rfl⟩ rfl hl.1 (Nat.le_of_ble_eq_true rfl) ⟨Nat.le_refl _, Nat.le_refl _⟩ dD_sort_2 rfl ?_
  refine b_ifeq (tgt := 17) hx hb dD_sort_5 (by decide) (fun h5 => ?_) (fun h5 => ?_)
  · have h := g_f h h5
    refine lv_iconst (v := (-1 : Int32)) hx hb dD_sort_17 (by decide) ?_
    cases h
    exact pu_i S hr hlocks dD_sort_18 rfl
  · have h := g_t h h5
    refine lv_aload_n hx hb dD_sort_8 rfl (lv_at hl 0 rfl) ?_
    refine gf S hK hP 0 1 3 u_zD w_79 rfl rfl (by decide) rfl dD_sort_9 ?_
    refine lv_iload_n hx hb dD_sort_12 rfl (lv_at hl 1 rfl) ?_
    obtain ⟨b13, h⟩ := g_ok h
    refine va_iald hx hb hK hP 4 0 rfl rfl b13 dD_sort_13 ?_
    refine lv_goto (tgt := 18) hx hb dD_sort_14 (by decide) ?_
    cases h
    exact pu_i S hr hlocks dD_sort_18 rfl
def fD_allowsType (v1 : Int32) (v2 : Int32) (d_propertyCount : Int32) (d_sorts : (Nat → Int32)) : Option (Bool) :=
  (fD_sort v1 d_propertyCount d_sorts).bind fun u2 => (if u2 = (0 : Int32) then (if v2 = (16 : Int32) then (some (true)) else (some (false))) else (if u2 = (1 : Int32) then (if v2 = (18 : Int32) then (some (true)) else (if v2 = (16 : Int32) then (some (true)) else (some (false)))) else (if u2 = (2 : Int32) then (if v2 = (8 : Int32) then (some (true)) else (some (false))) else (if u2 = (3 : Int32) then (if v2 = (10 : Int32) then (some (true)) else (if v2 = (3 : Int32) then (some (true)) else (some (false)))) else (some (false))))))
set_option maxHeartbeats 4000000 in
set_option maxRecDepth 100000 in
theorem cD_allowsType (l : Launch) (D : va_G) (cI cJ : ClassId) (dA dA0 dA1 dA2 dA3 dA4 : Nat) (v1 : Int32) (v2 : Int32) (d_classCount : Int32) (d_propertyCount : Int32) (d_parents : (Nat → Int32)) (d_owners : (Nat → Int32)) (d_letters : (Nat → Int32)) (d_sorts : (Nat → Int32)) (d_targets : (Nat → Int32)) (r : Bool) (h : fD_allowsType v1 v2 d_propertyCount d_sorts = some r) : Pu l yD_allowsType bD_allowsType 3 (some .boolean) (rL 2) [.ref dA, .int v1, .int v2] D cI cJ [(dA, .inr (1, [.ref dA0, .ref dA1, .ref dA2, .ref dA3, .ref dA4, .int d_classCount, .int d_propertyCount])), (dA0, .inl (cI, 6, .inl d_parents)), (dA1, .inl (cI, 8, .inl d_owners)), (dA2, .inl (cI, 8, .inl d_letters)), (dA3, .inl (cI, 8, .inl d_sorts)), (dA4, .inl (cI, 8, .inl d_targets))] (.int (bI r)) := by
  refine pu_of (by decide) (Nat.le_of_ble_eq_true rfl) ?_
  intro p e s m below meth c ls S hr hlocks hN hK hP hl
  have hx := S.1
  have hb := S.2.1
  have hl : lv_has ls 3 [(0, .ref dA), (1, .int v1), (2, .int v2)] := hl
  unfold fD_allowsType at h
  refine lv_aload_n hx hb dD_allowsType_0 rfl (lv_at hl 0 rfl) ?_
  refine lv_iload_n hx hb dD_allowsType_1 rfl (lv_at hl 1 rfl) ?_
  obtain ⟨u2, e2, h⟩ := g_bind h
  refine pu_v S hN hK hP (rest := []) (cD_sort l D cI cJ dA dA0 dA1 dA2 dA3 dA4 v1 d_classCount d_propertyCount d_parents d_owners d_letters d_sorts d_targets u2 e2) k_D_48 [0, 1, 2, 3, 4, 5] rfl 1 rfl rfl ⟨rfl, rfl⟩ ⟨Nat.le_of_ble_eq_true rfl, Nat.le_of_ble_eq_true rfl⟩ rfl hl.1 (Nat.le_of_ble_eq_true rfl) ⟨Nat.le_refl _, Nat.le_refl _⟩ dD_allowsType_2 rfl ?_
  by_cases h5_0 : u2 = (0 : Int32)
  · have h := g_t h h5_0
    refine lv_tableIn (off := 31) (tgt := 36) hx hb dD_allowsType_5 (by rw [h5_0]; decide) (by rw [h5_0]; decide) (by rw [h5_0]; rfl) (by decide) ?_
    refine lv_iload_n hx hb dD_allowsType_36 rfl (lv_at hl 2 rfl) ?_
    refine lv_bipush (v := (16 : Int32)) hx hb dD_allowsType_37 (by decide) ?_
    refine lv_icmp_ne (tgt := 46) hx hb dD_allowsType_39 (by decide) (fun h39 => ?_) (fun h39 => ?_)
    · have h := g_f h h39
      refine lv_iconst (v := (0 : Int32)) hx hb dD_allowsType_46 (by decide) ?_
      cases h
      exact pu_z S hr hlocks dD_allowsType_47 rfl
    · have h := g_t h h39
      refine lv_iconst (v := (1 : Int32)) hx hb dD_allowsType_42 (by decide) ?_
      refine lv_goto (tgt := 47) hx hb dD_allowsType_43 (by decide) ?_
      cases h
      exact pu_z S hr hlocks dD_allowsType_47 rfl
  have h := g_f h h5_0
  by_cases h5_1 : u2 = (1 : Int32)
  · have h := g_t h h5_1
    refine lv_tableIn (off := 43) (tgt := 48) hx hb dD_allowsType_5 (by rw [h5_1]; decide) (by rw [h5_1]; decide) (by rw [h5_1]; rfl) (by decide) ?_
    refine lv_iload_n hx hb dD_allowsType_48 rfl (lv_at hl 2 rfl) ?_
    refine lv_bipush (v := (18 : Int32)) hx hb dD_allowsType_49 (by decide) ?_
    refine lv_icmp_eq (tgt := 60) hx hb dD_allowsType_51 (by decide) (fun h51 => ?_) (fun h51 => ?_)
    · have h := g_t h h51
      refine lv_iconst (v := (1 : Int32)) hx hb dD_allowsType_60 (by decide) ?_
      refine lv_goto (tgt := 65) hx hb dD_allowsType_61 (by decide) ?_
      cases h
      exact pu_z S hr hlocks dD_allowsType_65 rfl
    · have h := g_f h h51
      refine lv_iload_n hx hb dD_allowsType_54 rfl (lv_at hl 2 rfl) ?_
      refine lv_bipush (v := (16 : Int32)) hx hb dD_allowsType_55 (by decide) ?_
      refine lv_icmp_ne (tgt := 64) hx hb dD_allowsType_57 (by decide) (fun h57 => ?_) (fun h57 => ?_)
      · have h := g_f h h57
        refine lv_iconst (v := (0 : Int32)) hx hb dD_allowsType_64 (by decide) ?_
        cases h
        exact pu_z S hr hlocks dD_allowsType_65 rfl
      · have h := g_t h h57
        refine lv_iconst (v := (1 : Int32)) hx hb dD_allowsType_60 (by decide) ?_
        refine lv_goto (tgt := 65) hx hb dD_allowsType_61 (by decide) ?_
        cases h
        exact pu_z S hr hlocks dD_allowsType_65 rfl
  have h := g_f h h5_1
  by_cases h5_2 : u2 = (2 : Int32)
  · have h := g_t h h5_2
    refine lv_tableIn (off := 61) (tgt := 66) hx hb dD_allowsType_5 (by rw [h5_2]; decide) (by rw [h5_2]; decide) (by rw [h5_2]; rfl) (by decide) ?_
    refine lv_iload_n hx hb dD_allowsType_66 rfl (lv_at hl 2 rfl) ?_
    refine lv_bipush (v := (8 : Int32)) hx hb dD_allowsType_67 (by decide) ?_
    refine lv_icmp_ne (tgt := 76) hx hb dD_allowsType_69 (by decide) (fun h69 => ?_) (fun h69 => ?_)
    · have h := g_f h h69
      refine lv_iconst (v := (0 : Int32)) hx hb dD_allowsType_76 (by decide) ?_
      cases h
      exact pu_z S hr hlocks dD_allowsType_77 rfl
    · have h := g_t h h69
      refine lv_iconst (v := (1 : Int32)) hx hb dD_allowsType_72 (by decide) ?_
      refine lv_goto (tgt := 77) hx hb dD_allowsType_73 (by decide) ?_
      cases h
      exact pu_z S hr hlocks dD_allowsType_77 rfl
  have h := g_f h h5_2
  by_cases h5_3 : u2 = (3 : Int32)
  · have h := g_t h h5_3
    refine lv_tableIn (off := 73) (tgt := 78) hx hb dD_allowsType_5 (by rw [h5_3]; decide) (by rw [h5_3]; decide) (by rw [h5_3]; rfl) (by decide) ?_
    refine lv_iload_n hx hb dD_allowsType_78 rfl (lv_at hl 2 rfl) ?_
    refine lv_bipush (v := (10 : Int32)) hx hb dD_allowsType_79 (by decide) ?_
    refine lv_icmp_eq (tgt := 89) hx hb dD_allowsType_81 (by decide) (fun h81 => ?_) (fun h81 => ?_)
    · have h := g_t h h81
      refine lv_iconst (v := (1 : Int32)) hx hb dD_allowsType_89 (by decide) ?_
      refine lv_goto (tgt := 94) hx hb dD_allowsType_90 (by decide) ?_
      cases h
      exact pu_z S hr hlocks dD_allowsType_94 rfl
    · have h := g_f h h81
      refine lv_iload_n hx hb dD_allowsType_84 rfl (lv_at hl 2 rfl) ?_
      refine lv_iconst (v := (3 : Int32)) hx hb dD_allowsType_85 (by decide) ?_
      refine lv_icmp_ne (tgt := 93) hx hb dD_allowsType_86 (by decide) (fun h86 => ?_) (fun h86 => ?_)
      · have h := g_f h h86
        refine lv_iconst (v := (0 : Int32)) hx hb dD_allowsType_93 (by decide) ?_
        cases h
        exact pu_z S hr hlocks dD_allowsType_94 rfl
      · have h := g_t h h86
        refine lv_iconst (v := (1 : Int32)) hx hb dD_allowsType_89 (by decide) ?_
        refine lv_goto (tgt := 94) hx hb dD_allowsType_90 (by decide) ?_
        cases h
        exact pu_z S hr hlocks dD_allowsType_94 rfl
  have h := g_f h h5_3
  refine lv_tableD (tgt := 95) hx hb dD_allowsType_5 (fun q1 q2 => by have a0 := lv_neT h5_0 (a := 0) (by decide); have a1 := lv_neT h5_1 (a := 1) (by decide); have a2 := lv_neT h5_2 (a := 2) (by decide); have a3 := lv_neT h5_3 (a := 3) (by decide); exfalso; omega) (by decide) ?_
  refine lv_iconst (v := (0 : Int32)) hx hb dD_allowsType_95 (by decide) ?_
  cases h
  exact pu_z S hr hlocks dD_allowsType_96 rfl
def fD_allowsValue (v1 : Int32) (v2 : Int64) (d_propertyCount : Int32) (d_sorts : (Nat → Int32)) : Option (Bool) :=
  (fD_sort v1 d_propertyCount d_sorts).bind fun u2 => (if u2 = (0 : Int32) then (if (lg_cmp v2 v2.toInt32.toInt64) = 0 then (some (true)) else (some (false))) else (if u2 = (1 : Int32) then (some (true)) else (if u2 = (2 : Int32) then (if (lg_cmp v2 (0 : Int64)) = 0 then (some (true)) else (if (lg_cmp v2 (1 : Int64)) = 0 then (some (true)) else (some (false)))) else (some (false)))))
set_option maxHeartbeats 4000000 in
set_option maxRecDepth 100000 in
theorem cD_allowsValue (l : Launch) (D : va_G) (cI cJ : ClassId) (dA dA0 dA1 dA2 dA3 dA4 : Nat) (v1 : Int32) (v2 : Int64) (d_classCount : Int32) (d_propertyCount : Int32) (d_parents : (Nat → Int32)) (d_owners : (Nat → Int32)) (d_letters : (Nat → Int32)) (d_sorts : (Nat → Int32)) (d_targets : (Nat → Int32)) (r : Bool) (h : fD_allowsValue v1 v2 d_propertyCount d_sorts = some r) : Pu l yD_allowsValue bD_allowsValue 4 (some .boolean) (rL 2) [.ref dA, .int v1, .long v2] D cI cJ [(dA, .inr (1, [.ref dA0, .ref dA1, .ref dA2, .ref dA3, .ref dA4, .int d_classCount, .int d_propertyCount])), (dA0, .inl (cI, 6, .inl d_parents)), (dA1, .inl (cI, 8, .inl d_owners)), (dA2, .inl (cI, 8, .inl d_letters)), (dA3, .inl (cI, 8, .inl d_sorts)), (dA4, .inl (cI, 8, .inl d_targets))] (.int (bI r)) := by
  refine pu_of (by decide) (Nat.le_of_ble_eq_true rfl) ?_
  intro p e s m below meth c ls S hr hlocks hN hK hP hl
  have hx := S.1
  have hb := S.2.1
  have hl : lv_has ls 4 [(0, .ref dA), (1, .int v1), (2, .long v2)] := hl
  unfold fD_allowsValue at h
  refine lv_aload_n hx hb dD_allowsValue_0 rfl (lv_at hl 0 rfl) ?_
  refine lv_iload_n hx hb dD_allowsValue_1 rfl (lv_at hl 1 rfl) ?_
  obtain ⟨u2, e2, h⟩ := g_bind h
  refine pu_v S hN hK hP (rest := []) (cD_sort l D cI cJ dA dA0 dA1 dA2 dA3 dA4 v1 d_classCount d_propertyCount d_parents d_owners d_letters d_sorts d_targets u2 e2) k_D_48 [0, 1, 2, 3, 4, 5] rfl 1 rfl rfl ⟨rfl, rfl⟩ ⟨Nat.le_of_ble_eq_true rfl, Nat.le_of_ble_eq_true rfl⟩ rfl hl.1 (Nat.le_of_ble_eq_true rfl) ⟨Nat.le_refl _, Nat.le_refl _⟩ dD_allowsValue_2 rfl ?_
  by_cases h5_0 : u2 = (0 : Int32)
  · have h := g_t h h5_0
    refine lv_tableIn (off := 27) (tgt := 32) hx hb dD_allowsValue_5 (by rw [h5_0]; decide) (by rw [h5_0]; decide) (by rw [h5_0]; rfl) (by decide) ?_
    refine lv_lload_n hx hb dD_allowsValue_32 rfl (lv_at hl 2 rfl) ?_
    refine lv_lload_n hx hb dD_allowsValue_33 rfl (lv_at hl 2 rfl) ?_
    refine lv_l2i hx hb dD_allowsValue_34 rfl ?_
    refine lv_i2l hx hb dD_allowsValue_35 rfl ?_
    refine W.lcmp hx hb dD_allowsValue_36 ?_
    refine lv_if_ne (tgt := 44) hx hb dD_allowsValue_37 (by decide) (fun h37 => ?_) (fun h37 => ?_)
    · have h := g_f h h37
      refine lv_iconst (v := (0 : Int32)) hx hb dD_allowsValue_44 (by decide) ?_
      cases h
      exact pu_z S hr hlocks dD_allowsValue_45 rfl
    · have h := g_t h h37
      refine lv_iconst (v := (1 : Int32)) hx hb dD_allowsValue_40 (by decide) ?_
      refine lv_goto (tgt := 45) hx hb dD_allowsValue_41 (by decide) ?_
      cases h
      exact pu_z S hr hlocks dD_allowsValue_45 rfl
  have h := g_f h h5_0
  by_cases h5_1 : u2 = (1 : Int32)
  · have h := g_t h h5_1
    refine lv_tableIn (off := 41) (tgt := 46) hx hb dD_allowsValue_5 (by rw [h5_1]; decide) (by rw [h5_1]; decide) (by rw [h5_1]; rfl) (by decide) ?_
    refine lv_iconst (v := (1 : Int32)) hx hb dD_allowsValue_46 (by decide) ?_
    cases h
    exact pu_z S hr hlocks dD_allowsValue_47 rfl
  have h := g_f h h5_1
  by_cases h5_2 : u2 = (2 : Int32)
  · have h := g_t h h5_2
    refine lv_tableIn (off := 43) (tgt := 48) hx hb dD_allowsValue_5 (by rw [h5_2]; decide) (by rw [h5_2]; decide) (by rw [h5_2]; rfl) (by decide) ?_
    refine lv_lload_n hx hb dD_allowsValue_48 rfl (lv_at hl 2 rfl) ?_
    refine lv_lconst (v := (0 : Int64)) hx hb dD_allowsValue_49 (by decide) ?_
    refine W.lcmp hx hb dD_allowsValue_50 ?_
    refine lv_if_eq (tgt := 60) hx hb dD_allowsValue_51 (by decide) (fun h51 => ?_) (fun h51 => ?_)
    · have h := g_t h h51
      refine lv_iconst (v := (1 : Int32)) hx hb dD_allowsValue_60 (by decide) ?_
      refine lv_goto (tgt := 65) hx hb dD_allowsValue_61 (by decide) ?_
      cases h
      exact pu_z S hr hlocks dD_allowsValue_65 rfl
    · have h := g_f h h51
      refine lv_lload_n hx hb dD_allowsValue_54 rfl (lv_at hl 2 rfl) ?_
      refine lv_lconst (v := (1 : Int64)) hx hb dD_allowsValue_55 (by decide) ?_
      refine W.lcmp hx hb dD_allowsValue_56 ?_
      refine lv_if_ne (tgt := 64) hx hb dD_allowsValue_57 (by decide) (fun h57 => ?_) (fun h57 => ?_)
      · have h := g_f h h57
        refine lv_iconst (v := (0 : Int32)) hx hb dD_allowsValue_64 (by decide) ?_
        cases h
        exact pu_z S hr hlocks dD_allowsValue_65 rfl
      · have h := g_t h h57
        refine lv_iconst (v := (1 : Int32)) hx hb dD_allowsValue_60 (by decide) ?_
        refine lv_goto (tgt := 65) hx hb dD_allowsValue_61 (by decide) ?_
        cases h
        exact pu_z S hr hlocks dD_allowsValue_65 rfl
  have h := g_f h h5_2
  refine lv_tableD (tgt := 66) hx hb dD_allowsValue_5 (fun q1 q2 => by have a0 := lv_neT h5_0 (a := 0) (by decide); have a1 := lv_neT h5_1 (a := 1) (by decide); have a2 := lv_neT h5_2 (a := 2) (by decide); exfalso; omega) (by decide) ?_
  refine lv_iconst (v := (0 : Int32)) hx hb dD_allowsValue_66 (by decide) ?_
  cases h
  exact pu_z S hr hlocks dD_allowsValue_67 rfl
def fD_isLink (v1 : Int32) (d_propertyCount : Int32) (d_sorts : (Nat → Int32)) : Option (Bool) :=
  (fD_sort v1 d_propertyCount d_sorts).bind fun u2 => (if u2 = (3 : Int32) then (some (true)) else (some (false)))
set_option maxHeartbeats 4000000 in
set_option maxRecDepth 100000 in
theorem cD_isLink (l : Launch) (D : va_G) (cI cJ : ClassId) (dA dA0 dA1 dA2 dA3 dA4 : Nat) (v1 : Int32) (d_classCount : Int32) (d_propertyCount : Int32) (d_parents : (Nat → Int32)) (d_owners : (Nat → Int32)) (d_letters : (Nat → Int32)) (d_sorts : (Nat → Int32)) (d_targets : (Nat → Int32)) (r : Bool) (h : fD_isLink v1 d_propertyCount d_sorts = some r) : Pu l yD_isLink bD_isLink 2 (some .boolean) (rL 2) [.ref dA, .int v1] D cI cJ [(dA, .inr (1, [.ref dA0, .ref dA1, .ref dA2, .ref dA3, .ref dA4, .int d_classCount, .int d_propertyCount])), (dA0, .inl (cI, 6, .inl d_parents)), (dA1, .inl (cI, 8, .inl d_owners)), (dA2, .inl (cI, 8, .inl d_letters)), (dA3, .inl (cI, 8, .inl d_sorts)), (dA4, .inl (cI, 8, .inl d_targets))] (.int (bI r)) := by
  refine pu_of (by decide) (Nat.le_of_ble_eq_true rfl) ?_
  intro p e s m below meth c ls S hr hlocks hN hK hP hl
  have hx := S.1
  have hb := S.2.1
  have hl : lv_has ls 2 [(0, .ref dA), (1, .int v1)] := hl
  unfold fD_isLink at h
  refine lv_aload_n hx hb dD_isLink_0 rfl (lv_at hl 0 rfl) ?_
  refine lv_iload_n hx hb dD_isLink_1 rfl (lv_at hl 1 rfl) ?_
  obtain ⟨u2, e2, h⟩ := g_bind h
  refine pu_v S hN hK hP (rest := []) (cD_sort l D cI cJ dA dA0 dA1 dA2 dA3 dA4 v1 d_classCount d_propertyCount d_parents d_owners d_letters d_sorts d_targets u2 e2) k_D_48 [0, 1, 2, 3, 4, 5] rfl 1 rfl rfl ⟨rfl, rfl⟩ ⟨Nat.le_of_ble_eq_true rfl, Nat.le_of_ble_eq_true rfl⟩ rfl hl.1 (Nat.le_of_ble_eq_true rfl) ⟨Nat.le_refl _, Nat.le_refl _⟩ dD_isLink_2 rfl ?_
  refine lv_iconst (v := (3 : Int32)) hx hb dD_isLink_5 (by decide) ?_
  refine lv_icmp_ne (tgt := 13) hx hb dD_isLink_6 (by decide) (fun h6 => ?_) (fun h6 => ?_)
  · have h := g_f h h6
    refine lv_iconst (v := (0 : Int32)) hx hb dD_isLink_13 (by decide) ?_
    cases h
    exact pu_z S hr hlocks dD_isLink_14 rfl
  · have h := g_t h h6
    refine lv_iconst (v := (1 : Int32)) hx hb dD_isLink_9 (by decide) ?_
    refine lv_goto (tgt := 14) hx hb dD_isLink_10 (by decide) ?_
    cases h
    exact pu_z S hr hlocks dD_isLink_14 rfl
def fD_isOwn (v1 : Int32) (v2 : Int32) (d_propertyCount : Int32) (d_owners : (Nat → Int32)) : Option (Bool) :=
  (fD_hasProperty v1 d_propertyCount).bind fun u2 => (if u2 = true then (if ok v1 8 = true then (if (d_owners v1.toNatClampNeg) = v2 then (some (true)) else (some (false))) else none) else (some (false)))
set_option maxHeartbeats 4000000 in
set_option maxRecDepth 100000 in
theorem cD_isOwn (l : Launch) (D : va_G) (cI cJ : ClassId) (dA dA0 dA1 dA2 dA3 dA4 : Nat) (v1 : Int32) (v2 : Int32) (d_classCount : Int32) (d_propertyCount : Int32) (d_parents : (Nat → Int32)) (d_owners : (Nat → Int32)) (d_letters : (Nat → Int32)) (d_sorts : (Nat → Int32)) (d_targets : (Nat → Int32)) (r : Bool) (h : fD_isOwn v1 v2 d_propertyCount d_owners = some r) : Pu l yD_isOwn bD_isOwn 3 (some .boolean) (rL 1) [.ref dA, .int v1, .int v2] D cI cJ [(dA, .inr (1, [.ref dA0, .ref dA1, .ref dA2, .ref dA3, .ref dA4, .int d_classCount, .int d_propertyCount])), (dA0, .inl (cI, 6, .inl d_parents)), (dA1, .inl (cI, 8, .inl d_owners)), (dA2, .inl (cI, 8, .inl d_letters)), (dA3, .inl (cI, 8, .inl d_sorts)), (dA4, .inl (cI, 8, .inl d_targets))] (.int (bI r)) := by
  refine pu_of (by decide) (Nat.le_of_ble_eq_true rfl) ?_
  intro p e s m below meth c ls S hr hlocks hN hK hP hl
  have hx := S.1
  have hb := S.2.1
  have hl : lv_has ls 3 [(0, .ref dA), (1, .int v1), (2, .int v2)] := hl
  unfold fD_isOwn at h
  refine lv_aload_n hx hb dD_isOwn_0 rfl (lv_at hl 0 rfl) ?_
  refine lv_iload_n hx hb dD_isOwn_1 rfl (lv_at hl 1 rfl) ?_
  obtain ⟨u2, e2, h⟩ := g_bind h
  refine pu_v S hN hK hP (rest := []) (cD_hasProperty l D cI cJ dA dA0 dA1 dA2 dA3 dA4 v1 d_classCount d_propertyCount d_parents d_owners d_letters d_sorts d_targets u2 e2) k_D_45 [0, 1, 2, 3, 4, 5] rfl 1 rfl rfl ⟨rfl, rfl⟩ ⟨Nat.le_of_ble_eq_true rfl, Nat.le_of_ble_eq_true rfl⟩ rfl hl.1 (Nat.le_of_ble_eq_true rfl) ⟨Nat.le_refl _, Nat.le_refl _⟩ dD_isOwn_2 rfl ?_
  refine b_ifeq (tgt := 22) hx hb dD_isOwn_5 (by decide) (fun h5 => ?_) (fun h5 => ?_)
  · have h := g_f h h5
    refine lv_iconst (v := (0 : Int32)) hx hb dD_isOwn_22 (by decide) ?_
    cases h
    exact pu_z S hr hlocks dD_isOwn_23 rfl
  · have h := g_t h h5
    refine lv_aload_n hx hb dD_isOwn_8 rfl (lv_at hl 0 rfl) ?_
    refine gf S hK hP 0 1 1 u_zD w_77 rfl rfl (by decide) rfl dD_isOwn_9 ?_
    refine lv_iload_n hx hb dD_isOwn_12 rfl (lv_at hl 1 rfl) ?_
    obtain ⟨b13, h⟩ := g_ok h
    refine va_iald hx hb hK hP 2 0 rfl rfl b13 dD_isOwn_13 ?_
    refine lv_iload_n hx hb dD_isOwn_14 rfl (lv_at hl 2 rfl) ?_
    refine lv_icmp_ne (tgt := 22) hx hb dD_isOwn_15 (by decide) (fun h15 => ?_) (fun h15 => ?_)
    · have h := g_f h h15
      refine lv_iconst (v := (0 : Int32)) hx hb dD_isOwn_22 (by decide) ?_
      cases h
      exact pu_z S hr hlocks dD_isOwn_23 rfl
    · have h := g_t h h15
      refine lv_iconst (v := (1 : Int32)) hx hb dD_isOwn_18 (by decide) ?_
      refine lv_goto (tgt := 23) hx hb dD_isOwn_19 (by decide) ?_
      cases h
      exact pu_z S hr hlocks dD_isOwn_23 rfl
def fD_letter (v1 : Int32) (d_propertyCount : Int32) (d_letters : (Nat → Int32)) : Option (Int32) :=
  (fD_hasProperty v1 d_propertyCount).bind fun u2 => (if u2 = true then (if ok v1 8 = true then (some (d_letters v1.toNatClampNeg)) else none) else (some ((-1 : Int32))))
set_option maxHeartbeats 4000000 in
set_option maxRecDepth 100000 in
theorem cD_letter (l : Launch) (D : va_G) (cI cJ : ClassId) (dA dA0 dA1 dA2 dA3 dA4 : Nat) (v1 : Int32) (d_classCount : Int32) (d_propertyCount : Int32) (d_parents : (Nat → Int32)) (d_owners : (Nat → Int32)) (d_letters : (Nat → Int32)) (d_sorts : (Nat → Int32)) (d_targets : (Nat → Int32)) (r : Int32) (h : fD_letter v1 d_propertyCount d_letters = some r) : Pu l yD_letter bD_letter 2 (some .int) (rL 1) [.ref dA, .int v1] D cI cJ [(dA, .inr (1, [.ref dA0, .ref dA1, .ref dA2, .ref dA3, .ref dA4, .int d_classCount, .int d_propertyCount])), (dA0, .inl (cI, 6, .inl d_parents)), (dA1, .inl (cI, 8, .inl d_owners)), (dA2, .inl (cI, 8, .inl d_letters)), (dA3, .inl (cI, 8, .inl d_sorts)), (dA4, .inl (cI, 8, .inl d_targets))] (.int r) := by
  refine pu_of (by decide) (Nat.le_of_ble_eq_true rfl) ?_
  intro p e s m below meth c ls S hr hlocks hN hK hP hl
  have hx := S.1
  have hb := S.2.1
  have hl : lv_has ls 2 [(0, .ref dA), (1, .int v1)] := hl
  unfold fD_letter at h
  refine lv_aload_n hx hb dD_letter_0 rfl (lv_at hl 0 rfl) ?_
  refine lv_iload_n hx hb dD_letter_1 rfl (lv_at hl 1 rfl) ?_
  obtain ⟨u2, e2, h⟩ := g_bind h
  refine pu_v S hN hK hP (rest := []) (cD_hasProperty l D cI cJ dA dA0 dA1 dA2 dA3 dA4 v1 d_classCount d_propertyCount d_parents d_owners d_letters d_sorts d_targets u2 e2) k_D_45 [0, 1, 2, 3, 4, 5] rfl 1 rfl rfl ⟨rfl, rfl⟩ ⟨Nat.le_of_ble_eq_true rfl, Nat.le_of_ble_eq_true rfl⟩ rfl hl.1 (Nat.le_of_ble_eq_true rfl) ⟨Nat.le_refl _, Nat.le_refl _⟩ dD_letter_2 rfl ?_
  refine b_ifeq (tgt := 17) hx hb dD_letter_5 (by decide) (fun h5 => ?_) (fun h5 => ?_)
  · have h := g_f h h5
    refine lv_iconst (v := (-1 : Int32)) hx hb dD_letter_17 (by decide) ?_
    cases h
    exact pu_i S hr hlocks dD_letter_18 rfl
  · have h := g_t h h5
    refine lv_aload_n hx hb dD_letter_8 rfl (lv_at hl 0 rfl) ?_
    refine gf S hK hP 0 1 2 u_zD w_78 rfl rfl (by decide) rfl dD_letter_9 ?_
    refine lv_iload_n hx hb dD_letter_12 rfl (lv_at hl 1 rfl) ?_
    obtain ⟨b13, h⟩ := g_ok h
    refine va_iald hx hb hK hP 3 0 rfl rfl b13 dD_letter_13 ?_
    refine lv_goto (tgt := 18) hx hb dD_letter_14 (by decide) ?_
    cases h
    exact pu_i S hr hlocks dD_letter_18 rfl
def fD_propertyOf_2 (N : Nat) (v1 : Int32) (v2 : Int32) (d_classCount : Int32) (d_propertyCount : Int32) (d_parents : (Nat → Int32)) (d_owners : (Nat → Int32)) (d_letters : (Nat → Int32)) (rc2 : Int32 → Option (Int32)) (v3 : Int32) : Option (Int32) :=
  if d_propertyCount ≤ v3 then (some ((-1 : Int32))) else (if ok v3 8 = true then (if (d_letters v3.toNatClampNeg) = v2 then (if ok v3 8 = true then ((fD_isKindOf N v1 (d_owners v3.toNatClampNeg) d_classCount d_parents).bind fun u28 => (if u28 = true then (some (v3)) else (rc2 (v3 + (1 : Int32))))) else none) else (rc2 (v3 + (1 : Int32)))) else none)
def fD_propertyOf_2l (N : Nat) (v1 : Int32) (v2 : Int32) (d_classCount : Int32) (d_propertyCount : Int32) (d_parents : (Nat → Int32)) (d_owners : (Nat → Int32)) (d_letters : (Nat → Int32)) : Nat → Int32 → Option (Int32) := lp (fun rc a => fD_propertyOf_2 N v1 v2 d_classCount d_propertyCount d_parents d_owners d_letters rc a)
def fD_propertyOf (N : Nat) (v1 : Int32) (v2 : Int32) (d_classCount : Int32) (d_propertyCount : Int32) (d_parents : (Nat → Int32)) (d_owners : (Nat → Int32)) (d_letters : (Nat → Int32)) : Option (Int32) :=
  fD_propertyOf_2l N v1 v2 d_classCount d_propertyCount d_parents d_owners d_letters N (0 : Int32)
set_option maxHeartbeats 4000000 in
set_option maxRecDepth 100000 in
theorem cD_propertyOf (l : Launch) (D : va_G) (cI cJ : ClassId) (dA dA0 dA1 dA2 dA3 dA4 : Nat) (N : Nat) (v1 : Int32) (v2 : Int32) (d_classCount : Int32) (d_propertyCount : Int32) (d_parents : (Nat → Int32)) (d_owners : (Nat → Int32)) (d_letters : (Nat → Int32)) (d_sorts : (Nat → Int32)) (d_targets : (Nat → Int32)) (r : Int32) (h : fD_propertyOf N v1 v2 d_classCount d_propertyCount d_parents d_owners d_letters = some r) : Pu l yD_propertyOf bD_propertyOf 4 (some .int) (rL 2) [.ref dA, .int v1, .int v2] D cI cJ [(dA, .inr (1, [.ref dA0, .ref dA1, .ref dA2, .ref dA3, .ref dA4, .int d_classCount, .int d_propertyCount])), (dA0, .inl (cI, 6, .inl d_parents)), (dA1, .inl (cI, 8, .inl d_owners)), (dA2, .inl (cI, 8, .inl d_letters)), (dA3, .inl (cI, 8, .inl d_sorts)), (dA4, .inl (cI, 8, .inl d_targets))] (.int r) := by
  refine pu_of (by decide) (Nat.le_of_ble_eq_true rfl) ?_
  intro p e s m below meth c ls S hr hlocks hN hK hP hl
  have hx := S.1
  have hb := S.2.1
  have hl : lv_has ls 4 [(0, .ref dA), (1, .int v1), (2, .int v2)] := hl
  unfold fD_propertyOf at h
  have t2 : ∀ (k : Nat) (a : Int32), fD_propertyOf_2l N v1 v2 d_classCount d_propertyCount d_parents d_owners d_letters k a = some r → ∀ (ls : Array Slot), lv_has ls 4 [(0, .ref dA), (1, .int v1), (2, .int v2), (3, .int a)] → W p l e (rL 2) s m ([.ref dA, .int v1, .int v2] : List Value).toArray below meth c s.heap [] 0 0 (MQ below (fun _ st oc t => oc = .returned (some (.int r)) ∧ t.heap = st.heap) ([.ref dA, .int v1, .int v2] : List Value).toArray s 0 0 (fun _ => False)) (F0 m 2 ls []) := by
    unfold fD_propertyOf_2l
    refine lp_some ?_
    intro rc2 hrc2 v3 h
    intro ls hl
    have h : fD_propertyOf_2 N v1 v2 d_classCount d_propertyCount d_parents d_owners d_letters rc2 v3 = some r := h
    have hl : lv_has ls 4 [(0, .ref dA), (1, .int v1), (2, .int v2), (3, .int v3)] := hl
    unfold fD_propertyOf_2 at h
    refine lv_iload_n hx hb dD_propertyOf_2 rfl (lv_at hl 3 rfl) ?_
    refine lv_aload_n hx hb dD_propertyOf_3 rfl (lv_at hl 0 rfl) ?_
    refine gf S hK hP 0 1 6 u_zD w_82 rfl rfl (by decide) rfl dD_propertyOf_4 ?_
    refine lv_icmp_ge (tgt := 42) hx hb dD_propertyOf_7 (by decide) (fun h7 => ?_) (fun h7 => ?_)
    · have h := g_t h h7
      refine lv_iconst (v := (-1 : Int32)) hx hb dD_propertyOf_42 (by decide) ?_
      cases h
      exact pu_i S hr hlocks dD_propertyOf_43 rfl
    · have h := g_f h h7
      refine lv_aload_n hx hb dD_propertyOf_10 rfl (lv_at hl 0 rfl) ?_
      refine gf S hK hP 0 1 2 u_zD w_78 rfl rfl (by decide) rfl dD_propertyOf_11 ?_
      refine lv_iload_n hx hb dD_propertyOf_14 rfl (lv_at hl 3 rfl) ?_
      obtain ⟨b15, h⟩ := g_ok h
      refine va_iald hx hb hK hP 3 0 rfl rfl b15 dD_propertyOf_15 ?_
      refine lv_iload_n hx hb dD_propertyOf_16 rfl (lv_at hl 2 rfl) ?_
      refine lv_icmp_ne (tgt := 36) hx hb dD_propertyOf_17 (by decide) (fun h17 => ?_) (fun h17 => ?_)
      · have h := g_f h h17
        refine lv_iinc (k := 3) (v := v3 + (1 : Int32)) (lv' := [(3, .int (v3 + (1 : Int32))), (0, .ref dA), (1, .int v1), (2, .int v2)]) hx hb dD_propertyOf_36 hl rfl (congrArg (v3 + ·) (by decide : Int32.ofInt (1) = (1 : Int32))) (Nat.le_of_ble_eq_true rfl) rfl (fun ls hl => ?_)
        refine lv_goto (tgt := 2) hx hb dD_propertyOf_39 (by decide) ?_
        exact hrc2 (v3 + (1 : Int32)) h _ (lv_sub hl [1, 2, 3, 0] rfl)
      · have h := g_t h h17
        refine lv_aload_n hx hb dD_propertyOf_20 rfl (lv_at hl 0 rfl) ?_
        refine lv_iload_n hx hb dD_propertyOf_21 rfl (lv_at hl 1 rfl) ?_
        refine lv_aload_n hx hb dD_propertyOf_22 rfl (lv_at hl 0 rfl) ?_
        refine gf S hK hP 0 1 1 u_zD w_77 rfl rfl (by decide) rfl dD_propertyOf_23 ?_
        refine lv_iload_n hx hb dD_propertyOf_26 rfl (lv_at hl 3 rfl) ?_
        obtain ⟨b27, h⟩ := g_ok h
        refine va_iald hx hb hK hP 2 0 rfl rfl b27 dD_propertyOf_27 ?_
        obtain ⟨u28, e28, h⟩ := g_bind h
        refine pu_v S hN hK hP (rest := []) (cD_isKindOf l D cI cJ dA dA0 dA1 dA2 dA3 dA4 N v1 (d_owners v3.toNatClampNeg) d_classCount d_propertyCount d_parents d_owners d_letters d_sorts d_targets u28 e28) k_D_42 [0, 1, 2, 3, 4, 5] rfl 1 rfl rfl ⟨rfl, rfl⟩ ⟨Nat.le_of_ble_eq_true rfl, Nat.le_of_ble_eq_true rfl⟩ rfl hl.1 (Nat.le_of_ble_eq_true rfl) ⟨Nat.le_refl _, Nat.le_refl _⟩ dD_propertyOf_28 rfl ?_
        refine b_ifeq (tgt := 36) hx hb dD_propertyOf_31 (by decide) (fun h31 => ?_) (fun h31 => ?_)
        · have h := g_f h h31
          refine lv_iinc (k := 3) (v := v3 + (1 : Int32)) (lv' := [(3, .int (v3 + (1 : Int32))), (0, .ref dA), (1, .int v1), (2, .int v2)]) hx hb dD_propertyOf_36 hl rfl (congrArg (v3 + ·) (by decide : Int32.ofInt (1) = (1 : Int32))) (Nat.le_of_ble_eq_true rfl) rfl (fun ls hl => ?_)
          refine lv_goto (tgt := 2) hx hb dD_propertyOf_39 (by decide) ?_
          exact hrc2 (v3 + (1 : Int32)) h _ (lv_sub hl [1, 2, 3, 0] rfl)
        · have h := g_t h h31
          refine lv_iload_n hx hb dD_propertyOf_34 rfl (lv_at hl 3 rfl) ?_
          cases h
          exact pu_i S hr hlocks dD_propertyOf_35 rfl
  refine lv_iconst (v := (0 : Int32)) hx hb dD_propertyOf_0 (by decide) ?_
  refine lv_istore_n (lv' := [(3, .int (0 : Int32)), (0, .ref dA), (1, .int v1), (2, .int v2)]) hx hb dD_propertyOf_1 rfl hl (Nat.le_of_ble_eq_true rfl) rfl (fun ls hl => ?_)
  exact t2 N (0 : Int32) h _ (lv_sub hl [1, 2, 3, 0] rfl)
def fD_target (v1 : Int32) (d_propertyCount : Int32) (d_targets : (Nat → Int32)) : Option (Int32) :=
  (fD_hasProperty v1 d_propertyCount).bind fun u2 => (if u2 = true then (if ok v1 8 = true then (some (d_targets v1.toNatClampNeg)) else none) else (some ((-1 : Int32))))
set_option maxHeartbeats 4000000 in
set_option maxRecDepth 100000 in
theorem cD_target (l : Launch) (D : va_G) (cI cJ : ClassId) (dA dA0 dA1 dA2 dA3 dA4 : Nat) (v1 : Int32) (d_classCount : Int32) (d_propertyCount : Int32) (d_parents : (Nat → Int32)) (d_owners : (Nat → Int32)) (d_letters : (Nat → Int32)) (d_sorts : (Nat → Int32)) (d_targets : (Nat → Int32)) (r : Int32) (h : fD_target v1 d_propertyCount d_targets = some r) : Pu l yD_target bD_target 2 (some .int) (rL 1) [.ref dA, .int v1] D cI cJ [(dA, .inr (1, [.ref dA0, .ref dA1, .ref dA2, .ref dA3, .ref dA4, .int d_classCount, .int d_propertyCount])), (dA0, .inl (cI, 6, .inl d_parents)), (dA1, .inl (cI, 8, .inl d_owners)), (dA2, .inl (cI, 8, .inl d_letters)), (dA3, .inl (cI, 8, .inl d_sorts)), (dA4, .inl (cI, 8, .inl d_targets))] (.int r) := by
  refine pu_of (by decide) (Nat.le_of_ble_eq_true rfl) ?_
  intro p e s m below meth c ls S hr hlocks hN hK hP hl
  have hx := S.1
  have hb := S.2.1
  have hl : lv_has ls 2 [(0, .ref dA), (1, .int v1)] := hl
  unfold fD_target at h
  refine lv_aload_n hx hb dD_target_0 rfl (lv_at hl 0 rfl) ?_
  refine lv_iload_n hx hb dD_target_1 rfl (lv_at hl 1 rfl) ?_
  obtain ⟨u2, e2, h⟩ := g_bind h
  refine pu_v S hN hK hP (rest := []) (cD_hasProperty l D cI cJ dA dA0 dA1 dA2 dA3 dA4 v1 d_classCount d_propertyCount d_parents d_owners d_letters d_sorts d_targets u2 e2) k_D_45 [0, 1, 2, 3, 4, 5] rfl 1 rfl rfl ⟨rfl, rfl⟩ ⟨Nat.le_of_ble_eq_true rfl, Nat.le_of_ble_eq_true rfl⟩ rfl hl.1 (Nat.le_of_ble_eq_true rfl) ⟨Nat.le_refl _, Nat.le_refl _⟩ dD_target_2 rfl ?_
  refine b_ifeq (tgt := 17) hx hb dD_target_5 (by decide) (fun h5 => ?_) (fun h5 => ?_)
  · have h := g_f h h5
    refine lv_iconst (v := (-1 : Int32)) hx hb dD_target_17 (by decide) ?_
    cases h
    exact pu_i S hr hlocks dD_target_18 rfl
  · have h := g_t h h5
    refine lv_aload_n hx hb dD_target_8 rfl (lv_at hl 0 rfl) ?_
    refine gf S hK hP 0 1 4 u_zD w_80 rfl rfl (by decide) rfl dD_target_9 ?_
    refine lv_iload_n hx hb dD_target_12 rfl (lv_at hl 1 rfl) ?_
    obtain ⟨b13, h⟩ := g_ok h
    refine va_iald hx hb hK hP 5 0 rfl rfl b13 dD_target_13 ?_
    refine lv_goto (tgt := 18) hx hb dD_target_14 (by decide) ?_
    cases h
    exact pu_i S hr hlocks dD_target_18 rfl
