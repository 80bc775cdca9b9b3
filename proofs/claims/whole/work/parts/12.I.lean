/-! contracts, laid by wip/gen/parts.py -/
def fI_cell (v1 : Int32) (v2 : Int32) : Option (Int32) :=
  some ((v1 * (8 : Int32)) + v2)
set_option maxHeartbeats 4000000 in
set_option maxRecDepth 100000 in
theorem cI_cell (l : Launch) (D : va_G) (cI cJ : ClassId) (iA iA0 iA1 iA2 : Nat) (v1 : Int32) (v2 : Int32) (i_count : Int32) (i_kinds : (Nat → Int32)) (i_values : (Nat → Int64)) (i_partners : (Nat → Int32)) (r : Int32) (h : fI_cell v1 v2 = some r) : Pu l yI_cell bI_cell 3 (some .int) (rL 0) [.ref iA, .int v1, .int v2] D cI cJ [(iA, .inr (3, [.ref iA0, .ref iA1, .ref iA2, .int i_count])), (iA0, .inl (cI, 12, .inl i_kinds)), (iA1, .inl (cJ, 96, .inr (.inl i_values))), (iA2, .inl (cI, 96, .inl i_partners))] (.int r) := by
  refine pu_of (by decide) (Nat.le_of_ble_eq_true rfl) ?_
  intro p e s m below meth c ls S hr hlocks hN hK hP hl
  have hx := S.1
  have hb := S.2.1
  have hl : lv_has ls 3 [(0, .ref iA), (1, .int v1), (2, .int v2)] := hl
  unfold fI_cell at h
  refine lv_iload_n hx hb dI_cell_0 rfl (lv_at hl 1 rfl) ?_
  refine lv_bipush (v := (8 : Int32)) hx hb dI_cell_1 (by decide) ?_
  refine lv_imul hx hb dI_cell_3 ?_
  refine lv_iload_n hx hb dI_cell_4 rfl (lv_at hl 2 rfl) ?_
  refine lv_iadd hx hb dI_cell_5 ?_
  cases h
  exact pu_i S hr hlocks dI_cell_6 rfl
def fI_has (v1 : Int32) (i_count : Int32) : Option (Bool) :=
  if v1 < 0 then (some (false)) else (if i_count ≤ v1 then (some (false)) else (some (true)))
set_option maxHeartbeats 4000000 in
set_option maxRecDepth 100000 in
theorem cI_has (l : Launch) (D : va_G) (cI cJ : ClassId) (iA iA0 iA1 iA2 : Nat) (v1 : Int32) (i_count : Int32) (i_kinds : (Nat → Int32)) (i_values : (Nat → Int64)) (i_partners : (Nat → Int32)) (r : Bool) (h : fI_has v1 i_count = some r) : Pu l yI_has bI_has 2 (some .boolean) (rL 0) [.ref iA, .int v1] D cI cJ [(iA, .inr (3, [.ref iA0, .ref iA1, .ref iA2, .int i_count])), (iA0, .inl (cI, 12, .inl i_kinds)), (iA1, .inl (cJ, 96, .inr (.inl i_values))), (iA2, .inl (cI, 96, .inl i_partners))] (.int (bI r)) := by
  refine pu_of (by decide) (Nat.le_of_ble_eq_true rfl) ?_
  intro p e s m below meth c ls S hr hlocks hN hK hP hl
  have hx := S.1
  have hb := S.2.1
  have hl : lv_has ls 2 [(0, .ref iA), (1, .int v1)] := hl
  unfold fI_has at h
  refine lv_iload_n hx hb dI_has_0 rfl (lv_at hl 1 rfl) ?_
  refine lv_if_lt (tgt := 16) hx hb dI_has_1 (by decide) (fun h1 => ?_) (fun h1 => ?_)
  · have h := g_t h h1
    refine lv_iconst (v := (0 : Int32)) hx hb dI_has_16 (by decide) ?_
    cases h
    exact pu_z S hr hlocks dI_has_17 rfl
  · have h := g_f h h1
    refine lv_iload_n hx hb dI_has_4 rfl (lv_at hl 1 rfl) ?_
    refine lv_aload_n hx hb dI_has_5 rfl (lv_at hl 0 rfl) ?_
    refine gf S hK hP 0 3 3 u_zI w_108 rfl rfl (by decide) rfl dI_has_6 ?_
    refine lv_icmp_ge (tgt := 16) hx hb dI_has_9 (by decide) (fun h9 => ?_) (fun h9 => ?_)
    · have h := g_t h h9
      refine lv_iconst (v := (0 : Int32)) hx hb dI_has_16 (by decide) ?_
      cases h
      exact pu_z S hr hlocks dI_has_17 rfl
    · have h := g_f h h9
      refine lv_iconst (v := (1 : Int32)) hx hb dI_has_12 (by decide) ?_
      refine lv_goto (tgt := 17) hx hb dI_has_13 (by decide) ?_
      cases h
      exact pu_z S hr hlocks dI_has_17 rfl
def fI_hasCell (v1 : Int32) (v2 : Int32) (i_count : Int32) : Option (Bool) :=
  (fI_has v1 i_count).bind fun u2 => (if u2 = true then (if v2 < 0 then (some (false)) else (if (8 : Int32) ≤ v2 then (some (false)) else (some (true)))) else (some (false)))
set_option maxHeartbeats 4000000 in
set_option maxRecDepth 100000 in
theorem cI_hasCell (l : Launch) (D : va_G) (cI cJ : ClassId) (iA iA0 iA1 iA2 : Nat) (v1 : Int32) (v2 : Int32) (i_count : Int32) (i_kinds : (Nat → Int32)) (i_values : (Nat → Int64)) (i_partners : (Nat → Int32)) (r : Bool) (h : fI_hasCell v1 v2 i_count = some r) : Pu l yI_hasCell bI_hasCell 3 (some .boolean) (rL 1) [.ref iA, .int v1, .int v2] D cI cJ [(iA, .inr (3, [.ref iA0, .ref iA1, .ref iA2, .int i_count])), (iA0, .inl (cI, 12, .inl i_kinds)), (iA1, .inl (cJ, 96, .inr (.inl i_values))), (iA2, .inl (cI, 96, .inl i_partners))] (.int (bI r)) := by
  refine pu_of (by decide) (Nat.le_of_ble_eq_true rfl) ?_
  intro p e s m below meth c ls S hr hlocks hN hK hP hl
  have hx := S.1
  have hb := S.2.1
  have hl : lv_has ls 3 [(0, .ref iA), (1, .int v1), (2, .int v2)] := hl
  unfold fI_hasCell at h
  refine lv_aload_n hx hb dI_hasCell_0 rfl (lv_at hl 0 rfl) ?_
  refine lv_iload_n hx hb dI_hasCell_1 rfl (lv_at hl 1 rfl) ?_
  obtain ⟨u2, e2, h⟩ := g_bind h
  refine pu_v S hN hK hP (rest := []) (cI_has l D cI cJ iA iA0 iA1 iA2 v1 i_count i_kinds i_values i_partners u2 e2) k_I_26 [0, 1, 2, 3] rfl 3 rfl rfl ⟨rfl, rfl⟩ ⟨Nat.le_of_ble_eq_true rfl, Nat.le_of_ble_eq_true rfl⟩ rfl hl.1 (Nat.le_of_ble_eq_true rfl) ⟨Nat.le_refl _, Nat.le_refl _⟩ dI_hasCell_2 rfl ?_
  refine b_ifeq (tgt := 22) hx hb dI_hasCell_5 (by decide) (fun h5 => ?_) (fun h5 => ?_)
  · have h := g_f h h5
    refine lv_iconst (v := (0 : Int32)) hx hb dI_hasCell_22 (by decide) ?_
    cases h
    exact pu_z S hr hlocks dI_hasCell_23 rfl
  · have h := g_t h h5
    refine lv_iload_n hx hb dI_hasCell_8 rfl (lv_at hl 2 rfl) ?_
    refine lv_if_lt (tgt := 22) hx hb dI_hasCell_9 (by decide) (fun h9 => ?_) (fun h9 => ?_)
    · have h := g_t h h9
      refine lv_iconst (v := (0 : Int32)) hx hb dI_hasCell_22 (by decide) ?_
      cases h
      exact pu_z S hr hlocks dI_hasCell_23 rfl
    · have h := g_f h h9
      refine lv_iload_n hx hb dI_hasCell_12 rfl (lv_at hl 2 rfl) ?_
      refine lv_bipush (v := (8 : Int32)) hx hb dI_hasCell_13 (by decide) ?_
      refine lv_icmp_ge (tgt := 22) hx hb dI_hasCell_15 (by decide) (fun h15 => ?_) (fun h15 => ?_)
      · have h := g_t h h15
        refine lv_iconst (v := (0 : Int32)) hx hb dI_hasCell_22 (by decide) ?_
        cases h
        exact pu_z S hr hlocks dI_hasCell_23 rfl
      · have h := g_f h h15
        refine lv_iconst (v := (1 : Int32)) hx hb dI_hasCell_18 (by decide) ?_
        refine lv_goto (tgt := 23) hx hb dI_hasCell_19 (by decide) ?_
        cases h
        exact pu_z S hr hlocks dI_hasCell_23 rfl
def fI_setPartner (v1 : Int32) (v2 : Int32) (v3 : Int32) (i_count : Int32) (i_partners : (Nat → Int32)) : Option ((Nat → Int32)) :=
  (fI_hasCell v1 v2 i_count).bind fun u3 => (if u3 = true then ((fI_cell v1 v2).bind fun u16 => (if ok u16 96 = true then (some (upd i_partners u16.toNatClampNeg v3)) else none)) else (some (i_partners)))
set_option maxHeartbeats 4000000 in
set_option maxRecDepth 100000 in
theorem cI_setPartner (l : Launch) (D : va_G) (cI cJ : ClassId) (iA iA0 iA1 iA2 : Nat) (v1 : Int32) (v2 : Int32) (v3 : Int32) (i_count : Int32) (i_kinds : (Nat → Int32)) (i_values : (Nat → Int64)) (i_partners : (Nat → Int32)) (r : (Nat → Int32)) (h : fI_setPartner v1 v2 v3 i_count i_partners = some r) : Mu l yI_setPartner bI_setPartner 4 none (rL 2) [.ref iA, .int v1, .int v2, .int v3] D cI cJ [(iA, .inr (3, [.ref iA0, .ref iA1, .ref iA2, .int i_count])), (iA0, .inl (cI, 12, .inl i_kinds)), (iA1, .inl (cJ, 96, .inr (.inl i_values))), (iA2, .inl (cI, 96, .inl i_partners))] none [(iA, .inr (3, [.ref iA0, .ref iA1, .ref iA2, .int i_count])), (iA0, .inl (cI, 12, .inl i_kinds)), (iA1, .inl (cJ, 96, .inr (.inl i_values))), (iA2, .inl (cI, 96, .inl r))] := by
  refine mu_of (by decide) (Nat.le_of_ble_eq_true rfl) ?_
  intro p e s m below meth c ls A S hr hlocks hN hK hP hD hA hl
  have hS : va_S A s.heap s.heap [] := va_S.rf
  have hx := S.1
  have hb := S.2.1
  have hl : lv_has ls 4 [(0, .ref iA), (1, .int v1), (2, .int v2), (3, .int v3)] := hl
  unfold fI_setPartner at h
  refine lv_aload_n hx hb dI_setPartner_0 rfl (lv_at hl 0 rfl) ?_
  refine lv_iload_n hx hb dI_setPartner_1 rfl (lv_at hl 1 rfl) ?_
  refine lv_iload_n hx hb dI_setPartner_2 rfl (lv_at hl 2 rfl) ?_
  obtain ⟨u3, e3, h⟩ := g_bind h
  refine pu_v S hN hK hP (rest := []) (cI_hasCell l D cI cJ iA iA0 iA1 iA2 v1 v2 i_count i_kinds i_values i_partners u3 e3) k_I_38 [0, 1, 2, 3] rfl 3 rfl rfl ⟨rfl, rfl⟩ ⟨Nat.le_of_ble_eq_true rfl, Nat.le_of_ble_eq_true rfl⟩ rfl hl.1 (Nat.le_of_ble_eq_true rfl) ⟨Nat.le_refl _, Nat.le_refl _⟩ dI_setPartner_3 rfl ?_
  refine b_ifeq (tgt := 21) hx hb dI_setPartner_6 (by decide) (fun h6 => ?_) (fun h6 => ?_)
  · have h := g_f h h6
    cases h
    exact mu_n S hr hlocks hP hS dI_setPartner_21 rfl
  · have h := g_t h h6
    refine lv_aload_n hx hb dI_setPartner_9 rfl (lv_at hl 0 rfl) ?_
    refine gf S hK hP 0 3 2 u_zI w_107 rfl rfl (by decide) rfl dI_setPartner_10 ?_
    refine lv_aload_n hx hb dI_setPartner_13 rfl (lv_at hl 0 rfl) ?_
    refine lv_iload_n hx hb dI_setPartner_14 rfl (lv_at hl 1 rfl) ?_
    refine lv_iload_n hx hb dI_setPartner_15 rfl (lv_at hl 2 rfl) ?_
    obtain ⟨u16, e16, h⟩ := g_bind h
    refine pu_v S hN hK hP (rest := [.ref iA2]) (cI_cell l D cI cJ iA iA0 iA1 iA2 v1 v2 i_count i_kinds i_values i_partners u16 e16) k_I_42 [0, 1, 2, 3] rfl 3 rfl rfl ⟨rfl, rfl⟩ ⟨Nat.le_of_ble_eq_true rfl, Nat.le_of_ble_eq_true rfl⟩ rfl hl.1 (Nat.le_of_ble_eq_true rfl) ⟨Nat.le_refl _, Nat.le_refl _⟩ dI_setPartner_16 rfl ?_
    refine lv_iload_n hx hb dI_setPartner_19 rfl (lv_at hl 3 rfl) ?_
    obtain ⟨b20, h⟩ := g_ok h
    refine va_iast hx hb hK hP hD hS 3 0 rfl rfl b20 dI_setPartner_20 (fun H locs hP hD hS => ?_)
    have hP : va_P D cs [(iA, .inr (3, [.ref iA0, .ref iA1, .ref iA2, .int i_count])), (iA0, .inl (cI, 12, .inl i_kinds)), (iA1, .inl (cJ, 96, .inr (.inl i_values))), (iA2, .inl (cI, 96, .inl (upd i_partners u16.toNatClampNeg v3)))] H := hP
    have hD : va_D A [(iA, .inr (3, [.ref iA0, .ref iA1, .ref iA2, .int i_count])), (iA0, .inl (cI, 12, .inl i_kinds)), (iA1, .inl (cJ, 96, .inr (.inl i_values))), (iA2, .inl (cI, 96, .inl (upd i_partners u16.toNatClampNeg v3)))] := hD
    cases h
    exact mu_n S hr hlocks hP hS dI_setPartner_21 rfl
def fI_setValue (v1 : Int32) (v2 : Int32) (v3 : Int64) (i_count : Int32) (i_values : (Nat → Int64)) : Option ((Nat → Int64)) :=
  (fI_hasCell v1 v2 i_count).bind fun u3 => (if u3 = true then ((fI_cell v1 v2).bind fun u16 => (if ok u16 96 = true then (some (vp_updL i_values u16.toNatClampNeg v3)) else none)) else (some (i_values)))
set_option maxHeartbeats 4000000 in
set_option maxRecDepth 100000 in
theorem cI_setValue (l : Launch) (D : va_G) (cI cJ : ClassId) (iA iA0 iA1 iA2 : Nat) (v1 : Int32) (v2 : Int32) (v3 : Int64) (i_count : Int32) (i_kinds : (Nat → Int32)) (i_values : (Nat → Int64)) (i_partners : (Nat → Int32)) (r : (Nat → Int64)) (h : fI_setValue v1 v2 v3 i_count i_values = some r) : Mu l yI_setValue bI_setValue 5 none (rL 2) [.ref iA, .int v1, .int v2, .long v3] D cI cJ [(iA, .inr (3, [.ref iA0, .ref iA1, .ref iA2, .int i_count])), (iA0, .inl (cI, 12, .inl i_kinds)), (iA1, .inl (cJ, 96, .inr (.inl i_values))), (iA2, .inl (cI, 96, .inl i_partners))] none [(iA, .inr (3, [.ref iA0, .ref iA1, .ref iA2, .int i_count])), (iA0, .inl (cI, 12, .inl i_kinds)), (iA1, .inl (cJ, 96, .inr (.inl r))), (iA2, .inl (cI, 96, .inl i_partners))] := by
  refine mu_of (by decide) (Nat.le_of_ble_eq_true rfl) ?_
  intro p e s m below meth c ls A S hr hlocks hN hK hP hD hA hl
  have hS : va_S A s.heap s.heap [] := va_S.rf
  have hx := S.1
  have hb := S.2.1
  have hl : lv_has ls 5 [(0, .ref iA), (1, .int v1), (2, .int v2), (3, .long v3)] := hl
  unfold fI_setValue at h
  refine lv_aload_n hx hb dI_setValue_0 rfl (lv_at hl 0 rfl) ?_
  refine lv_iload_n hx hb dI_setValue_1 rfl (lv_at hl 1 rfl) ?_
  refine lv_iload_n hx hb dI_setValue_2 rfl (lv_at hl 2 rfl) ?_
  obtain ⟨u3, e3, h⟩ := g_bind h
  refine pu_v S hN hK hP (rest := []) (cI_hasCell l D cI cJ iA iA0 iA1 iA2 v1 v2 i_count i_kinds i_values i_partners u3 e3) k_I_38 [0, 1, 2, 3] rfl 3 rfl rfl ⟨rfl, rfl⟩ ⟨Nat.le_of_ble_eq_true rfl, Nat.le_of_ble_eq_true rfl⟩ rfl hl.1 (Nat.le_of_ble_eq_true rfl) ⟨Nat.le_refl _, Nat.le_refl _⟩ dI_setValue_3 rfl ?_
  refine b_ifeq (tgt := 21) hx hb dI_setValue_6 (by decide) (fun h6 => ?_) (fun h6 => ?_)
  · have h := g_f h h6
    cases h
    exact mu_n S hr hlocks hP hS dI_setValue_21 rfl
  · have h := g_t h h6
    refine lv_aload_n hx hb dI_setValue_9 rfl (lv_at hl 0 rfl) ?_
    refine gf S hK hP 0 3 1 u_zI w_106 rfl rfl (by decide) rfl dI_setValue_10 ?_
    refine lv_aload_n hx hb dI_setValue_13 rfl (lv_at hl 0 rfl) ?_
    refine lv_iload_n hx hb dI_setValue_14 rfl (lv_at hl 1 rfl) ?_
    refine lv_iload_n hx hb dI_setValue_15 rfl (lv_at hl 2 rfl) ?_
    obtain ⟨u16, e16, h⟩ := g_bind h
    refine pu_v S hN hK hP (rest := [.ref iA1]) (cI_cell l D cI cJ iA iA0 iA1 iA2 v1 v2 i_count i_kinds i_values i_partners u16 e16) k_I_42 [0, 1, 2, 3] rfl 3 rfl rfl ⟨rfl, rfl⟩ ⟨Nat.le_of_ble_eq_true rfl, Nat.le_of_ble_eq_true rfl⟩ rfl hl.1 (Nat.le_of_ble_eq_true rfl) ⟨Nat.le_refl _, Nat.le_refl _⟩ dI_setValue_16 rfl ?_
    refine lv_lload_n hx hb dI_setValue_19 rfl (lv_at hl 3 rfl) ?_
    obtain ⟨b20, h⟩ := g_ok h
    refine va_last hx hb hK hP hD hS 2 1 rfl rfl b20 dI_setValue_20 (fun H locs hP hD hS => ?_)
    have hP : va_P D cs [(iA, .inr (3, [.ref iA0, .ref iA1, .ref iA2, .int i_count])), (iA0, .inl (cI, 12, .inl i_kinds)), (iA1, .inl (cJ, 96, .inr (.inl (vp_updL i_values u16.toNatClampNeg v3)))), (iA2, .inl (cI, 96, .inl i_partners))] H := hP
    have hD : va_D A [(iA, .inr (3, [.ref iA0, .ref iA1, .ref iA2, .int i_count])), (iA0, .inl (cI, 12, .inl i_kinds)), (iA1, .inl (cJ, 96, .inr (.inl (vp_updL i_values u16.toNatClampNeg v3)))), (iA2, .inl (cI, 96, .inl i_partners))] := hD
    cases h
    exact mu_n S hr hlocks hP hS dI_setValue_21 rfl
def fI_add_35 (N : Nat) (v1 : Int32) (v2 : Int32) (i_count : Int32) (i_kinds : (Nat → Int32)) (rc35 : Int32 × (Nat → Int64) × (Nat → Int32) → Option (Int32 × Int32 × (Nat → Int32) × (Nat → Int64) × (Nat → Int32))) (v3 : Int32) (i_values : (Nat → Int64)) (i_partners : (Nat → Int32)) : Option (Int32 × Int32 × (Nat → Int32) × (Nat → Int64) × (Nat → Int32)) :=
  if (8 : Int32) ≤ v3 then (some (v2, i_count, i_kinds, i_values, i_partners)) else ((fI_setValue v2 v3 (0 : Int64) i_count i_values).bind fun u45 => ((fI_setPartner v2 v3 (-1 : Int32) i_count i_partners).bind fun u52 => (rc35 (v3 + (1 : Int32), u45, u52))))
def fI_add_35l (N : Nat) (v1 : Int32) (v2 : Int32) (i_count : Int32) (i_kinds : (Nat → Int32)) : Nat → Int32 × (Nat → Int64) × (Nat → Int32) → Option (Int32 × Int32 × (Nat → Int32) × (Nat → Int64) × (Nat → Int32)) := lp (fun rc a => fI_add_35 N v1 v2 i_count i_kinds rc a.1 a.2.1 a.2.2)
def fI_add (N : Nat) (v1 : Int32) (i_count : Int32) (i_kinds : (Nat → Int32)) (i_values : (Nat → Int64)) (i_partners : (Nat → Int32)) : Option (Int32 × Int32 × (Nat → Int32) × (Nat → Int64) × (Nat → Int32)) :=
  if i_count < (12 : Int32) then (if ok i_count 12 = true then (fI_add_35l N v1 i_count (i_count + (1 : Int32)) (upd i_kinds i_count.toNatClampNeg v1) N ((0 : Int32), i_values, i_partners)) else none) else (some ((-1 : Int32), i_count, i_kinds, i_values, i_partners))
set_option maxHeartbeats 4000000 in
set_option maxRecDepth 100000 in
theorem cI_add (l : Launch) (D : va_G) (cI cJ : ClassId) (iA iA0 iA1 iA2 : Nat) (N : Nat) (v1 : Int32) (i_count : Int32) (i_kinds : (Nat → Int32)) (i_values : (Nat → Int64)) (i_partners : (Nat → Int32)) (r : Int32 × Int32 × (Nat → Int32) × (Nat → Int64) × (Nat → Int32)) (h : fI_add N v1 i_count i_kinds i_values i_partners = some r) : Mu l yI_add bI_add 4 (some .int) (rL 3) [.ref iA, .int v1] D cI cJ [(iA, .inr (3, [.ref iA0, .ref iA1, .ref iA2, .int i_count])), (iA0, .inl (cI, 12, .inl i_kinds)), (iA1, .inl (cJ, 96, .inr (.inl i_values))), (iA2, .inl (cI, 96, .inl i_partners))] (some (.int r.1)) [(iA, .inr (3, [.ref iA0, .ref iA1, .ref iA2, .int r.2.1])), (iA0, .inl (cI, 12, .inl r.2.2.1)), (iA1, .inl (cJ, 96, .inr (.inl r.2.2.2.1))), (iA2, .inl (cI, 96, .inl r.2.2.2.2))] := by
  refine mu_of (by decide) (Nat.le_of_ble_eq_true rfl) ?_
  intro p e s m below meth c ls A S hr hlocks hN hK hP hD hA hl
  have hS : va_S A s.heap s.heap [] := va_S.rf
  have hx := S.1
  have hb := S.2.1
  have hl : lv_has ls 4 [(0, .ref iA), (1, .int v1)] := hl
  unfold fI_add at h
  have t35 : ∀ (v2 : Int32) (i_count : Int32) (i_kinds : (Nat → Int32)), ∀ (k : Nat) (a : Int32 × (Nat → Int64) × (Nat → Int32)), fI_add_35l N v1 v2 i_count i_kinds k a = some r → ∀ (ls : Array Slot) (H : Heap) (locs : List Loc), lv_has ls 4 [(0, .ref iA), (2, .int v2), (3, .int a.1)] → va_P D cs [(iA, .inr (3, [.ref iA0, .ref iA1, .ref iA2, .int i_count])), (iA0, .inl (cI, 12, .inl i_kinds)), (iA1, .inl (cJ, 96, .inr (.inl a.2.1))), (iA2, .inl (cI, 96, .inl a.2.2))] H → va_D A [(iA, .inr (3, [.ref iA0, .ref iA1, .ref iA2, .int i_count])), (iA0, .inl (cI, 12, .inl i_kinds)), (iA1, .inl (cJ, 96, .inr (.inl a.2.1))), (iA2, .inl (cI, 96, .inl a.2.2))] → va_S A s.heap H locs → W p l e (rL 3) s m ([.ref iA, .int v1] : List Value).toArray below meth c H locs 0 0 (MQ below (fun _ st oc t => (oc = .returned (some (.int r.1)) ∧ va_P D cs [(iA, .inr (3, [.ref iA0, .ref iA1, .ref iA2, .int r.2.1])), (iA0, .inl (cI, 12, .inl r.2.2.1)), (iA1, .inl (cJ, 96, .inr (.inl r.2.2.2.1))), (iA2, .inl (cI, 96, .inl r.2.2.2.2))] t.heap) ∧ va_F A st t) ([.ref iA, .int v1] : List Value).toArray s 0 0 A) (F0 m 35 ls []) := by
    intro v2 i_count i_kinds
    unfold fI_add_35l
    refine lp_some ?_
    intro rc35 hrc35 a h
    obtain ⟨v3, i_values, i_partners⟩ := a
    intro ls H locs hl hP hD hS
    have h : fI_add_35 N v1 v2 i_count i_kinds rc35 v3 i_values i_partners = some r := h
    have hl : lv_has ls 4 [(0, .ref iA), (2, .int v2), (3, .int v3)] := hl
    have hP : va_P D cs [(iA, .inr (3, [.ref iA0, .ref iA1, .ref iA2, .int i_count])), (iA0, .inl (cI, 12, .inl i_kinds)), (iA1, .inl (cJ, 96, .inr (.inl i_values))), (iA2, .inl (cI, 96, .inl i_partners))] H := hP
    have hD : va_D A [(iA, .inr (3, [.ref iA0, .ref iA1, .ref iA2, .int i_count])), (iA0, .inl (cI, 12, .inl i_kinds)), (iA1, .inl (cJ, 96, .inr (.inl i_values))), (iA2, .inl (cI, 96, .inl i_partners))] := hD
    unfold fI_add_35 at h
    refine lv_iload_n hx hb dI_add_35 rfl (lv_at hl 2 rfl) ?_
    refine lv_bipush (v := (8 : Int32)) hx hb dI_add_36 (by decide) ?_
    refine lv_icmp_ge (tgt := 61) hx hb dI_add_38 (by decide) (fun h38 => ?_) (fun h38 => ?_)
    · have h := g_t h h38
      refine lv_iload_n hx hb dI_add_61 rfl (lv_at hl 1 rfl) ?_
      cases h
      exact mu_i S hr hlocks hP hS dI_add_62 rfl rfl
    · have h := g_f h h38
      refine lv_aload_n hx hb dI_add_41 rfl (lv_at hl 0 rfl) ?_
      refine lv_iload_n hx hb dI_add_42 rfl (lv_at hl 1 rfl) ?_
      refine lv_iload_n hx hb dI_add_43 rfl (lv_at hl 2 rfl) ?_
      refine lv_lconst (v := (0 : Int64)) hx hb dI_add_44 (by decide) ?_
      obtain ⟨u45, e45, h⟩ := g_bind h
      refine mu_v S hN hK hP hD hS hA (rest := []) (cI_setValue l D cI cJ iA iA0 iA1 iA2 v2 v3 (0 : Int64) i_count i_kinds i_values i_partners u45 e45) k_I_30 [0, 1, 2, 3] [(some 0), (some 1), (some 2), (some 3)] [(iA, .inr (3, [.ref iA0, .ref iA1, .ref iA2, .int i_count])), (iA0, .inl (cI, 12, .inl i_kinds)), (iA1, .inl (cJ, 96, .inr (.inl u45))), (iA2, .inl (cI, 96, .inl i_partners))] rfl rfl rfl ⟨rfl, rfl, rfl, rfl, trivial⟩ (by decide +kernel) 3 rfl rfl ⟨rfl, rfl⟩ ⟨Nat.le_of_ble_eq_true rfl, Nat.le_of_ble_eq_true rfl⟩ rfl hl.1 (Nat.le_of_ble_eq_true rfl) ⟨Nat.le_refl _, Nat.le_refl _⟩ dI_add_45 rfl (fun H locs hP hD hS => ?_)
      refine lv_aload_n hx hb dI_add_48 rfl (lv_at hl 0 rfl) ?_
      refine lv_iload_n hx hb dI_add_49 rfl (lv_at hl 1 rfl) ?_
      refine lv_iload_n hx hb dI_add_50 rfl (lv_at hl 2 rfl) ?_
      refine lv_iconst (v := (-1 : Int32)) hx hb dI_add_51 (by decide) ?_
      obtain ⟨u52, e52, h⟩ := g_bind h
      refine mu_v S hN hK hP hD hS hA (rest := []) (cI_setPartner l D cI cJ iA iA0 iA1 iA2 v2 v3 (-1 : Int32) i_count i_kinds u45 i_partners u52 e52) k_I_34 [0, 1, 2, 3] [(some 0), (some 1), (some 2), (some 3)] [(iA, .inr (3, [.ref iA0, .ref iA1, .ref iA2, .int i_count])), (iA0, .inl (cI, 12, .inl i_kinds)), (iA1, .inl (cJ, 96, .inr (.inl u45))), (iA2, .inl (cI, 96, .inl u52))] rfl rfl rfl ⟨rfl, rfl, rfl, rfl, trivial⟩ (by decide +kernel) 3 rfl rfl ⟨rfl, rfl⟩ ⟨Nat.le_of_ble_eq_true rfl, Nat.le_of_ble_eq_true rfl⟩ rfl hl.1 (Nat.le_of_ble_eq_true rfl) ⟨Nat.le_refl _, Nat.le_refl _⟩ dI_add_52 rfl (fun H locs hP hD hS => ?_)
      refine lv_iinc (k := 2) (v := v3 + (1 : Int32)) (lv' := [(3, .int (v3 + (1 : Int32))), (0, .ref iA), (2, .int v2)]) hx hb dI_add_55 hl rfl (congrArg (v3 + ·) (by decide : Int32.ofInt (1) = (1 : Int32))) (Nat.le_of_ble_eq_true rfl) rfl (fun ls hl => ?_)
      refine lv_goto (tgt := 35) hx hb dI_add_58 (by decide) ?_
      exact hrc35 (v3 + (1 : Int32), u45, u52) h _ _ _ (lv_sub hl [1, 2, 0] rfl) hP hD hS
  refine lv_aload_n hx hb dI_add_0 rfl (lv_at hl 0 rfl) ?_
  refine gf S hK hP 0 3 3 u_zI w_108 rfl rfl (by decide) rfl dI_add_1 ?_
  refine lv_bipush (v := (12 : Int32)) hx hb dI_add_4 (by decide) ?_
  refine lv_icmp_lt (tgt := 11) hx hb dI_add_6 (by decide) (fun h6 => ?_) (fun h6 => ?_)
  · have h := g_t h h6
    refine lv_aload_n hx hb dI_add_11 rfl (lv_at hl 0 rfl) ?_
    refine gf S hK hP 0 3 3 u_zI w_108 rfl rfl (by decide) rfl dI_add_12 ?_
    refine lv_istore_n (lv' := [(2, .int i_count), (0, .ref iA), (1, .int v1)]) hx hb dI_add_15 rfl hl (Nat.le_of_ble_eq_true rfl) rfl (fun ls hl => ?_)
    refine lv_aload_n hx hb dI_add_16 rfl (lv_at hl 1 rfl) ?_
    refine gf S hK hP 0 3 0 u_zI w_105 rfl rfl (by decide) rfl dI_add_17 ?_
    refine lv_iload_n hx hb dI_add_20 rfl (lv_at hl 0 rfl) ?_
    refine lv_iload_n hx hb dI_add_21 rfl (lv_at hl 2 rfl) ?_
    obtain ⟨b22, h⟩ := g_ok h
    refine va_iast hx hb hK hP hD hS 1 0 rfl rfl b22 dI_add_22 (fun H locs hP hD hS => ?_)
    have hP : va_P D cs [(iA, .inr (3, [.ref iA0, .ref iA1, .ref iA2, .int i_count])), (iA0, .inl (cI, 12, .inl (upd i_kinds i_count.toNatClampNeg v1))), (iA1, .inl (cJ, 96, .inr (.inl i_values))), (iA2, .inl (cI, 96, .inl i_partners))] H := hP
    have hD : va_D A [(iA, .inr (3, [.ref iA0, .ref iA1, .ref iA2, .int i_count])), (iA0, .inl (cI, 12, .inl (upd i_kinds i_count.toNatClampNeg v1))), (iA1, .inl (cJ, 96, .inr (.inl i_values))), (iA2, .inl (cI, 96, .inl i_partners))] := hD
    refine lv_aload_n hx hb dI_add_23 rfl (lv_at hl 1 rfl) ?_
    refine lv_dup hx hb dI_add_24 rfl ?_
    refine gf S hK hP 0 3 3 u_zI w_108 rfl rfl (by decide) rfl dI_add_25 ?_
    refine lv_iconst (v := (1 : Int32)) hx hb dI_add_28 (by decide) ?_
    refine lv_iadd hx hb dI_add_29 ?_
    refine pf S hK hP hD hS 0 3 3 (v := .int (i_count + (1 : Int32))) zI_t u_zI zI_k zI_n w_108 rfl rfl (by decide) rfl rfl rfl rfl (Nat.le_of_ble_eq_true rfl) dI_add_30 (fun H locs hP hD hS => ?_)
    have hP : va_P D cs [(iA, .inr (3, [.ref iA0, .ref iA1, .ref iA2, .int (i_count + (1 : Int32))])), (iA0, .inl (cI, 12, .inl (upd i_kinds i_count.toNatClampNeg v1))), (iA1, .inl (cJ, 96, .inr (.inl i_values))), (iA2, .inl (cI, 96, .inl i_partners))] H := hP
    have hD : va_D A [(iA, .inr (3, [.ref iA0, .ref iA1, .ref iA2, .int (i_count + (1 : Int32))])), (iA0, .inl (cI, 12, .inl (upd i_kinds i_count.toNatClampNeg v1))), (iA1, .inl (cJ, 96, .inr (.inl i_values))), (iA2, .inl (cI, 96, .inl i_partners))] := hD
    refine lv_iconst (v := (0 : Int32)) hx hb dI_add_33 (by decide) ?_
    refine lv_istore_n (lv' := [(3, .int (0 : Int32)), (2, .int i_count), (0, .ref iA), (1, .int v1)]) hx hb dI_add_34 rfl hl (Nat.le_of_ble_eq_true rfl) rfl (fun ls hl => ?_)
    exact t35 i_count (i_count + (1 : Int32)) (upd i_kinds i_count.toNatClampNeg v1) N ((0 : Int32), i_values, i_partners) h _ _ _ (lv_sub hl [2, 1, 0] rfl) hP hD hS
  · have h := g_f h h6
    refine lv_iconst (v := (-1 : Int32)) hx hb dI_add_9 (by decide) ?_
    cases h
    exact mu_i S hr hlocks hP hS dI_add_10 rfl rfl
def fI_kind (v1 : Int32) (i_count : Int32) (i_kinds : (Nat → Int32)) : Option (Int32) :=
  (fI_has v1 i_count).bind fun u2 => (if u2 = true then (if ok v1 12 = true then (some (i_kinds v1.toNatClampNeg)) else none) else (some ((-1 : Int32))))
set_option maxHeartbeats 4000000 in
set_option maxRecDepth 100000 in
theorem cI_kind (l : Launch) (D : va_G) (cI cJ : ClassId) (iA iA0 iA1 iA2 : Nat) (v1 : Int32) (i_count : Int32) (i_kinds : (Nat → Int32)) (i_values : (Nat → Int64)) (i_partners : (Nat → Int32)) (r : Int32) (h : fI_kind v1 i_count i_kinds = some r) : Pu l yI_kind bI_kind 2 (some .int) (rL 1) [.ref iA, .int v1] D cI cJ [(iA, .inr (3, [.ref iA0, .ref iA1, .ref iA2, .int i_count])), (iA0, .inl (cI, 12, .inl i_kinds)), (iA1, .inl (cJ, 96, .inr (.inl i_values))), (iA2, .inl (cI, 96, .inl i_partners))] (.int r) := by
  refine pu_of (by decide) (Nat.le_of_ble_eq_true rfl) ?_
  intro p e s m below meth c ls S hr hlocks hN hK hP hl
  have hx := S.1
  have hb := S.2.1
  have hl : lv_has ls 2 [(0, .ref iA), (1, .int v1)] := hl
  unfold fI_kind at h
  refine lv_aload_n hx hb dI_kind_0 rfl (lv_at hl 0 rfl) ?_
  refine lv_iload_n hx hb dI_kind_1 rfl (lv_at hl 1 rfl) ?_
  obtain ⟨u2, e2, h⟩ := g_bind h
  refine pu_v S hN hK hP (rest := []) (cI_has l D cI cJ iA iA0 iA1 iA2 v1 i_count i_kinds i_values i_partners u2 e2) k_I_26 [0, 1, 2, 3] rfl 3 rfl rfl ⟨rfl, rfl⟩ ⟨Nat.le_of_ble_eq_true rfl, Nat.le_of_ble_eq_true rfl⟩ rfl hl.1 (Nat.le_of_ble_eq_true rfl) ⟨Nat.le_refl _, Nat.le_refl _⟩ dI_kind_2 rfl ?_
  refine b_ifeq (tgt := 17) hx hb dI_kind_5 (by decide) (fun h5 => ?_) (fun h5 => ?_)
  · have h := g_f h h5
    refine lv_iconst (v := (-1 : Int32)) hx hb dI_kind_17 (by decide) ?_
    cases h
    exact pu_i S hr hlocks dI_kind_18 rfl
  · have h := g_t h h5
    refine lv_aload_n hx hb dI_kind_8 rfl (lv_at hl 0 rfl) ?_
    refine gf S hK hP 0 3 0 u_zI w_105 rfl rfl (by decide) rfl dI_kind_9 ?_
    refine lv_iload_n hx hb dI_kind_12 rfl (lv_at hl 1 rfl) ?_
    obtain ⟨b13, h⟩ := g_ok h
    refine va_iald hx hb hK hP 1 0 rfl rfl b13 dI_kind_13 ?_
    refine lv_goto (tgt := 18) hx hb dI_kind_14 (by decide) ?_
    cases h
    exact pu_i S hr hlocks dI_kind_18 rfl
def fI_partnerAt (v1 : Int32) (v2 : Int32) (i_count : Int32) (i_partners : (Nat → Int32)) : Option (Int32) :=
  (fI_hasCell v1 v2 i_count).bind fun u3 => (if u3 = true then ((fI_cell v1 v2).bind fun u16 => (if ok u16 96 = true then (some (i_partners u16.toNatClampNeg)) else none)) else (some ((-1 : Int32))))
set_option maxHeartbeats 4000000 in
set_option maxRecDepth 100000 in
theorem cI_partnerAt (l : Launch) (D : va_G) (cI cJ : ClassId) (iA iA0 iA1 iA2 : Nat) (v1 : Int32) (v2 : Int32) (i_count : Int32) (i_kinds : (Nat → Int32)) (i_values : (Nat → Int64)) (i_partners : (Nat → Int32)) (r : Int32) (h : fI_partnerAt v1 v2 i_count i_partners = some r) : Pu l yI_partnerAt bI_partnerAt 3 (some .int) (rL 2) [.ref iA, .int v1, .int v2] D cI cJ [(iA, .inr (3, [.ref iA0, .ref iA1, .ref iA2, .int i_count])), (iA0, .inl (cI, 12, .inl i_kinds)), (iA1, .inl (cJ, 96, .inr (.inl i_values))), (iA2, .inl (cI, 96, .inl i_partners))] (.int r) := by
  refine pu_of (by decide) (Nat.le_of_ble_eq_true rfl) ?_
  intro p e s m below meth c ls S hr hlocks hN hK hP hl
  have hx := S.1
  have hb := S.2.1
  have hl : lv_has ls 3 [(0, .ref iA), (1, .int v1), (2, .int v2)] := hl
  unfold fI_partnerAt at h
  refine lv_aload_n hx hb dI_partnerAt_0 rfl (lv_at hl 0 rfl) ?_
  refine lv_iload_n hx hb dI_partnerAt_1 rfl (lv_at hl 1 rfl) ?_
  refine lv_iload_n hx hb dI_partnerAt_2 rfl (lv_at hl 2 rfl) ?_
  obtain ⟨u3, e3, h⟩ := g_bind h
  refine pu_v S hN hK hP (rest := []) (cI_hasCell l D cI cJ iA iA0 iA1 iA2 v1 v2 i_count i_kinds i_values i_partners u3 e3) k_I_38 [0, 1, 2, 3] rfl 3 rfl rfl ⟨rfl, rfl⟩ ⟨Nat.le_of_ble_eq_true rfl, Nat.le_of_ble_eq_true rfl⟩ rfl hl.1 (Nat.le_of_ble_eq_true rfl) ⟨Nat.le_refl _, Nat.le_refl _⟩ dI_partnerAt_3 rfl ?_
  refine b_ifeq (tgt := 23) hx hb dI_partnerAt_6 (by decide) (fun h6 => ?_) (fun h6 => ?_)
  · have h := g_f h h6
    refine lv_iconst (v := (-1 : Int32)) hx hb dI_partnerAt_23 (by decide) ?_
    cases h
    exact pu_i S hr hlocks dI_partnerAt_24 rfl
  · have h := g_t h h6
    refine lv_aload_n hx hb dI_partnerAt_9 rfl (lv_at hl 0 rfl) ?_
    refine gf S hK hP 0 3 2 u_zI w_107 rfl rfl (by decide) rfl dI_partnerAt_10 ?_
    refine lv_aload_n hx hb dI_partnerAt_13 rfl (lv_at hl 0 rfl) ?_
    refine lv_iload_n hx hb dI_partnerAt_14 rfl (lv_at hl 1 rfl) ?_
    refine lv_iload_n hx hb dI_partnerAt_15 rfl (lv_at hl 2 rfl) ?_
    obtain ⟨u16, e16, h⟩ := g_bind h
    refine pu_v S hN hK hP (rest := [.ref iA2]) (cI_cell l D cI cJ iA iA0 iA1 iA2 v1 v2 i_count i_kinds i_values i_partners u16 e16) k_I_42 [0, 1, 2, 3] rfl 3 rfl rfl ⟨rfl, rfl⟩ ⟨Nat.le_of_ble_eq_true rfl, Nat.le_of_ble_eq_true rfl⟩ rfl hl.1 (Nat.le_of_ble_eq_true rfl) ⟨Nat.le_refl _, Nat.le_refl _⟩ dI_partnerAt_16 rfl ?_
    obtain ⟨b19, h⟩ := g_ok h
    refine va_iald hx hb hK hP 3 0 rfl rfl b19 dI_partnerAt_19 ?_
    refine lv_goto (tgt := 24) hx hb dI_partnerAt_20 (by decide) ?_
    cases h
    exact pu_i S hr hlocks dI_partnerAt_24 rfl
def fI_valueAt (v1 : Int32) (v2 : Int32) (i_count : Int32) (i_values : (Nat → Int64)) : Option (Int64) :=
  (fI_hasCell v1 v2 i_count).bind fun u3 => (if u3 = true then ((fI_cell v1 v2).bind fun u16 => (if ok u16 96 = true then (some (i_values u16.toNatClampNeg)) else none)) else (some ((0 : Int64))))
set_option maxHeartbeats 4000000 in
set_option maxRecDepth 100000 in
theorem cI_valueAt (l : Launch) (D : va_G) (cI cJ : ClassId) (iA iA0 iA1 iA2 : Nat) (v1 : Int32) (v2 : Int32) (i_count : Int32) (i_kinds : (Nat → Int32)) (i_values : (Nat → Int64)) (i_partners : (Nat → Int32)) (r : Int64) (h : fI_valueAt v1 v2 i_count i_values = some r) : Pu l yI_valueAt bI_valueAt 3 (some .long) (rL 2) [.ref iA, .int v1, .int v2] D cI cJ [(iA, .inr (3, [.ref iA0, .ref iA1, .ref iA2, .int i_count])), (iA0, .inl (cI, 12, .inl i_kinds)), (iA1, .inl (cJ, 96, .inr (.inl i_values))), (iA2, .inl (cI, 96, .inl i_partners))] (.long r) := by
  refine pu_of (by decide) (Nat.le_of_ble_eq_true rfl) ?_
  intro p e s m below meth c ls S hr hlocks hN hK hP hl
  have hx := S.1
  have hb := S.2.1
  have hl : lv_has ls 3 [(0, .ref iA), (1, .int v1), (2, .int v2)] := hl
  unfold fI_valueAt at h
  refine lv_aload_n hx hb dI_valueAt_0 rfl (lv_at hl 0 rfl) ?_
  refine lv_iload_n hx hb dI_valueAt_1 rfl (lv_at hl 1 rfl) ?_
  refine lv_iload_n hx hb dI_valueAt_2 rfl (lv_at hl 2 rfl) ?_
  obtain ⟨u3, e3, h⟩ := g_bind h
  refine pu_v S hN hK hP (rest := []) (cI_hasCell l D cI cJ iA iA0 iA1 iA2 v1 v2 i_count i_kinds i_values i_partners u3 e3) k_I_38 [0, 1, 2, 3] rfl 3 rfl rfl ⟨rfl, rfl⟩ ⟨Nat.le_of_ble_eq_true rfl, Nat.le_of_ble_eq_true rfl⟩ rfl hl.1 (Nat.le_of_ble_eq_true rfl) ⟨Nat.le_refl _, Nat.le_refl _⟩ dI_valueAt_3 rfl ?_
  refine b_ifeq (tgt := 23) hx hb dI_valueAt_6 (by decide) (fun h6 => ?_) (fun h6 => ?_)
  · have h := g_f h h6
    refine lv_lconst (v := (0 : Int64)) hx hb dI_valueAt_23 (by decide) ?_
    cases h
    exact pu_l S hr hlocks dI_valueAt_24 rfl
  · have h := g_t h h6
    refine lv_aload_n hx hb dI_valueAt_9 rfl (lv_at hl 0 rfl) ?_
    refine gf S hK hP 0 3 1 u_zI w_106 rfl rfl (by decide) rfl dI_valueAt_10 ?_
    refine lv_aload_n hx hb dI_valueAt_13 rfl (lv_at hl 0 rfl) ?_
    refine lv_iload_n hx hb dI_valueAt_14 rfl (lv_at hl 1 rfl) ?_
    refine lv_iload_n hx hb dI_valueAt_15 rfl (lv_at hl 2 rfl) ?_
    obtain ⟨u16, e16, h⟩ := g_bind h
    refine pu_v S hN hK hP (rest := [.ref iA1]) (cI_cell l D cI cJ iA iA0 iA1 iA2 v1 v2 i_count i_kinds i_values i_partners u16 e16) k_I_42 [0, 1, 2, 3] rfl 3 rfl rfl ⟨rfl, rfl⟩ ⟨Nat.le_of_ble_eq_true rfl, Nat.le_of_ble_eq_true rfl⟩ rfl hl.1 (Nat.le_of_ble_eq_true rfl) ⟨Nat.le_refl _, Nat.le_refl _⟩ dI_valueAt_16 rfl ?_
    obtain ⟨b19, h⟩ := g_ok h
    refine va_lald hx hb hK hP 2 1 rfl rfl b19 dI_valueAt_19 ?_
    refine lv_goto (tgt := 24) hx hb dI_valueAt_20 (by decide) ?_
    cases h
    exact pu_l S hr hlocks dI_valueAt_24 rfl
