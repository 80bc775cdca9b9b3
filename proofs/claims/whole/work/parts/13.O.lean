/-! contracts, laid by wip/gen/parts.py -/
def fO_hasElement (v1 : Int32) (o_elementCount : Int32) : Option (Bool) :=
  if v1 < 0 then (some (false)) else (if o_elementCount ≤ v1 then (some (false)) else (some (true)))
set_option maxHeartbeats 4000000 in
set_option maxRecDepth 100000 in
theorem cO_hasElement (l : Launch) (D : va_G) (cI cJ : ClassId) (oA oA0 oA1 oA2 oA3 oA4 bA bA0 : Nat) (v1 : Int32) (o_elementCount : Int32) (o_documentCount : Int32) (o_deepest : Int32) (o_types : (Nat → Int32)) (o_names : (Nat → Int32)) (o_contents : (Nat → Int32)) (o_holders : (Nat → Int32)) (o_inners : (Nat → Int32)) (b_count : Int32) (b_row : (Nat → Int32)) (r : Bool) (h : fO_hasElement v1 o_elementCount = some r) : Pu l yO_hasElement bO_hasElement 2 (some .boolean) (rL 0) [.ref oA, .int v1] D cI cJ [(oA, .inr (4, [.ref bA, .ref oA0, .ref oA1, .ref oA2, .ref oA3, .ref oA4, .int o_elementCount, .int o_documentCount, .int o_deepest])), (oA0, .inl (cI, 60, .inl o_types)), (oA1, .inl (cI, 60, .inl o_names)), (oA2, .inl (cI, 60, .inl o_contents)), (oA3, .inl (cI, 60, .inl o_holders)), (oA4, .inl (cI, 60, .inl o_inners)), (bA, .inr (0, [.ref bA0, .int b_count])), (bA0, .inl (cI, 120, .inl b_row))] (.int (bI r)) := by
  refine pu_of (by decide) (Nat.le_of_ble_eq_true rfl) ?_
  intro p e s m below meth c ls S hr hlocks hN hK hP hl
  have hx := S.1
  have hb := S.2.1
  have hl : lv_has ls 2 [(0, .ref oA), (1, .int v1)] := hl
  unfold fO_hasElement at h
  refine lv_iload_n hx hb dO_hasElement_0 rfl (lv_at hl 1 rfl) ?_
  refine lv_if_lt (tgt := 16) hx hb dO_hasElement_1 (by decide) (fun h1 => ?_) (fun h1 => ?_)
  · have h := g_t h h1
    refine lv_iconst (v := (0 : Int32)) hx hb dO_hasElement_16 (by decide) ?_
    cases h
    exact pu_z S hr hlocks dO_hasElement_17 rfl
  · have h := g_f h h1
    refine lv_iload_n hx hb dO_hasElement_4 rfl (lv_at hl 1 rfl) ?_
    refine lv_aload_n hx hb dO_hasElement_5 rfl (lv_at hl 0 rfl) ?_
    refine gf S hK hP 0 4 6 u_zO w_168 rfl rfl (by decide) rfl dO_hasElement_6 ?_
    refine lv_icmp_ge (tgt := 16) hx hb dO_hasElement_9 (by decide) (fun h9 => ?_) (fun h9 => ?_)
    · have h := g_t h h9
      refine lv_iconst (v := (0 : Int32)) hx hb dO_hasElement_16 (by decide) ?_
      cases h
      exact pu_z S hr hlocks dO_hasElement_17 rfl
    · have h := g_f h h9
      refine lv_iconst (v := (1 : Int32)) hx hb dO_hasElement_12 (by decide) ?_
      refine lv_goto (tgt := 17) hx hb dO_hasElement_13 (by decide) ?_
      cases h
      exact pu_z S hr hlocks dO_hasElement_17 rfl
def fO_holder (v1 : Int32) (o_elementCount : Int32) (o_holders : (Nat → Int32)) : Option (Int32) :=
  (fO_hasElement v1 o_elementCount).bind fun u2 => (if u2 = true then (if ok v1 60 = true then (some (o_holders v1.toNatClampNeg)) else none) else (some ((-1 : Int32))))
set_option maxHeartbeats 4000000 in
set_option maxRecDepth 100000 in
theorem cO_holder (l : Launch) (D : va_G) (cI cJ : ClassId) (oA oA0 oA1 oA2 oA3 oA4 bA bA0 : Nat) (v1 : Int32) (o_elementCount : Int32) (o_documentCount : Int32) (o_deepest : Int32) (o_types : (Nat → Int32)) (o_names : (Nat → Int32)) (o_contents : (Nat → Int32)) (o_holders : (Nat → Int32)) (o_inners : (Nat → Int32)) (b_count : Int32) (b_row : (Nat → Int32)) (r : Int32) (h : fO_holder v1 o_elementCount o_holders = some r) : Pu l yO_holder bO_holder 2 (some .int) (rL 1) [.ref oA, .int v1] D cI cJ [(oA, .inr (4, [.ref bA, .ref oA0, .ref oA1, .ref oA2, .ref oA3, .ref oA4, .int o_elementCount, .int o_documentCount, .int o_deepest])), (oA0, .inl (cI, 60, .inl o_types)), (oA1, .inl (cI, 60, .inl o_names)), (oA2, .inl (cI, 60, .inl o_contents)), (oA3, .inl (cI, 60, .inl o_holders)), (oA4, .inl (cI, 60, .inl o_inners)), (bA, .inr (0, [.ref bA0, .int b_count])), (bA0, .inl (cI, 120, .inl b_row))] (.int r) := by
  refine pu_of (by decide) (Nat.le_of_ble_eq_true rfl) ?_
  intro p e s m below meth c ls S hr hlocks hN hK hP hl
  have hx := S.1
  have hb := S.2.1
  have hl : lv_has ls 2 [(0, .ref oA), (1, .int v1)] := hl
  unfold fO_holder at h
  refine lv_aload_n hx hb dO_holder_0 rfl (lv_at hl 0 rfl) ?_
  refine lv_iload_n hx hb dO_holder_1 rfl (lv_at hl 1 rfl) ?_
  obtain ⟨u2, e2, h⟩ := g_bind h
  refine pu_v S hN hK hP (rest := []) (cO_hasElement l D cI cJ oA oA0 oA1 oA2 oA3 oA4 bA bA0 v1 o_elementCount o_documentCount o_deepest o_types o_names o_contents o_holders o_inners b_count b_row u2 e2) k_O_79 [0, 1, 2, 3, 4, 5, 6, 7] rfl 4 rfl rfl ⟨rfl, rfl⟩ ⟨Nat.le_of_ble_eq_true rfl, Nat.le_of_ble_eq_true rfl⟩ rfl hl.1 (Nat.le_of_ble_eq_true rfl) ⟨Nat.le_refl _, Nat.le_refl _⟩ dO_holder_2 rfl ?_
  refine b_ifeq (tgt := 17) hx hb dO_holder_5 (by decide) (fun h5 => ?_) (fun h5 => ?_)
  · have h := g_f h h5
    refine lv_iconst (v := (-1 : Int32)) hx hb dO_holder_17 (by decide) ?_
    cases h
    exact pu_i S hr hlocks dO_holder_18 rfl
  · have h := g_t h h5
    refine lv_aload_n hx hb dO_holder_8 rfl (lv_at hl 0 rfl) ?_
    refine gf S hK hP 0 4 4 u_zO w_166 rfl rfl (by decide) rfl dO_holder_9 ?_
    refine lv_iload_n hx hb dO_holder_12 rfl (lv_at hl 1 rfl) ?_
    obtain ⟨b13, h⟩ := g_ok h
    refine va_iald hx hb hK hP 4 0 rfl rfl b13 dO_holder_13 ?_
    refine lv_goto (tgt := 18) hx hb dO_holder_14 (by decide) ?_
    cases h
    exact pu_i S hr hlocks dO_holder_18 rfl
def fO_nameByte (v1 : Int32) (v2 : Int32) (o_elementCount : Int32) (o_names : (Nat → Int32)) (b_count : Int32) (b_row : (Nat → Int32)) : Option (Int32) :=
  (fO_hasElement v1 o_elementCount).bind fun u2 => (if u2 = true then (if ok v1 60 = true then ((fB_at ((o_names v1.toNatClampNeg) + v2) b_count b_row).bind fun u20 => (some (u20))) else none) else (some ((-1 : Int32))))
set_option maxHeartbeats 4000000 in
set_option maxRecDepth 100000 in
theorem cO_nameByte (l : Launch) (D : va_G) (cI cJ : ClassId) (oA oA0 oA1 oA2 oA3 oA4 bA bA0 : Nat) (v1 : Int32) (v2 : Int32) (o_elementCount : Int32) (o_documentCount : Int32) (o_deepest : Int32) (o_types : (Nat → Int32)) (o_names : (Nat → Int32)) (o_contents : (Nat → Int32)) (o_holders : (Nat → Int32)) (o_inners : (Nat → Int32)) (b_count : Int32) (b_row : (Nat → Int32)) (r : Int32) (h : fO_nameByte v1 v2 o_elementCount o_names b_count b_row = some r) : Pu l yO_nameByte bO_nameByte 3 (some .int) (rL 1) [.ref oA, .int v1, .int v2] D cI cJ [(oA, .inr (4, [.ref bA, .ref oA0, .ref oA1, .ref oA2, .ref oA3, .ref oA4, .int o_elementCount, .int o_documentCount, .int o_deepest])), (oA0, .inl (cI, 60, .inl o_types)), (oA1, .inl (cI, 60, .inl o_names)), (oA2, .inl (cI, 60, .inl o_contents)), (oA3, .inl (cI, 60, .inl o_holders)), (oA4, .inl (cI, 60, .inl o_inners)), (bA, .inr (0, [.ref bA0, .int b_count])), (bA0, .inl (cI, 120, .inl b_row))] (.int r) := by
  refine pu_of (by decide) (Nat.le_of_ble_eq_true rfl) ?_
  intro p e s m below meth c ls S hr hlocks hN hK hP hl
  have hx := S.1
  have hb := S.2.1
  have hl : lv_has ls 3 [(0, .ref oA), (1, .int v1), (2, .int v2)] := hl
  unfold fO_nameByte at h
  refine lv_aload_n hx hb dO_nameByte_0 rfl (lv_at hl 0 rfl) ?_
  refine lv_iload_n hx hb dO_nameByte_1 rfl (lv_at hl 1 rfl) ?_
  obtain ⟨u2, e2, h⟩ := g_bind h
  refine pu_v S hN hK hP (rest := []) (cO_hasElement l D cI cJ oA oA0 oA1 oA2 oA3 oA4 bA bA0 v1 o_elementCount o_documentCount o_deepest o_types o_names o_contents o_holders o_inners b_count b_row u2 e2) k_O_79 [0, 1, 2, 3, 4, 5, 6, 7] rfl 4 rfl rfl ⟨rfl, rfl⟩ ⟨Nat.le_of_ble_eq_true rfl, Nat.le_of_ble_eq_true rfl⟩ rfl hl.1 (Nat.le_of_ble_eq_true rfl) ⟨Nat.le_refl _, Nat.le_refl _⟩ dO_nameByte_2 rfl ?_
  refine b_ifeq (tgt := 26) hx hb dO_nameByte_5 (by decide) (fun h5 => ?_) (fun h5 => ?_)
  · have h := g_f h h5
    refine lv_iconst (v := (-1 : Int32)) hx hb dO_nameByte_26 (by decide) ?_
    cases h
    exact pu_i S hr hlocks dO_nameByte_27 rfl
  · have h := g_t h h5
    refine lv_aload_n hx hb dO_nameByte_8 rfl (lv_at hl 0 rfl) ?_
    refine gf S hK hP 0 4 0 u_zO w_162 rfl rfl (by decide) rfl dO_nameByte_9 ?_
    refine lv_aload_n hx hb dO_nameByte_12 rfl (lv_at hl 0 rfl) ?_
    refine gf S hK hP 0 4 2 u_zO w_164 rfl rfl (by decide) rfl dO_nameByte_13 ?_
    refine lv_iload_n hx hb dO_nameByte_16 rfl (lv_at hl 1 rfl) ?_
    obtain ⟨b17, h⟩ := g_ok h
    refine va_iald hx hb hK hP 2 0 rfl rfl b17 dO_nameByte_17 ?_
    refine lv_iload_n hx hb dO_nameByte_18 rfl (lv_at hl 2 rfl) ?_
    refine lv_iadd hx hb dO_nameByte_19 ?_
    obtain ⟨u20, e20, h⟩ := g_bind h
    refine pu_v S hN hK hP (rest := []) (cB_at l D cI cJ bA bA0 ((o_names v1.toNatClampNeg) + v2) b_count b_row u20 e20) k_O_59 [6, 7] rfl 0 rfl rfl ⟨rfl, rfl⟩ ⟨Nat.le_of_ble_eq_true rfl, Nat.le_of_ble_eq_true rfl⟩ rfl hl.1 (Nat.le_of_ble_eq_true rfl) ⟨Nat.le_refl _, Nat.le_refl _⟩ dO_nameByte_20 rfl ?_
    refine lv_goto (tgt := 27) hx hb dO_nameByte_23 (by decide) ?_
    cases h
    exact pu_i S hr hlocks dO_nameByte_27 rfl
def fO_letter (v1 : Int32) (o_elementCount : Int32) (o_names : (Nat → Int32)) (b_count : Int32) (b_row : (Nat → Int32)) : Option (Int32) :=
  (fO_nameByte v1 (0 : Int32) o_elementCount o_names b_count b_row).bind fun u3 => (if u3 ≤ 0 then (some ((-1 : Int32))) else ((fO_nameByte v1 (1 : Int32) o_elementCount o_names b_count b_row).bind fun u12 => (if u12 = 0 then ((fO_nameByte v1 (0 : Int32) o_elementCount o_names b_count b_row).bind fun u31 => (some (u31 - (97 : Int32)))) else (some ((-1 : Int32))))))
set_option maxHeartbeats 4000000 in
set_option maxRecDepth 100000 in
theorem cO_letter (l : Launch) (D : va_G) (cI cJ : ClassId) (oA oA0 oA1 oA2 oA3 oA4 bA bA0 : Nat) (v1 : Int32) (o_elementCount : Int32) (o_documentCount : Int32) (o_deepest : Int32) (o_types : (Nat → Int32)) (o_names : (Nat → Int32)) (o_contents : (Nat → Int32)) (o_holders : (Nat → Int32)) (o_inners : (Nat → Int32)) (b_count : Int32) (b_row : (Nat → Int32)) (r : Int32) (h : fO_letter v1 o_elementCount o_names b_count b_row = some r) : Pu l yO_letter bO_letter 3 (some .int) (rL 2) [.ref oA, .int v1] D cI cJ [(oA, .inr (4, [.ref bA, .ref oA0, .ref oA1, .ref oA2, .ref oA3, .ref oA4, .int o_elementCount, .int o_documentCount, .int o_deepest])), (oA0, .inl (cI, 60, .inl o_types)), (oA1, .inl (cI, 60, .inl o_names)), (oA2, .inl (cI, 60, .inl o_contents)), (oA3, .inl (cI, 60, .inl o_holders)), (oA4, .inl (cI, 60, .inl o_inners)), (bA, .inr (0, [.ref bA0, .int b_count])), (bA0, .inl (cI, 120, .inl b_row))] (.int r) := by
  refine pu_of (by decide) (Nat.le_of_ble_eq_true rfl) ?_
  intro p e s m below meth c ls S hr hlocks hN hK hP hl
  have hx := S.1
  have hb := S.2.1
  have hl : lv_has ls 3 [(0, .ref oA), (1, .int v1)] := hl
  unfold fO_letter at h
  refine lv_aload_n hx hb dO_letter_0 rfl (lv_at hl 0 rfl) ?_
  refine lv_iload_n hx hb dO_letter_1 rfl (lv_at hl 1 rfl) ?_
  refine lv_iconst (v := (0 : Int32)) hx hb dO_letter_2 (by decide) ?_
  obtain ⟨u3, e3, h⟩ := g_bind h
  refine pu_v S hN hK hP (rest := []) (cO_nameByte l D cI cJ oA oA0 oA1 oA2 oA3 oA4 bA bA0 v1 (0 : Int32) o_elementCount o_documentCount o_deepest o_types o_names o_contents o_holders o_inners b_count b_row u3 e3) k_O_83 [0, 1, 2, 3, 4, 5, 6, 7] rfl 4 rfl rfl ⟨rfl, rfl⟩ ⟨Nat.le_of_ble_eq_true rfl, Nat.le_of_ble_eq_true rfl⟩ rfl hl.1 (Nat.le_of_ble_eq_true rfl) ⟨Nat.le_refl _, Nat.le_refl _⟩ dO_letter_3 rfl ?_
  refine lv_if_le (tgt := 22) hx hb dO_letter_6 (by decide) (fun h6 => ?_) (fun h6 => ?_)
  · have h := g_t h h6
    refine lv_iconst (v := (0 : Int32)) hx hb dO_letter_22 (by decide) ?_
    refine lv_istore_n (lv' := [(2, .int (0 : Int32)), (0, .ref oA), (1, .int v1)]) hx hb dO_letter_23 rfl hl (Nat.le_of_ble_eq_true rfl) rfl (fun ls hl => ?_)
    refine lv_iload_n hx hb dO_letter_24 rfl (lv_at hl 0 rfl) ?_
    refine lv_if_eq (tgt := 40) hx hb dO_letter_25 (by decide) (fun h25 => ?_) (fun h25 => ?_)
    · refine lv_iconst (v := (-1 : Int32)) hx hb dO_letter_40 (by decide) ?_
      cases h
      exact pu_i S hr hlocks dO_letter_41 rfl
    · exact absurd h25 (by decide)
  · have h := g_f h h6
    refine lv_aload_n hx hb dO_letter_9 rfl (lv_at hl 0 rfl) ?_
    refine lv_iload_n hx hb dO_letter_10 rfl (lv_at hl 1 rfl) ?_
    refine lv_iconst (v := (1 : Int32)) hx hb dO_letter_11 (by decide) ?_
    obtain ⟨u12, e12, h⟩ := g_bind h
    refine pu_v S hN hK hP (rest := []) (cO_nameByte l D cI cJ oA oA0 oA1 oA2 oA3 oA4 bA bA0 v1 (1 : Int32) o_elementCount o_documentCount o_deepest o_types o_names o_contents o_holders o_inners b_count b_row u12 e12) k_O_83 [0, 1, 2, 3, 4, 5, 6, 7] rfl 4 rfl rfl ⟨rfl, rfl⟩ ⟨Nat.le_of_ble_eq_true rfl, Nat.le_of_ble_eq_true rfl⟩ rfl hl.1 (Nat.le_of_ble_eq_true rfl) ⟨Nat.le_refl _, Nat.le_refl _⟩ dO_letter_12 rfl ?_
    refine lv_if_ne (tgt := 22) hx hb dO_letter_15 (by decide) (fun h15 => ?_) (fun h15 => ?_)
    · have h := g_f h h15
      refine lv_iconst (v := (0 : Int32)) hx hb dO_letter_22 (by decide) ?_
      refine lv_istore_n (lv' := [(2, .int (0 : Int32)), (0, .ref oA), (1, .int v1)]) hx hb dO_letter_23 rfl hl (Nat.le_of_ble_eq_true rfl) rfl (fun ls hl => ?_)
      refine lv_iload_n hx hb dO_letter_24 rfl (lv_at hl 0 rfl) ?_
      refine lv_if_eq (tgt := 40) hx hb dO_letter_25 (by decide) (fun h25 => ?_) (fun h25 => ?_)
      · refine lv_iconst (v := (-1 : Int32)) hx hb dO_letter_40 (by decide) ?_
        cases h
        exact pu_i S hr hlocks dO_letter_41 rfl
      · exact absurd h25 (by decide)
    · have h := g_t h h15
      refine lv_iconst (v := (1 : Int32)) hx hb dO_letter_18 (by decide) ?_
      refine lv_goto (tgt := 23) hx hb dO_letter_19 (by decide) ?_
      refine lv_istore_n (lv' := [(2, .int (1 : Int32)), (0, .ref oA), (1, .int v1)]) hx hb dO_letter_23 rfl hl (Nat.le_of_ble_eq_true rfl) rfl (fun ls hl => ?_)
      refine lv_iload_n hx hb dO_letter_24 rfl (lv_at hl 0 rfl) ?_
      refine lv_if_eq (tgt := 40) hx hb dO_letter_25 (by decide) (fun h25 => ?_) (fun h25 => ?_)
      · exact absurd h25 (by decide)
      · refine lv_aload_n hx hb dO_letter_28 rfl (lv_at hl 1 rfl) ?_
        refine lv_iload_n hx hb dO_letter_29 rfl (lv_at hl 2 rfl) ?_
        refine lv_iconst (v := (0 : Int32)) hx hb dO_letter_30 (by decide) ?_
        obtain ⟨u31, e31, h⟩ := g_bind h
        refine pu_v S hN hK hP (rest := []) (cO_nameByte l D cI cJ oA oA0 oA1 oA2 oA3 oA4 bA bA0 v1 (0 : Int32) o_elementCount o_documentCount o_deepest o_types o_names o_contents o_holders o_inners b_count b_row u31 e31) k_O_83 [0, 1, 2, 3, 4, 5, 6, 7] rfl 4 rfl rfl ⟨rfl, rfl⟩ ⟨Nat.le_of_ble_eq_true rfl, Nat.le_of_ble_eq_true rfl⟩ rfl hl.1 (Nat.le_of_ble_eq_true rfl) ⟨Nat.le_refl _, Nat.le_refl _⟩ dO_letter_31 rfl ?_
        refine lv_bipush (v := (97 : Int32)) hx hb dO_letter_34 (by decide) ?_
        refine lv_isub hx hb dO_letter_36 ?_
        refine lv_goto (tgt := 41) hx hb dO_letter_37 (by decide) ?_
        cases h
        exact pu_i S hr hlocks dO_letter_41 rfl
def fO_inner (v1 : Int32) (o_elementCount : Int32) (o_inners : (Nat → Int32)) : Option (Int32) :=
  (fO_hasElement v1 o_elementCount).bind fun u2 => (if u2 = true then (if ok v1 60 = true then (some (o_inners v1.toNatClampNeg)) else none) else (some ((-1 : Int32))))
set_option maxHeartbeats 4000000 in
set_option maxRecDepth 100000 in
theorem cO_inner (l : Launch) (D : va_G) (cI cJ : ClassId) (oA oA0 oA1 oA2 oA3 oA4 bA bA0 : Nat) (v1 : Int32) (o_elementCount : Int32) (o_documentCount : Int32) (o_deepest : Int32) (o_types : (Nat → Int32)) (o_names : (Nat → Int32)) (o_contents : (Nat → Int32)) (o_holders : (Nat → Int32)) (o_inners : (Nat → Int32)) (b_count : Int32) (b_row : (Nat → Int32)) (r : Int32) (h : fO_inner v1 o_elementCount o_inners = some r) : Pu l yO_inner bO_inner 2 (some .int) (rL 1) [.ref oA, .int v1] D cI cJ [(oA, .inr (4, [.ref bA, .ref oA0, .ref oA1, .ref oA2, .ref oA3, .ref oA4, .int o_elementCount, .int o_documentCount, .int o_deepest])), (oA0, .inl (cI, 60, .inl o_types)), (oA1, .inl (cI, 60, .inl o_names)), (oA2, .inl (cI, 60, .inl o_contents)), (oA3, .inl (cI, 60, .inl o_holders)), (oA4, .inl (cI, 60, .inl o_inners)), (bA, .inr (0, [.ref bA0, .int b_count])), (bA0, .inl (cI, 120, .inl b_row))] (.int r) := by
  refine pu_of (by decide) (Nat.le_of_ble_eq_true rfl) ?_
  intro p e s m below meth c ls S hr hlocks hN hK hP hl
  have hx := S.1
  have hb := S.2.1
  have hl : lv_has ls 2 [(0, .ref oA), (1, .int v1)] := hl
  unfold fO_inner at h
  refine lv_aload_n hx hb dO_inner_0 rfl (lv_at hl 0 rfl) ?_
  refine lv_iload_n hx hb dO_inner_1 rfl (lv_at hl 1 rfl) ?_
  obtain ⟨u2, e2, h⟩ := g_bind h
  refine pu_v S hN hK hP (rest := []) (cO_hasElement l D cI cJ oA oA0 oA1 oA2 oA3 oA4 bA bA0 v1 o_elementCount o_documentCount o_deepest o_types o_names o_contents o_holders o_inners b_count b_row u2 e2) k_O_79 [0, 1, 2, 3, 4, 5, 6, 7] rfl 4 rfl rfl ⟨rfl, rfl⟩ ⟨Nat.le_of_ble_eq_true rfl, Nat.le_of_ble_eq_true rfl⟩ rfl hl.1 (Nat.le_of_ble_eq_true rfl) ⟨Nat.le_refl _, Nat.le_refl _⟩ dO_inner_2 rfl ?_
  refine b_ifeq (tgt := 17) hx hb dO_inner_5 (by decide) (fun h5 => ?_) (fun h5 => ?_)
  · have h := g_f h h5
    refine lv_iconst (v := (-1 : Int32)) hx hb dO_inner_17 (by decide) ?_
    cases h
    exact pu_i S hr hlocks dO_inner_18 rfl
  · have h := g_t h h5
    refine lv_aload_n hx hb dO_inner_8 rfl (lv_at hl 0 rfl) ?_
    refine gf S hK hP 0 4 5 u_zO w_167 rfl rfl (by decide) rfl dO_inner_9 ?_
    refine lv_iload_n hx hb dO_inner_12 rfl (lv_at hl 1 rfl) ?_
    obtain ⟨b13, h⟩ := g_ok h
    refine va_iald hx hb hK hP 5 0 rfl rfl b13 dO_inner_13 ?_
    refine lv_goto (tgt := 18) hx hb dO_inner_14 (by decide) ?_
    cases h
    exact pu_i S hr hlocks dO_inner_18 rfl
def fO_isMark (v1 : Int32) (o_elementCount : Int32) (o_names : (Nat → Int32)) (b_count : Int32) (b_row : (Nat → Int32)) : Option (Bool) :=
  (fO_nameByte v1 (0 : Int32) o_elementCount o_names b_count b_row).bind fun u3 => (if u3 = (95 : Int32) then ((fO_nameByte v1 (1 : Int32) o_elementCount o_names b_count b_row).bind fun u14 => (if u14 = (116 : Int32) then ((fO_nameByte v1 (2 : Int32) o_elementCount o_names b_count b_row).bind fun u25 => (if u25 = 0 then (some (true)) else (some (false)))) else (some (false)))) else (some (false)))
set_option maxHeartbeats 4000000 in
set_option maxRecDepth 100000 in
theorem cO_isMark (l : Launch) (D : va_G) (cI cJ : ClassId) (oA oA0 oA1 oA2 oA3 oA4 bA bA0 : Nat) (v1 : Int32) (o_elementCount : Int32) (o_documentCount : Int32) (o_deepest : Int32) (o_types : (Nat → Int32)) (o_names : (Nat → Int32)) (o_contents : (Nat → Int32)) (o_holders : (Nat → Int32)) (o_inners : (Nat → Int32)) (b_count : Int32) (b_row : (Nat → Int32)) (r : Bool) (h : fO_isMark v1 o_elementCount o_names b_count b_row = some r) : Pu l yO_isMark bO_isMark 2 (some .boolean) (rL 2) [.ref oA, .int v1] D cI cJ [(oA, .inr (4, [.ref bA, .ref oA0, .ref oA1, .ref oA2, .ref oA3, .ref oA4, .int o_elementCount, .int o_documentCount, .int o_deepest])), (oA0, .inl (cI, 60, .inl o_types)), (oA1, .inl (cI, 60, .inl o_names)), (oA2, .inl (cI, 60, .inl o_contents)), (oA3, .inl (cI, 60, .inl o_holders)), (oA4, .inl (cI, 60, .inl o_inners)), (bA, .inr (0, [.ref bA0, .int b_count])), (bA0, .inl (cI, 120, .inl b_row))] (.int (bI r)) := by
  refine pu_of (by decide) (Nat.le_of_ble_eq_true rfl) ?_
  intro p e s m below meth c ls S hr hlocks hN hK hP hl
  have hx := S.1
  have hb := S.2.1
  have hl : lv_has ls 2 [(0, .ref oA), (1, .int v1)] := hl
  unfold fO_isMark at h
  refine lv_aload_n hx hb dO_isMark_0 rfl (lv_at hl 0 rfl) ?_
  refine lv_iload_n hx hb dO_isMark_1 rfl (lv_at hl 1 rfl) ?_
  refine lv_iconst (v := (0 : Int32)) hx hb dO_isMark_2 (by decide) ?_
  obtain ⟨u3, e3, h⟩ := g_bind h
  refine pu_v S hN hK hP (rest := []) (cO_nameByte l D cI cJ oA oA0 oA1 oA2 oA3 oA4 bA bA0 v1 (0 : Int32) o_elementCount o_documentCount o_deepest o_types o_names o_contents o_holders o_inners b_count b_row u3 e3) k_O_83 [0, 1, 2, 3, 4, 5, 6, 7] rfl 4 rfl rfl ⟨rfl, rfl⟩ ⟨Nat.le_of_ble_eq_true rfl, Nat.le_of_ble_eq_true rfl⟩ rfl hl.1 (Nat.le_of_ble_eq_true rfl) ⟨Nat.le_refl _, Nat.le_refl _⟩ dO_isMark_3 rfl ?_
  refine lv_bipush (v := (95 : Int32)) hx hb dO_isMark_6 (by decide) ?_
  refine lv_icmp_ne (tgt := 35) hx hb dO_isMark_8 (by decide) (fun h8 => ?_) (fun h8 => ?_)
  · have h := g_f h h8
    refine lv_iconst (v := (0 : Int32)) hx hb dO_isMark_35 (by decide) ?_
    cases h
    exact pu_z S hr hlocks dO_isMark_36 rfl
  · have h := g_t h h8
    refine lv_aload_n hx hb dO_isMark_11 rfl (lv_at hl 0 rfl) ?_
    refine lv_iload_n hx hb dO_isMark_12 rfl (lv_at hl 1 rfl) ?_
    refine lv_iconst (v := (1 : Int32)) hx hb dO_isMark_13 (by decide) ?_
    obtain ⟨u14, e14, h⟩ := g_bind h
    refine pu_v S hN hK hP (rest := []) (cO_nameByte l D cI cJ oA oA0 oA1 oA2 oA3 oA4 bA bA0 v1 (1 : Int32) o_elementCount o_documentCount o_deepest o_types o_names o_contents o_holders o_inners b_count b_row u14 e14) k_O_83 [0, 1, 2, 3, 4, 5, 6, 7] rfl 4 rfl rfl ⟨rfl, rfl⟩ ⟨Nat.le_of_ble_eq_true rfl, Nat.le_of_ble_eq_true rfl⟩ rfl hl.1 (Nat.le_of_ble_eq_true rfl) ⟨Nat.le_refl _, Nat.le_refl _⟩ dO_isMark_14 rfl ?_
    refine lv_bipush (v := (116 : Int32)) hx hb dO_isMark_17 (by decide) ?_
    refine lv_icmp_ne (tgt := 35) hx hb dO_isMark_19 (by decide) (fun h19 => ?_) (fun h19 => ?_)
    · have h := g_f h h19
      refine lv_iconst (v := (0 : Int32)) hx hb dO_isMark_35 (by decide) ?_
      cases h
      exact pu_z S hr hlocks dO_isMark_36 rfl
    · have h := g_t h h19
      refine lv_aload_n hx hb dO_isMark_22 rfl (lv_at hl 0 rfl) ?_
      refine lv_iload_n hx hb dO_isMark_23 rfl (lv_at hl 1 rfl) ?_
      refine lv_iconst (v := (2 : Int32)) hx hb dO_isMark_24 (by decide) ?_
      obtain ⟨u25, e25, h⟩ := g_bind h
      refine pu_v S hN hK hP (rest := []) (cO_nameByte l D cI cJ oA oA0 oA1 oA2 oA3 oA4 bA bA0 v1 (2 : Int32) o_elementCount o_documentCount o_deepest o_types o_names o_contents o_holders o_inners b_count b_row u25 e25) k_O_83 [0, 1, 2, 3, 4, 5, 6, 7] rfl 4 rfl rfl ⟨rfl, rfl⟩ ⟨Nat.le_of_ble_eq_true rfl, Nat.le_of_ble_eq_true rfl⟩ rfl hl.1 (Nat.le_of_ble_eq_true rfl) ⟨Nat.le_refl _, Nat.le_refl _⟩ dO_isMark_25 rfl ?_
      refine lv_if_ne (tgt := 35) hx hb dO_isMark_28 (by decide) (fun h28 => ?_) (fun h28 => ?_)
      · have h := g_f h h28
        refine lv_iconst (v := (0 : Int32)) hx hb dO_isMark_35 (by decide) ?_
        cases h
        exact pu_z S hr hlocks dO_isMark_36 rfl
      · have h := g_t h h28
        refine lv_iconst (v := (1 : Int32)) hx hb dO_isMark_31 (by decide) ?_
        refine lv_goto (tgt := 36) hx hb dO_isMark_32 (by decide) ?_
        cases h
        exact pu_z S hr hlocks dO_isMark_36 rfl
def fO_type (v1 : Int32) (o_elementCount : Int32) (o_types : (Nat → Int32)) : Option (Int32) :=
  (fO_hasElement v1 o_elementCount).bind fun u2 => (if u2 = true then (if ok v1 60 = true then (some (o_types v1.toNatClampNeg)) else none) else (some ((-1 : Int32))))
set_option maxHeartbeats 4000000 in
set_option maxRecDepth 100000 in
theorem cO_type (l : Launch) (D : va_G) (cI cJ : ClassId) (oA oA0 oA1 oA2 oA3 oA4 bA bA0 : Nat) (v1 : Int32) (o_elementCount : Int32) (o_documentCount : Int32) (o_deepest : Int32) (o_types : (Nat → Int32)) (o_names : (Nat → Int32)) (o_contents : (Nat → Int32)) (o_holders : (Nat → Int32)) (o_inners : (Nat → Int32)) (b_count : Int32) (b_row : (Nat → Int32)) (r : Int32) (h : fO_type v1 o_elementCount o_types = some r) : Pu l yO_type bO_type 2 (some .int) (rL 1) [.ref oA, .int v1] D cI cJ [(oA, .inr (4, [.ref bA, .ref oA0, .ref oA1, .ref oA2, .ref oA3, .ref oA4, .int o_elementCount, .int o_documentCount, .int o_deepest])), (oA0, .inl (cI, 60, .inl o_types)), (oA1, .inl (cI, 60, .inl o_names)), (oA2, .inl (cI, 60, .inl o_contents)), (oA3, .inl (cI, 60, .inl o_holders)), (oA4, .inl (cI, 60, .inl o_inners)), (bA, .inr (0, [.ref bA0, .int b_count])), (bA0, .inl (cI, 120, .inl b_row))] (.int r) := by
  refine pu_of (by decide) (Nat.le_of_ble_eq_true rfl) ?_
  intro p e s m below meth c ls S hr hlocks hN hK hP hl
  have hx := S.1
  have hb := S.2.1
  have hl : lv_has ls 2 [(0, .ref oA), (1, .int v1)] := hl
  unfold fO_type at h
  refine lv_aload_n hx hb dO_type_0 rfl (lv_at hl 0 rfl) ?_
  refine lv_iload_n hx hb dO_type_1 rfl (lv_at hl 1 rfl) ?_
  obtain ⟨u2, e2, h⟩ := g_bind h
  refine pu_v S hN hK hP (rest := []) (cO_hasElement l D cI cJ oA oA0 oA1 oA2 oA3 oA4 bA bA0 v1 o_elementCount o_documentCount o_deepest o_types o_names o_contents o_holders o_inners b_count b_row u2 e2) k_O_79 [0, 1, 2, 3, 4, 5, 6, 7] rfl 4 rfl rfl ⟨rfl, rfl⟩ ⟨Nat.le_of_ble_eq_true rfl, Nat.le_of_ble_eq_true rfl⟩ rfl hl.1 (Nat.le_of_ble_eq_true rfl) ⟨Nat.le_refl _, Nat.le_refl _⟩ dO_type_2 rfl ?_
  refine b_ifeq (tgt := 17) hx hb dO_type_5 (by decide) (fun h5 => ?_) (fun h5 => ?_)
  · have h := g_f h h5
    refine lv_iconst (v := (-1 : Int32)) hx hb dO_type_17 (by decide) ?_
    cases h
    exact pu_i S hr hlocks dO_type_18 rfl
  · have h := g_t h h5
    refine lv_aload_n hx hb dO_type_8 rfl (lv_at hl 0 rfl) ?_
    refine gf S hK hP 0 4 1 u_zO w_163 rfl rfl (by decide) rfl dO_type_9 ?_
    refine lv_iload_n hx hb dO_type_12 rfl (lv_at hl 1 rfl) ?_
    obtain ⟨b13, h⟩ := g_ok h
    refine va_iald hx hb hK hP 1 0 rfl rfl b13 dO_type_13 ?_
    refine lv_goto (tgt := 18) hx hb dO_type_14 (by decide) ?_
    cases h
    exact pu_i S hr hlocks dO_type_18 rfl
def fO_content (v1 : Int32) (o_elementCount : Int32) (o_contents : (Nat → Int32)) : Option (Int32) :=
  (fO_hasElement v1 o_elementCount).bind fun u2 => (if u2 = true then (if ok v1 60 = true then (some (o_contents v1.toNatClampNeg)) else none) else (some ((-1 : Int32))))
set_option maxHeartbeats 4000000 in
set_option maxRecDepth 100000 in
theorem cO_content (l : Launch) (D : va_G) (cI cJ : ClassId) (oA oA0 oA1 oA2 oA3 oA4 bA bA0 : Nat) (v1 : Int32) (o_elementCount : Int32) (o_documentCount : Int32) (o_deepest : Int32) (o_types : (Nat → Int32)) (o_names : (Nat → Int32)) (o_contents : (Nat → Int32)) (o_holders : (Nat → Int32)) (o_inners : (Nat → Int32)) (b_count : Int32) (b_row : (Nat → Int32)) (r : Int32) (h : fO_content v1 o_elementCount o_contents = some r) : Pu l yO_content bO_content 2 (some .int) (rL 1) [.ref oA, .int v1] D cI cJ [(oA, .inr (4, [.ref bA, .ref oA0, .ref oA1, .ref oA2, .ref oA3, .ref oA4, .int o_elementCount, .int o_documentCount, .int o_deepest])), (oA0, .inl (cI, 60, .inl o_types)), (oA1, .inl (cI, 60, .inl o_names)), (oA2, .inl (cI, 60, .inl o_contents)), (oA3, .inl (cI, 60, .inl o_holders)), (oA4, .inl (cI, 60, .inl o_inners)), (bA, .inr (0, [.ref bA0, .int b_count])), (bA0, .inl (cI, 120, .inl b_row))] (.int r) := by
  refine pu_of (by decide) (Nat.le_of_ble_eq_true rfl) ?_
  intro p e s m below meth c ls S hr hlocks hN hK hP hl
  have hx := S.1
  have hb := S.2.1
  have hl : lv_has ls 2 [(0, .ref oA), (1, .int v1)] := hl
  unfold fO_content at h
  refine lv_aload_n hx hb dO_content_0 rfl (lv_at hl 0 rfl) ?_
  refine lv_iload_n hx hb dO_content_1 rfl (lv_at hl 1 rfl) ?_
  obtain ⟨u2, e2, h⟩ := g_bind h
  refine pu_v S hN hK hP (rest := []) (cO_hasElement l D cI cJ oA oA0 oA1 oA2 oA3 oA4 bA bA0 v1 o_elementCount o_documentCount o_deepest o_types o_names o_contents o_holders o_inners b_count b_row u2 e2) k_O_79 [0, 1, 2, 3, 4, 5, 6, 7] rfl 4 rfl rfl ⟨rfl, rfl⟩ ⟨Nat.le_of_ble_eq_true rfl, Nat.le_of_ble_eq_true rfl⟩ rfl hl.1 (Nat.le_of_ble_eq_true rfl) ⟨Nat.le_refl _, Nat.le_refl _⟩ dO_content_2 rfl ?_
  refine b_ifeq (tgt := 17) hx hb dO_content_5 (by decide) (fun h5 => ?_) (fun h5 => ?_)
  · have h := g_f h h5
    refine lv_iconst (v := (-1 : Int32)) hx hb dO_content_17 (by decide) ?_
    cases h
    exact pu_i S hr hlocks dO_content_18 rfl
  · have h := g_t h h5
    refine lv_aload_n hx hb dO_content_8 rfl (lv_at hl 0 rfl) ?_
    refine gf S hK hP 0 4 3 u_zO w_165 rfl rfl (by decide) rfl dO_content_9 ?_
    refine lv_iload_n hx hb dO_content_12 rfl (lv_at hl 1 rfl) ?_
    obtain ⟨b13, h⟩ := g_ok h
    refine va_iald hx hb hK hP 3 0 rfl rfl b13 dO_content_13 ?_
    refine lv_goto (tgt := 18) hx hb dO_content_14 (by decide) ?_
    cases h
    exact pu_i S hr hlocks dO_content_18 rfl
def fO_endOfText_4 (N : Nat) (v1 : Int32) (b_count : Int32) (b_row : (Nat → Int32)) (rc4 : Int32 × Int32 → Option (Int32)) (v2 : Int32) (v3 : Int32) : Option (Int32) :=
  if (120 : Int32) ≤ v3 then (some (v2)) else ((fB_at v2 b_count b_row).bind fun u15 => (if u15 ≤ 0 then (some (v2)) else ((fB_at v2 b_count b_row).bind fun u26 => (if (127 : Int32) < u26 then (some (v2)) else (rc4 (v2 + (1 : Int32), v3 + (1 : Int32)))))))
def fO_endOfText_4l (N : Nat) (v1 : Int32) (b_count : Int32) (b_row : (Nat → Int32)) : Nat → Int32 × Int32 → Option (Int32) := lp (fun rc a => fO_endOfText_4 N v1 b_count b_row rc a.1 a.2)
def fO_endOfText (N : Nat) (v1 : Int32) (b_count : Int32) (b_row : (Nat → Int32)) : Option (Int32) :=
  fO_endOfText_4l N v1 b_count b_row N (v1, (0 : Int32))
set_option maxHeartbeats 4000000 in
set_option maxRecDepth 100000 in
theorem cO_endOfText (l : Launch) (D : va_G) (cI cJ : ClassId) (oA oA0 oA1 oA2 oA3 oA4 bA bA0 : Nat) (N : Nat) (v1 : Int32) (o_elementCount : Int32) (o_documentCount : Int32) (o_deepest : Int32) (o_types : (Nat → Int32)) (o_names : (Nat → Int32)) (o_contents : (Nat → Int32)) (o_holders : (Nat → Int32)) (o_inners : (Nat → Int32)) (b_count : Int32) (b_row : (Nat → Int32)) (r : Int32) (h : fO_endOfText N v1 b_count b_row = some r) : Pu l yO_endOfText bO_endOfText 4 (some .int) (rL 1) [.ref oA, .int v1] D cI cJ [(oA, .inr (4, [.ref bA, .ref oA0, .ref oA1, .ref oA2, .ref oA3, .ref oA4, .int o_elementCount, .int o_documentCount, .int o_deepest])), (oA0, .inl (cI, 60, .inl o_types)), (oA1, .inl (cI, 60, .inl o_names)), (oA2, .inl (cI, 60, .inl o_contents)), (oA3, .inl (cI, 60, .inl o_holders)), (oA4, .inl (cI, 60, .inl o_inners)), (bA, .inr (0, [.ref bA0, .int b_count])), (bA0, .inl (cI, 120, .inl b_row))] (.int r) := by
  refine pu_of (by decide) (Nat.le_of_ble_eq_true rfl) ?_
  intro p e s m below meth c ls S hr hlocks hN hK hP hl
  have hx := S.1
  have hb := S.2.1
  have hl : lv_has ls 4 [(0, .ref oA), (1, .int v1)] := hl
  unfold fO_endOfText at h
  have t4 : ∀ (k : Nat) (a : Int32 × Int32), fO_endOfText_4l N v1 b_count b_row k a = some r → ∀ (ls : Array Slot), lv_has ls 4 [(0, .ref oA), (2, .int a.1), (3, .int a.2)] → W p l e (rL 1) s m ([.ref oA, .int v1] : List Value).toArray below meth c s.heap [] 0 0 (MQ below (fun _ st oc t => oc = .returned (some (.int r)) ∧ t.heap = st.heap) ([.ref oA, .int v1] : List Value).toArray s 0 0 (fun _ => False)) (F0 m 4 ls []) := by
    unfold fO_endOfText_4l
    refine lp_some ?_
    intro rc4 hrc4 a h
    obtain ⟨v2, v3⟩ := a
    intro ls hl
    have h : fO_endOfText_4 N v1 b_count b_row rc4 v2 v3 = some r := h
    have hl : lv_has ls 4 [(0, .ref oA), (2, .int v2), (3, .int v3)] := hl
    unfold fO_endOfText_4 at h
    refine lv_iload_n hx hb dO_endOfText_4 rfl (lv_at hl 2 rfl) ?_
    refine lv_bipush (v := (120 : Int32)) hx hb dO_endOfText_5 (by decide) ?_
    refine lv_icmp_ge (tgt := 43) hx hb dO_endOfText_7 (by decide) (fun h7 => ?_) (fun h7 => ?_)
    · have h := g_t h h7
      refine lv_iload_n hx hb dO_endOfText_43 rfl (lv_at hl 1 rfl) ?_
      cases h
      exact pu_i S hr hlocks dO_endOfText_44 rfl
    · have h := g_f h h7
      refine lv_aload_n hx hb dO_endOfText_10 rfl (lv_at hl 0 rfl) ?_
      refine gf S hK hP 0 4 0 u_zO w_162 rfl rfl (by decide) rfl dO_endOfText_11 ?_
      refine lv_iload_n hx hb dO_endOfText_14 rfl (lv_at hl 1 rfl) ?_
      obtain ⟨u15, e15, h⟩ := g_bind h
      refine pu_v S hN hK hP (rest := []) (cB_at l D cI cJ bA bA0 v2 b_count b_row u15 e15) k_O_59 [6, 7] rfl 0 rfl rfl ⟨rfl, rfl⟩ ⟨Nat.le_of_ble_eq_true rfl, Nat.le_of_ble_eq_true rfl⟩ rfl hl.1 (Nat.le_of_ble_eq_true rfl) ⟨Nat.le_refl _, Nat.le_refl _⟩ dO_endOfText_15 rfl ?_
      refine lv_if_le (tgt := 43) hx hb dO_endOfText_18 (by decide) (fun h18 => ?_) (fun h18 => ?_)
      · have h := g_t h h18
        refine lv_iload_n hx hb dO_endOfText_43 rfl (lv_at hl 1 rfl) ?_
        cases h
        exact pu_i S hr hlocks dO_endOfText_44 rfl
      · have h := g_f h h18
        refine lv_aload_n hx hb dO_endOfText_21 rfl (lv_at hl 0 rfl) ?_
        refine gf S hK hP 0 4 0 u_zO w_162 rfl rfl (by decide) rfl dO_endOfText_22 ?_
        refine lv_iload_n hx hb dO_endOfText_25 rfl (lv_at hl 1 rfl) ?_
        obtain ⟨u26, e26, h⟩ := g_bind h
        refine pu_v S hN hK hP (rest := []) (cB_at l D cI cJ bA bA0 v2 b_count b_row u26 e26) k_O_59 [6, 7] rfl 0 rfl rfl ⟨rfl, rfl⟩ ⟨Nat.le_of_ble_eq_true rfl, Nat.le_of_ble_eq_true rfl⟩ rfl hl.1 (Nat.le_of_ble_eq_true rfl) ⟨Nat.le_refl _, Nat.le_refl _⟩ dO_endOfText_26 rfl ?_
        refine lv_bipush (v := (127 : Int32)) hx hb dO_endOfText_29 (by decide) ?_
        refine lv_icmp_gt (tgt := 43) hx hb dO_endOfText_31 (by decide) (fun h31 => ?_) (fun h31 => ?_)
        · have h := g_t h h31
          refine lv_iload_n hx hb dO_endOfText_43 rfl (lv_at hl 1 rfl) ?_
          cases h
          exact pu_i S hr hlocks dO_endOfText_44 rfl
        · have h := g_f h h31
          refine lv_iinc (k := 1) (v := v2 + (1 : Int32)) (lv' := [(2, .int (v2 + (1 : Int32))), (0, .ref oA), (3, .int v3)]) hx hb dO_endOfText_34 hl rfl (congrArg (v2 + ·) (by decide : Int32.ofInt (1) = (1 : Int32))) (Nat.le_of_ble_eq_true rfl) rfl (fun ls hl => ?_)
          refine lv_iinc (k := 2) (v := v3 + (1 : Int32)) (lv' := [(3, .int (v3 + (1 : Int32))), (2, .int (v2 + (1 : Int32))), (0, .ref oA)]) hx hb dO_endOfText_37 hl rfl (congrArg (v3 + ·) (by decide : Int32.ofInt (1) = (1 : Int32))) (Nat.le_of_ble_eq_true rfl) rfl (fun ls hl => ?_)
          refine lv_goto (tgt := 4) hx hb dO_endOfText_40 (by decide) ?_
          exact hrc4 (v2 + (1 : Int32), v3 + (1 : Int32)) h _ (lv_sub hl [2, 1, 0] rfl)
  refine lv_iload_n hx hb dO_endOfText_0 rfl (lv_at hl 1 rfl) ?_
  refine lv_istore_n (lv' := [(2, .int v1), (0, .ref oA), (1, .int v1)]) hx hb dO_endOfText_1 rfl hl (Nat.le_of_ble_eq_true rfl) rfl (fun ls hl => ?_)
  refine lv_iconst (v := (0 : Int32)) hx hb dO_endOfText_2 (by decide) ?_
  refine lv_istore_n (lv' := [(3, .int (0 : Int32)), (2, .int v1), (0, .ref oA), (1, .int v1)]) hx hb dO_endOfText_3 rfl hl (Nat.le_of_ble_eq_true rfl) rfl (fun ls hl => ?_)
  exact t4 N (v1, (0 : Int32)) h _ (lv_sub hl [2, 1, 0] rfl)
def fO_readText (N : Nat) (v1 : Int32) (b_count : Int32) (b_row : (Nat → Int32)) : Option (Int32) :=
  (fO_endOfText N (v1 + (4 : Int32)) b_count b_row).bind fun u6 => ((fB_at u6 b_count b_row).bind fun u15 => (if u15 = 0 then ((fB_intAt N v1 b_count b_row).bind fun u26 => (if u26 = ((u6 + (1 : Int32)) - (v1 + (4 : Int32))) then (some (u6 + (1 : Int32))) else (some ((-1 : Int32))))) else (some ((-1 : Int32)))))
set_option maxHeartbeats 4000000 in
set_option maxRecDepth 100000 in
theorem cO_readText (l : Launch) (D : va_G) (cI cJ : ClassId) (oA oA0 oA1 oA2 oA3 oA4 bA bA0 : Nat) (N : Nat) (v1 : Int32) (o_elementCount : Int32) (o_documentCount : Int32) (o_deepest : Int32) (o_types : (Nat → Int32)) (o_names : (Nat → Int32)) (o_contents : (Nat → Int32)) (o_holders : (Nat → Int32)) (o_inners : (Nat → Int32)) (b_count : Int32) (b_row : (Nat → Int32)) (r : Int32) (h : fO_readText N v1 b_count b_row = some r) : Pu l yO_readText bO_readText 5 (some .int) (rL 2) [.ref oA, .int v1] D cI cJ [(oA, .inr (4, [.ref bA, .ref oA0, .ref oA1, .ref oA2, .ref oA3, .ref oA4, .int o_elementCount, .int o_documentCount, .int o_deepest])), (oA0, .inl (cI, 60, .inl o_types)), (oA1, .inl (cI, 60, .inl o_names)), (oA2, .inl (cI, 60, .inl o_contents)), (oA3, .inl (cI, 60, .inl o_holders)), (oA4, .inl (cI, 60, .inl o_inners)), (bA, .inr (0, [.ref bA0, .int b_count])), (bA0, .inl (cI, 120, .inl b_row))] (.int r) := by
  refine pu_of (by decide) (Nat.le_of_ble_eq_true rfl) ?_
  intro p e s m below meth c ls S hr hlocks hN hK hP hl
  have hx := S.1
  have hb := S.2.1
  have hl : lv_has ls 5 [(0, .ref oA), (1, .int v1)] := hl
  unfold fO_readText at h
  refine lv_iload_n hx hb dO_readText_0 rfl (lv_at hl 1 rfl) ?_
  refine lv_iconst (v := (4 : Int32)) hx hb dO_readText_1 (by decide) ?_
  refine lv_iadd hx hb dO_readText_2 ?_
  refine lv_istore_n (lv' := [(2, .int (v1 + (4 : Int32))), (0, .ref oA), (1, .int v1)]) hx hb dO_readText_3 rfl hl (Nat.le_of_ble_eq_true rfl) rfl (fun ls hl => ?_)
  refine lv_aload_n hx hb dO_readText_4 rfl (lv_at hl 1 rfl) ?_
  refine lv_iload_n hx hb dO_readText_5 rfl (lv_at hl 0 rfl) ?_
  obtain ⟨u6, e6, h⟩ := g_bind h
  refine pu_v S hN hK hP (rest := []) (cO_endOfText l D cI cJ oA oA0 oA1 oA2 oA3 oA4 bA bA0 N (v1 + (4 : Int32)) o_elementCount o_documentCount o_deepest o_types o_names o_contents o_holders o_inners b_count b_row u6 e6) k_O_70 [0, 1, 2, 3, 4, 5, 6, 7] rfl 4 rfl rfl ⟨rfl, rfl⟩ ⟨Nat.le_of_ble_eq_true rfl, Nat.le_of_ble_eq_true rfl⟩ rfl hl.1 (Nat.le_of_ble_eq_true rfl) ⟨Nat.le_refl _, Nat.le_refl _⟩ dO_readText_6 rfl ?_
  refine lv_istore_n (lv' := [(3, .int u6), (2, .int (v1 + (4 : Int32))), (0, .ref oA), (1, .int v1)]) hx hb dO_readText_9 rfl hl (Nat.le_of_ble_eq_true rfl) rfl (fun ls hl => ?_)
  refine lv_aload_n hx hb dO_readText_10 rfl (lv_at hl 2 rfl) ?_
  refine gf S hK hP 0 4 0 u_zO w_162 rfl rfl (by decide) rfl dO_readText_11 ?_
  refine lv_iload_n hx hb dO_readText_14 rfl (lv_at hl 0 rfl) ?_
  obtain ⟨u15, e15, h⟩ := g_bind h
  refine pu_v S hN hK hP (rest := []) (cB_at l D cI cJ bA bA0 u6 b_count b_row u15 e15) k_O_59 [6, 7] rfl 0 rfl rfl ⟨rfl, rfl⟩ ⟨Nat.le_of_ble_eq_true rfl, Nat.le_of_ble_eq_true rfl⟩ rfl hl.1 (Nat.le_of_ble_eq_true rfl) ⟨Nat.le_refl _, Nat.le_refl _⟩ dO_readText_15 rfl ?_
  refine lv_if_ne (tgt := 41) hx hb dO_readText_18 (by decide) (fun h18 => ?_) (fun h18 => ?_)
  · have h := g_f h h18
    refine lv_iconst (v := (0 : Int32)) hx hb dO_readText_41 (by decide) ?_
    refine lv_istore (lv' := [(4, .int (0 : Int32)), (3, .int u6), (2, .int (v1 + (4 : Int32))), (0, .ref oA), (1, .int v1)]) hx hb dO_readText_42 hl (Nat.le_of_ble_eq_true rfl) rfl (fun ls hl => ?_)
    refine lv_iload hx hb dO_readText_44 (lv_at hl 0 rfl) ?_
    refine lv_if_eq (tgt := 55) hx hb dO_readText_46 (by decide) (fun h46 => ?_) (fun h46 => ?_)
    · refine lv_iconst (v := (-1 : Int32)) hx hb dO_readText_55 (by decide) ?_
      cases h
      exact pu_i S hr hlocks dO_readText_56 rfl
    · exact absurd h46 (by decide)
  · have h := g_t h h18
    refine lv_aload_n hx hb dO_readText_21 rfl (lv_at hl 2 rfl) ?_
    refine gf S hK hP 0 4 0 u_zO w_162 rfl rfl (by decide) rfl dO_readText_22 ?_
    refine lv_iload_n hx hb dO_readText_25 rfl (lv_at hl 3 rfl) ?_
    obtain ⟨u26, e26, h⟩ := g_bind h
    refine pu_v S hN hK hP (rest := []) (cB_intAt l D cI cJ bA bA0 N v1 b_count b_row u26 e26) k_O_67 [6, 7] rfl 0 rfl rfl ⟨rfl, rfl⟩ ⟨Nat.le_of_ble_eq_true rfl, Nat.le_of_ble_eq_true rfl⟩ rfl hl.1 (Nat.le_of_ble_eq_true rfl) ⟨Nat.le_refl _, Nat.le_refl _⟩ dO_readText_26 rfl ?_
    refine lv_iload_n hx hb dO_readText_29 rfl (lv_at hl 0 rfl) ?_
    refine lv_iconst (v := (1 : Int32)) hx hb dO_readText_30 (by decide) ?_
    refine lv_iadd hx hb dO_readText_31 ?_
    refine lv_iload_n hx hb dO_readText_32 rfl (lv_at hl 1 rfl) ?_
    refine lv_isub hx hb dO_readText_33 ?_
    refine lv_icmp_ne (tgt := 41) hx hb dO_readText_34 (by decide) (fun h34 => ?_) (fun h34 => ?_)
    · have h := g_f h h34
      refine lv_iconst (v := (0 : Int32)) hx hb dO_readText_41 (by decide) ?_
      refine lv_istore (lv' := [(4, .int (0 : Int32)), (3, .int u6), (2, .int (v1 + (4 : Int32))), (0, .ref oA), (1, .int v1)]) hx hb dO_readText_42 hl (Nat.le_of_ble_eq_true rfl) rfl (fun ls hl => ?_)
      refine lv_iload hx hb dO_readText_44 (lv_at hl 0 rfl) ?_
      refine lv_if_eq (tgt := 55) hx hb dO_readText_46 (by decide) (fun h46 => ?_) (fun h46 => ?_)
      · refine lv_iconst (v := (-1 : Int32)) hx hb dO_readText_55 (by decide) ?_
        cases h
        exact pu_i S hr hlocks dO_readText_56 rfl
      · exact absurd h46 (by decide)
    · have h := g_t h h34
      refine lv_iconst (v := (1 : Int32)) hx hb dO_readText_37 (by decide) ?_
      refine lv_goto (tgt := 42) hx hb dO_readText_38 (by decide) ?_
      refine lv_istore (lv' := [(4, .int (1 : Int32)), (3, .int u6), (2, .int (v1 + (4 : Int32))), (0, .ref oA), (1, .int v1)]) hx hb dO_readText_42 hl (Nat.le_of_ble_eq_true rfl) rfl (fun ls hl => ?_)
      refine lv_iload hx hb dO_readText_44 (lv_at hl 0 rfl) ?_
      refine lv_if_eq (tgt := 55) hx hb dO_readText_46 (by decide) (fun h46 => ?_) (fun h46 => ?_)
      · exact absurd h46 (by decide)
      · refine lv_iload_n hx hb dO_readText_49 rfl (lv_at hl 1 rfl) ?_
        refine lv_iconst (v := (1 : Int32)) hx hb dO_readText_50 (by decide) ?_
        refine lv_iadd hx hb dO_readText_51 ?_
        refine lv_goto (tgt := 56) hx hb dO_readText_52 (by decide) ?_
        cases h
        exact pu_i S hr hlocks dO_readText_56 rfl
def fO_readContent (N : Nat) (rk : Int32 × Int32 × Int32 × Int32 × Int32 × (Nat → Int32) × (Nat → Int32) × (Nat → Int32) × (Nat → Int32) × (Nat → Int32) → Option (Int32 × Int32 × Int32 × Int32 × (Nat → Int32) × (Nat → Int32) × (Nat → Int32) × (Nat → Int32) × (Nat → Int32))) (v1 : Int32) (v2 : Int32) (v3 : Int32) (o_elementCount : Int32) (o_documentCount : Int32) (o_deepest : Int32) (o_types : (Nat → Int32)) (o_names : (Nat → Int32)) (o_contents : (Nat → Int32)) (o_holders : (Nat → Int32)) (o_inners : (Nat → Int32)) (b_count : Int32) (b_row : (Nat → Int32)) : Option (Int32 × Int32 × Int32 × Int32 × (Nat → Int32) × (Nat → Int32) × (Nat → Int32) × (Nat → Int32) × (Nat → Int32)) :=
  if v1 = (2 : Int32) then ((fO_readText N v2 b_count b_row).bind fun u86 => (some (u86, o_elementCount, o_documentCount, o_deepest, o_types, o_names, o_contents, o_holders, o_inners))) else (if v1 = (3 : Int32) then ((rk (v2, v3 + (1 : Int32), o_elementCount, o_documentCount, o_deepest, o_types, o_names, o_contents, o_holders, o_inners)).bind fun u95 => (some (u95.1, u95.2.1, u95.2.2.1, u95.2.2.2.1, u95.2.2.2.2.1, u95.2.2.2.2.2.1, u95.2.2.2.2.2.2.1, u95.2.2.2.2.2.2.2.1, u95.2.2.2.2.2.2.2.2))) else (if v1 = (8 : Int32) then ((fB_at v2 b_count b_row).bind fun u104 => (if u104 = 0 then (some (v2 + (1 : Int32), o_elementCount, o_documentCount, o_deepest, o_types, o_names, o_contents, o_holders, o_inners)) else ((fB_at v2 b_count b_row).bind fun u115 => (if u115 = (1 : Int32) then (some (v2 + (1 : Int32), o_elementCount, o_documentCount, o_deepest, o_types, o_names, o_contents, o_holders, o_inners)) else (some ((-1 : Int32), o_elementCount, o_documentCount, o_deepest, o_types, o_names, o_contents, o_holders, o_inners)))))) else (if v1 = (10 : Int32) then (some (v2, o_elementCount, o_documentCount, o_deepest, o_types, o_names, o_contents, o_holders, o_inners)) else (if v1 = (16 : Int32) then ((fB_holds v2 (4 : Int32) b_count).bind fun u138 => (if u138 = true then (some (v2 + (4 : Int32), o_elementCount, o_documentCount, o_deepest, o_types, o_names, o_contents, o_holders, o_inners)) else (some ((-1 : Int32), o_elementCount, o_documentCount, o_deepest, o_types, o_names, o_contents, o_holders, o_inners)))) else (if v1 = (18 : Int32) then ((fB_holds v2 (8 : Int32) b_count).bind fun u159 => (if u159 = true then (some (v2 + (8 : Int32), o_elementCount, o_documentCount, o_deepest, o_types, o_names, o_contents, o_holders, o_inners)) else (some ((-1 : Int32), o_elementCount, o_documentCount, o_deepest, o_types, o_names, o_contents, o_holders, o_inners)))) else (some ((-1 : Int32), o_elementCount, o_documentCount, o_deepest, o_types, o_names, o_contents, o_holders, o_inners)))))))
set_option maxHeartbeats 4000000 in
set_option maxRecDepth 100000 in
theorem cO_readContent (l : Launch) (D : va_G) (cI cJ : ClassId) (oA oA0 oA1 oA2 oA3 oA4 bA bA0 : Nat) (N : Nat) (rk : Int32 × Int32 × Int32 × Int32 × Int32 × (Nat → Int32) × (Nat → Int32) × (Nat → Int32) × (Nat → Int32) × (Nat → Int32) → Option (Int32 × Int32 × Int32 × Int32 × (Nat → Int32) × (Nat → Int32) × (Nat → Int32) × (Nat → Int32) × (Nat → Int32))) (v1 : Int32) (v2 : Int32) (v3 : Int32) (o_elementCount : Int32) (o_documentCount : Int32) (o_deepest : Int32) (o_types : (Nat → Int32)) (o_names : (Nat → Int32)) (o_contents : (Nat → Int32)) (o_holders : (Nat → Int32)) (o_inners : (Nat → Int32)) (b_count : Int32) (b_row : (Nat → Int32)) (kk : Nat) (hrk : ∀ (v1 : Int32) (v2 : Int32) (o_elementCount : Int32) (o_documentCount : Int32) (o_deepest : Int32) (o_types : (Nat → Int32)) (o_names : (Nat → Int32)) (o_contents : (Nat → Int32)) (o_holders : (Nat → Int32)) (o_inners : (Nat → Int32)) (r : Int32 × Int32 × Int32 × Int32 × (Nat → Int32) × (Nat → Int32) × (Nat → Int32) × (Nat → Int32) × (Nat → Int32)), rk (v1, v2, o_elementCount, o_documentCount, o_deepest, o_types, o_names, o_contents, o_holders, o_inners) = some r → Mu l yO_readDocument bO_readDocument 6 (some .int) (rL (kk + 10)) [.ref oA, .int v1, .int v2] D cI cJ [(oA, .inr (4, [.ref bA, .ref oA0, .ref oA1, .ref oA2, .ref oA3, .ref oA4, .int o_elementCount, .int o_documentCount, .int o_deepest])), (oA0, .inl (cI, 60, .inl o_types)), (oA1, .inl (cI, 60, .inl o_names)), (oA2, .inl (cI, 60, .inl o_contents)), (oA3, .inl (cI, 60, .inl o_holders)), (oA4, .inl (cI, 60, .inl o_inners)), (bA, .inr (0, [.ref bA0, .int b_count])), (bA0, .inl (cI, 120, .inl b_row))] (some (.int r.1)) [(oA, .inr (4, [.ref bA, .ref oA0, .ref oA1, .ref oA2, .ref oA3, .ref oA4, .int r.2.1, .int r.2.2.1, .int r.2.2.2.1])), (oA0, .inl (cI, 60, .inl r.2.2.2.2.1)), (oA1, .inl (cI, 60, .inl r.2.2.2.2.2.1)), (oA2, .inl (cI, 60, .inl r.2.2.2.2.2.2.1)), (oA3, .inl (cI, 60, .inl r.2.2.2.2.2.2.2.1)), (oA4, .inl (cI, 60, .inl r.2.2.2.2.2.2.2.2)), (bA, .inr (0, [.ref bA0, .int b_count])), (bA0, .inl (cI, 120, .inl b_row))]) (r : Int32 × Int32 × Int32 × Int32 × (Nat → Int32) × (Nat → Int32) × (Nat → Int32) × (Nat → Int32) × (Nat → Int32)) (h : fO_readContent N rk v1 v2 v3 o_elementCount o_documentCount o_deepest o_types o_names o_contents o_holders o_inners b_count b_row = some r) : Mu l yO_readContent bO_readContent 4 (some .int) (rL (kk + 11)) [.ref oA, .int v1, .int v2, .int v3] D cI cJ [(oA, .inr (4, [.ref bA, .ref oA0, .ref oA1, .ref oA2, .ref oA3, .ref oA4, .int o_elementCount, .int o_documentCount, .int o_deepest])), (oA0, .inl (cI, 60, .inl o_types)), (oA1, .inl (cI, 60, .inl o_names)), (oA2, .inl (cI, 60, .inl o_contents)), (oA3, .inl (cI, 60, .inl o_holders)), (oA4, .inl (cI, 60, .inl o_inners)), (bA, .inr (0, [.ref bA0, .int b_count])), (bA0, .inl (cI, 120, .inl b_row))] (some (.int r.1)) [(oA, .inr (4, [.ref bA, .ref oA0, .ref oA1, .ref oA2, .ref oA3, .ref oA4, .int r.2.1, .int r.2.2.1, .int r.2.2.2.1])), (oA0, .inl (cI, 60, .inl r.2.2.2.2.1)), (oA1, .inl (cI, 60, .inl r.2.2.2.2.2.1)), (oA2, .inl (cI, 60, .inl r.2.2.2.2.2.2.1)), (oA3, .inl (cI, 60, .inl r.2.2.2.2.2.2.2.1)), (oA4, .inl (cI, 60, .inl r.2.2.2.2.2.2.2.2)), (bA, .inr (0, [.ref bA0, .int b_count])), (bA0, .inl (cI, 120, .inl b_row))] := by
  refine mu_of (by decide) (Nat.le_of_ble_eq_true rfl) ?_
  intro p e s m below meth c ls A S hr hlocks hN hK hP hD hA hl
  have hS : va_S A s.heap s.heap [] := va_S.rf
  have hx := S.1
  have hb := S.2.1
  have hl : lv_has ls 4 [(0, .ref oA), (1, .int v1), (2, .int v2), (3, .int v3)] := hl
  unfold fO_readContent at h
  refine lv_iload_n hx hb dO_readContent_0 rfl (lv_at hl 1 rfl) ?_
  by_cases h1_2 : v1 = (2 : Int32)
  · have h := g_t h h1_2
    refine lv_tableIn (off := 83) (tgt := 84) hx hb dO_readContent_1 (by rw [h1_2]; decide) (by rw [h1_2]; decide) (by rw [h1_2]; rfl) (by decide) ?_
    refine lv_aload_n hx hb dO_readContent_84 rfl (lv_at hl 0 rfl) ?_
    refine lv_iload_n hx hb dO_readContent_85 rfl (lv_at hl 2 rfl) ?_
    obtain ⟨u86, e86, h⟩ := g_bind h
    refine pu_v S hN hK hP (rest := []) (cO_readText l D cI cJ oA oA0 oA1 oA2 oA3 oA4 bA bA0 N v2 o_elementCount o_documentCount o_deepest o_types o_names o_contents o_holders o_inners b_count b_row u86 e86) k_O_76 [0, 1, 2, 3, 4, 5, 6, 7] rfl 4 rfl rfl ⟨rfl, rfl⟩ ⟨by simp only [rL]; omega, by simp only [rL]; omega⟩ rfl hl.1 (Nat.le_of_ble_eq_true rfl) ⟨Nat.le_refl _, Nat.le_refl _⟩ dO_readContent_86 rfl ?_
    cases h
    exact mu_i S hr hlocks hP hS dO_readContent_89 rfl rfl
  have h := g_f h h1_2
  by_cases h1_3 : v1 = (3 : Int32)
  · have h := g_t h h1_3
    refine lv_tableIn (off := 89) (tgt := 90) hx hb dO_readContent_1 (by rw [h1_3]; decide) (by rw [h1_3]; decide) (by rw [h1_3]; rfl) (by decide) ?_
    refine lv_aload_n hx hb dO_readContent_90 rfl (lv_at hl 0 rfl) ?_
    refine lv_iload_n hx hb dO_readContent_91 rfl (lv_at hl 2 rfl) ?_
    refine lv_iload_n hx hb dO_readContent_92 rfl (lv_at hl 3 rfl) ?_
    refine lv_iconst (v := (1 : Int32)) hx hb dO_readContent_93 (by decide) ?_
    refine lv_iadd hx hb dO_readContent_94 ?_
    obtain ⟨u95, e95, h⟩ := g_bind h
    refine mu_v S hN hK hP hD hS hA (rest := []) (hrk v2 (v3 + (1 : Int32)) o_elementCount o_documentCount o_deepest o_types o_names o_contents o_holders o_inners u95 e95) k_O_41 [0, 1, 2, 3, 4, 5, 6, 7] [(some 0), (some 1), (some 2), (some 3), (some 4), (some 5), (some 6), (some 7)] [(oA, .inr (4, [.ref bA, .ref oA0, .ref oA1, .ref oA2, .ref oA3, .ref oA4, .int u95.2.1, .int u95.2.2.1, .int u95.2.2.2.1])), (oA0, .inl (cI, 60, .inl u95.2.2.2.2.1)), (oA1, .inl (cI, 60, .inl u95.2.2.2.2.2.1)), (oA2, .inl (cI, 60, .inl u95.2.2.2.2.2.2.1)), (oA3, .inl (cI, 60, .inl u95.2.2.2.2.2.2.2.1)), (oA4, .inl (cI, 60, .inl u95.2.2.2.2.2.2.2.2)), (bA, .inr (0, [.ref bA0, .int b_count])), (bA0, .inl (cI, 120, .inl b_row))] rfl rfl rfl ⟨rfl, rfl, rfl, rfl, rfl, rfl, rfl, rfl, trivial⟩ (by decide +kernel) 4 rfl rfl ⟨rfl, rfl⟩ ⟨by simp only [rL]; omega, by simp only [rL]; omega⟩ rfl hl.1 (Nat.le_of_ble_eq_true rfl) ⟨Nat.le_refl _, Nat.le_refl _⟩ dO_readContent_95 rfl (fun H locs hP hD hS => ?_)
    cases h
    exact mu_i S hr hlocks hP hS dO_readContent_98 rfl rfl
  have h := g_f h h1_3
  by_cases h1_8 : v1 = (8 : Int32)
  · have h := g_t h h1_8
    refine lv_tableIn (off := 98) (tgt := 99) hx hb dO_readContent_1 (by rw [h1_8]; decide) (by rw [h1_8]; decide) (by rw [h1_8]; rfl) (by decide) ?_
    refine lv_aload_n hx hb dO_readContent_99 rfl (lv_at hl 0 rfl) ?_
    refine gf S hK hP 0 4 0 u_zO w_162 rfl rfl (by decide) rfl dO_readContent_100 ?_
    refine lv_iload_n hx hb dO_readContent_103 rfl (lv_at hl 2 rfl) ?_
    obtain ⟨u104, e104, h⟩ := g_bind h
    refine pu_v S hN hK hP (rest := []) (cB_at l D cI cJ bA bA0 v2 b_count b_row u104 e104) k_O_59 [6, 7] rfl 0 rfl rfl ⟨rfl, rfl⟩ ⟨by simp only [rL]; omega, by simp only [rL]; omega⟩ rfl hl.1 (Nat.le_of_ble_eq_true rfl) ⟨Nat.le_refl _, Nat.le_refl _⟩ dO_readContent_104 rfl ?_
    refine lv_if_eq (tgt := 122) hx hb dO_readContent_107 (by decide) (fun h107 => ?_) (fun h107 => ?_)
    · have h := g_t h h107
      refine lv_iload_n hx hb dO_readContent_122 rfl (lv_at hl 2 rfl) ?_
      refine lv_iconst (v := (1 : Int32)) hx hb dO_readContent_123 (by decide) ?_
      refine lv_iadd hx hb dO_readContent_124 ?_
      refine lv_goto (tgt := 129) hx hb dO_readContent_125 (by decide) ?_
      cases h
      exact mu_i S hr hlocks hP hS dO_readContent_129 rfl rfl
    · have h := g_f h h107
      refine lv_aload_n hx hb dO_readContent_110 rfl (lv_at hl 0 rfl) ?_
      refine gf S hK hP 0 4 0 u_zO w_162 rfl rfl (by decide) rfl dO_readContent_111 ?_
      refine lv_iload_n hx hb dO_readContent_114 rfl (lv_at hl 2 rfl) ?_
      obtain ⟨u115, e115, h⟩ := g_bind h
      refine pu_v S hN hK hP (rest := []) (cB_at l D cI cJ bA bA0 v2 b_count b_row u115 e115) k_O_59 [6, 7] rfl 0 rfl rfl ⟨rfl, rfl⟩ ⟨by simp only [rL]; omega, by simp only [rL]; omega⟩ rfl hl.1 (Nat.le_of_ble_eq_true rfl) ⟨Nat.le_refl _, Nat.le_refl _⟩ dO_readContent_115 rfl ?_
      refine lv_iconst (v := (1 : Int32)) hx hb dO_readContent_118 (by decide) ?_
      refine lv_icmp_ne (tgt := 128) hx hb dO_readContent_119 (by decide) (fun h119 => ?_) (fun h119 => ?_)
      · have h := g_f h h119
        refine lv_iconst (v := (-1 : Int32)) hx hb dO_readContent_128 (by decide) ?_
        cases h
        exact mu_i S hr hlocks hP hS dO_readContent_129 rfl rfl
      · have h := g_t h h119
        refine lv_iload_n hx hb dO_readContent_122 rfl (lv_at hl 2 rfl) ?_
        refine lv_iconst (v := (1 : Int32)) hx hb dO_readContent_123 (by decide) ?_
        refine lv_iadd hx hb dO_readContent_124 ?_
        refine lv_goto (tgt := 129) hx hb dO_readContent_125 (by decide) ?_
        cases h
        exact mu_i S hr hlocks hP hS dO_readContent_129 rfl rfl
  have h := g_f h h1_8
  by_cases h1_10 : v1 = (10 : Int32)
  · have h := g_t h h1_10
    refine lv_tableIn (off := 129) (tgt := 130) hx hb dO_readContent_1 (by rw [h1_10]; decide) (by rw [h1_10]; decide) (by rw [h1_10]; rfl) (by decide) ?_
    refine lv_iload_n hx hb dO_readContent_130 rfl (lv_at hl 2 rfl) ?_
    cases h
    exact mu_i S hr hlocks hP hS dO_readContent_131 rfl rfl
  have h := g_f h h1_10
  by_cases h1_16 : v1 = (16 : Int32)
  · have h := g_t h h1_16
    refine lv_tableIn (off := 131) (tgt := 132) hx hb dO_readContent_1 (by rw [h1_16]; decide) (by rw [h1_16]; decide) (by rw [h1_16]; rfl) (by decide) ?_
    refine lv_aload_n hx hb dO_readContent_132 rfl (lv_at hl 0 rfl) ?_
    refine gf S hK hP 0 4 0 u_zO w_162 rfl rfl (by decide) rfl dO_readContent_133 ?_
    refine lv_iload_n hx hb dO_readContent_136 rfl (lv_at hl 2 rfl) ?_
    refine lv_iconst (v := (4 : Int32)) hx hb dO_readContent_137 (by decide) ?_
    obtain ⟨u138, e138, h⟩ := g_bind h
    refine pu_v S hN hK hP (rest := []) (cB_holds l D cI cJ bA bA0 v2 (4 : Int32) b_count b_row u138 e138) k_O_50 [6, 7] rfl 0 rfl rfl ⟨rfl, rfl⟩ ⟨by simp only [rL]; omega, by simp only [rL]; omega⟩ rfl hl.1 (Nat.le_of_ble_eq_true rfl) ⟨Nat.le_refl _, Nat.le_refl _⟩ dO_readContent_138 rfl ?_
    refine b_ifeq (tgt := 150) hx hb dO_readContent_141 (by decide) (fun h141 => ?_) (fun h141 => ?_)
    · have h := g_f h h141
      refine lv_iconst (v := (-1 : Int32)) hx hb dO_readContent_150 (by decide) ?_
      cases h
      exact mu_i S hr hlocks hP hS dO_readContent_151 rfl rfl
    · have h := g_t h h141
      refine lv_iload_n hx hb dO_readContent_144 rfl (lv_at hl 2 rfl) ?_
      refine lv_iconst (v := (4 : Int32)) hx hb dO_readContent_145 (by decide) ?_
      refine lv_iadd hx hb dO_readContent_146 ?_
      refine lv_goto (tgt := 151) hx hb dO_readContent_147 (by decide) ?_
      cases h
      exact mu_i S hr hlocks hP hS dO_readContent_151 rfl rfl
  have h := g_f h h1_16
  by_cases h1_18 : v1 = (18 : Int32)
  · have h := g_t h h1_18
    refine lv_tableIn (off := 151) (tgt := 152) hx hb dO_readContent_1 (by rw [h1_18]; decide) (by rw [h1_18]; decide) (by rw [h1_18]; rfl) (by decide) ?_
    refine lv_aload_n hx hb dO_readContent_152 rfl (lv_at hl 0 rfl) ?_
    refine gf S hK hP 0 4 0 u_zO w_162 rfl rfl (by decide) rfl dO_readContent_153 ?_
    refine lv_iload_n hx hb dO_readContent_156 rfl (lv_at hl 2 rfl) ?_
    refine lv_bipush (v := (8 : Int32)) hx hb dO_readContent_157 (by decide) ?_
    obtain ⟨u159, e159, h⟩ := g_bind h
    refine pu_v S hN hK hP (rest := []) (cB_holds l D cI cJ bA bA0 v2 (8 : Int32) b_count b_row u159 e159) k_O_50 [6, 7] rfl 0 rfl rfl ⟨rfl, rfl⟩ ⟨by simp only [rL]; omega, by simp only [rL]; omega⟩ rfl hl.1 (Nat.le_of_ble_eq_true rfl) ⟨Nat.le_refl _, Nat.le_refl _⟩ dO_readContent_159 rfl ?_
    refine b_ifeq (tgt := 172) hx hb dO_readContent_162 (by decide) (fun h162 => ?_) (fun h162 => ?_)
    · have h := g_f h h162
      refine lv_iconst (v := (-1 : Int32)) hx hb dO_readContent_172 (by decide) ?_
      cases h
      exact mu_i S hr hlocks hP hS dO_readContent_173 rfl rfl
    · have h := g_t h h162
      refine lv_iload_n hx hb dO_readContent_165 rfl (lv_at hl 2 rfl) ?_
      refine lv_bipush (v := (8 : Int32)) hx hb dO_readContent_166 (by decide) ?_
      refine lv_iadd hx hb dO_readContent_168 ?_
      refine lv_goto (tgt := 173) hx hb dO_readContent_169 (by decide) ?_
      cases h
      exact mu_i S hr hlocks hP hS dO_readContent_173 rfl rfl
  have h := g_f h h1_18
  refine lv_tableD (tgt := 174) hx hb dO_readContent_1 (fun q1 q2 => by have a2 := lv_neT h1_2 (a := 2) (by decide); have a3 := lv_neT h1_3 (a := 3) (by decide); have a8 := lv_neT h1_8 (a := 8) (by decide); have a10 := lv_neT h1_10 (a := 10) (by decide); have a16 := lv_neT h1_16 (a := 16) (by decide); have a18 := lv_neT h1_18 (a := 18) (by decide); rcases (show (v1).toInt = 4 ∨ (v1).toInt = 5 ∨ (v1).toInt = 6 ∨ (v1).toInt = 7 ∨ (v1).toInt = 9 ∨ (v1).toInt = 11 ∨ (v1).toInt = 12 ∨ (v1).toInt = 13 ∨ (v1).toInt = 14 ∨ (v1).toInt = 15 ∨ (v1).toInt = 17 by omega) with q | q | q | q | q | q | q | q | q | q | q <;> rw [q] <;> rfl) (by decide) ?_
  refine lv_iconst (v := (-1 : Int32)) hx hb dO_readContent_174 (by decide) ?_
  cases h
  exact mu_i S hr hlocks hP hS dO_readContent_175 rfl rfl
def fO_readElement (N : Nat) (rk : Int32 × Int32 × Int32 × Int32 × Int32 × (Nat → Int32) × (Nat → Int32) × (Nat → Int32) × (Nat → Int32) × (Nat → Int32) → Option (Int32 × Int32 × Int32 × Int32 × (Nat → Int32) × (Nat → Int32) × (Nat → Int32) × (Nat → Int32) × (Nat → Int32))) (v1 : Int32) (v2 : Int32) (v3 : Int32) (o_elementCount : Int32) (o_documentCount : Int32) (o_deepest : Int32) (o_types : (Nat → Int32)) (o_names : (Nat → Int32)) (o_contents : (Nat → Int32)) (o_holders : (Nat → Int32)) (o_inners : (Nat → Int32)) (b_count : Int32) (b_row : (Nat → Int32)) : Option (Int32 × Int32 × Int32 × Int32 × (Nat → Int32) × (Nat → Int32) × (Nat → Int32) × (Nat → Int32) × (Nat → Int32)) :=
  (fO_endOfText N (v1 + (1 : Int32)) b_count b_row).bind fun u4 => (if (60 : Int32) ≤ o_elementCount then (some ((-1 : Int32), o_elementCount, o_documentCount, o_deepest, o_types, o_names, o_contents, o_holders, o_inners)) else ((fB_at u4 b_count b_row).bind fun u24 => (if u24 = 0 then ((fB_at v1 b_count b_row).bind fun u37 => (if ok o_elementCount 60 = true then (if ok o_elementCount 60 = true then (if ok o_elementCount 60 = true then (if ok o_elementCount 60 = true then (if u37 = (3 : Int32) then (if ok o_elementCount 60 = true then ((fO_readContent N rk u37 (u4 + (1 : Int32)) v3 (o_elementCount + (1 : Int32)) o_documentCount o_deepest (upd o_types o_elementCount.toNatClampNeg u37) (upd o_names o_elementCount.toNatClampNeg (v1 + (1 : Int32))) (upd o_contents o_elementCount.toNatClampNeg (u4 + (1 : Int32))) (upd o_holders o_elementCount.toNatClampNeg v2) (upd o_inners o_elementCount.toNatClampNeg o_documentCount) b_count b_row).bind fun u131 => (some (u131.1, u131.2.1, u131.2.2.1, u131.2.2.2.1, u131.2.2.2.2.1, u131.2.2.2.2.2.1, u131.2.2.2.2.2.2.1, u131.2.2.2.2.2.2.2.1, u131.2.2.2.2.2.2.2.2))) else none) else (if ok o_elementCount 60 = true then ((fO_readContent N rk u37 (u4 + (1 : Int32)) v3 (o_elementCount + (1 : Int32)) o_documentCount o_deepest (upd o_types o_elementCount.toNatClampNeg u37) (upd o_names o_elementCount.toNatClampNeg (v1 + (1 : Int32))) (upd o_contents o_elementCount.toNatClampNeg (u4 + (1 : Int32))) (upd o_holders o_elementCount.toNatClampNeg v2) (upd o_inners o_elementCount.toNatClampNeg (-1 : Int32)) b_count b_row).bind fun u131 => (some (u131.1, u131.2.1, u131.2.2.1, u131.2.2.2.1, u131.2.2.2.2.1, u131.2.2.2.2.2.1, u131.2.2.2.2.2.2.1, u131.2.2.2.2.2.2.2.1, u131.2.2.2.2.2.2.2.2))) else none)) else none) else none) else none) else none)) else (some ((-1 : Int32), o_elementCount, o_documentCount, o_deepest, o_types, o_names, o_contents, o_holders, o_inners)))))
set_option maxHeartbeats 4000000 in
set_option maxRecDepth 100000 in
theorem cO_readElement (l : Launch) (D : va_G) (cI cJ : ClassId) (oA oA0 oA1 oA2 oA3 oA4 bA bA0 : Nat) (N : Nat) (rk : Int32 × Int32 × Int32 × Int32 × Int32 × (Nat → Int32) × (Nat → Int32) × (Nat → Int32) × (Nat → Int32) × (Nat → Int32) → Option (Int32 × Int32 × Int32 × Int32 × (Nat → Int32) × (Nat → Int32) × (Nat → Int32) × (Nat → Int32) × (Nat → Int32))) (v1 : Int32) (v2 : Int32) (v3 : Int32) (o_elementCount : Int32) (o_documentCount : Int32) (o_deepest : Int32) (o_types : (Nat → Int32)) (o_names : (Nat → Int32)) (o_contents : (Nat → Int32)) (o_holders : (Nat → Int32)) (o_inners : (Nat → Int32)) (b_count : Int32) (b_row : (Nat → Int32)) (kk : Nat) (hrk : ∀ (v1 : Int32) (v2 : Int32) (o_elementCount : Int32) (o_documentCount : Int32) (o_deepest : Int32) (o_types : (Nat → Int32)) (o_names : (Nat → Int32)) (o_contents : (Nat → Int32)) (o_holders : (Nat → Int32)) (o_inners : (Nat → Int32)) (r : Int32 × Int32 × Int32 × Int32 × (Nat → Int32) × (Nat → Int32) × (Nat → Int32) × (Nat → Int32) × (Nat → Int32)), rk (v1, v2, o_elementCount, o_documentCount, o_deepest, o_types, o_names, o_contents, o_holders, o_inners) = some r → Mu l yO_readDocument bO_readDocument 6 (some .int) (rL (kk + 10)) [.ref oA, .int v1, .int v2] D cI cJ [(oA, .inr (4, [.ref bA, .ref oA0, .ref oA1, .ref oA2, .ref oA3, .ref oA4, .int o_elementCount, .int o_documentCount, .int o_deepest])), (oA0, .inl (cI, 60, .inl o_types)), (oA1, .inl (cI, 60, .inl o_names)), (oA2, .inl (cI, 60, .inl o_contents)), (oA3, .inl (cI, 60, .inl o_holders)), (oA4, .inl (cI, 60, .inl o_inners)), (bA, .inr (0, [.ref bA0, .int b_count])), (bA0, .inl (cI, 120, .inl b_row))] (some (.int r.1)) [(oA, .inr (4, [.ref bA, .ref oA0, .ref oA1, .ref oA2, .ref oA3, .ref oA4, .int r.2.1, .int r.2.2.1, .int r.2.2.2.1])), (oA0, .inl (cI, 60, .inl r.2.2.2.2.1)), (oA1, .inl (cI, 60, .inl r.2.2.2.2.2.1)), (oA2, .inl (cI, 60, .inl r.2.2.2.2.2.2.1)), (oA3, .inl (cI, 60, .inl r.2.2.2.2.2.2.2.1)), (oA4, .inl (cI, 60, .inl r.2.2.2.2.2.2.2.2)), (bA, .inr (0, [.ref bA0, .int b_count])), (bA0, .inl (cI, 120, .inl b_row))]) (r : Int32 × Int32 × Int32 × Int32 × (Nat → Int32) × (Nat → Int32) × (Nat → Int32) × (Nat → Int32) × (Nat → Int32)) (h : fO_readElement N rk v1 v2 v3 o_elementCount o_documentCount o_deepest o_types o_names o_contents o_holders o_inners b_count b_row = some r) : Mu l yO_readElement bO_readElement 7 (some .int) (rL (kk + 12)) [.ref oA, .int v1, .int v2, .int v3] D cI cJ [(oA, .inr (4, [.ref bA, .ref oA0, .ref oA1, .ref oA2, .ref oA3, .ref oA4, .int o_elementCount, .int o_documentCount, .int o_deepest])), (oA0, .inl (cI, 60, .inl o_types)), (oA1, .inl (cI, 60, .inl o_names)), (oA2, .inl (cI, 60, .inl o_contents)), (oA3, .inl (cI, 60, .inl o_holders)), (oA4, .inl (cI, 60, .inl o_inners)), (bA, .inr (0, [.ref bA0, .int b_count])), (bA0, .inl (cI, 120, .inl b_row))] (some (.int r.1)) [(oA, .inr (4, [.ref bA, .ref oA0, .ref oA1, .ref oA2, .ref oA3, .ref oA4, .int r.2.1, .int r.2.2.1, .int r.2.2.2.1])), (oA0, .inl (cI, 60, .inl r.2.2.2.2.1)), (oA1, .inl (cI, 60, .inl r.2.2.2.2.2.1)), (oA2, .inl (cI, 60, .inl r.2.2.2.2.2.2.1)), (oA3, .inl (cI, 60, .inl r.2.2.2.2.2.2.2.1)), (oA4, .inl (cI, 60, .inl r.2.2.2.2.2.2.2.2)), (bA, .inr (0, [.ref bA0, .int b_count])), (bA0, .inl (cI, 120, .inl b_row))] := by
  refine mu_of (by decide) (Nat.le_of_ble_eq_true rfl) ?_
  intro p e s m below meth c ls A S hr hlocks hN hK hP hD hA hl
  have hS : va_S A s.heap s.heap [] := va_S.rf
  have hx := S.1
  have hb := S.2.1
  have hl : lv_has ls 7 [(0, .ref oA), (1, .int v1), (2, .int v2), (3, .int v3)] := hl
  unfold fO_readElement at h
  refine lv_aload_n hx hb dO_readElement_0 rfl (lv_at hl 0 rfl) ?_
  refine lv_iload_n hx hb dO_readElement_1 rfl (lv_at hl 1 rfl) ?_
  refine lv_iconst (v := (1 : Int32)) hx hb dO_readElement_2 (by decide) ?_
  refine lv_iadd hx hb dO_readElement_3 ?_
  obtain ⟨u4, e4, h⟩ := g_bind h
  refine pu_v S hN hK hP (rest := []) (cO_endOfText l D cI cJ oA oA0 oA1 oA2 oA3 oA4 bA bA0 N (v1 + (1 : Int32)) o_elementCount o_documentCount o_deepest o_types o_names o_contents o_holders o_inners b_count b_row u4 e4) k_O_70 [0, 1, 2, 3, 4, 5, 6, 7] rfl 4 rfl rfl ⟨rfl, rfl⟩ ⟨by simp only [rL]; omega, by simp only [rL]; omega⟩ rfl hl.1 (Nat.le_of_ble_eq_true rfl) ⟨Nat.le_refl _, Nat.le_refl _⟩ dO_readElement_4 rfl ?_
  refine lv_istore (lv' := [(4, .int u4), (0, .ref oA), (1, .int v1), (2, .int v2), (3, .int v3)]) hx hb dO_readElement_7 hl (Nat.le_of_ble_eq_true rfl) rfl (fun ls hl => ?_)
  refine lv_aload_n hx hb dO_readElement_9 rfl (lv_at hl 1 rfl) ?_
  refine gf S hK hP 0 4 6 u_zO w_168 rfl rfl (by decide) rfl dO_readElement_10 ?_
  refine lv_bipush (v := (60 : Int32)) hx hb dO_readElement_13 (by decide) ?_
  refine lv_icmp_ge (tgt := 30) hx hb dO_readElement_15 (by decide) (fun h15 => ?_) (fun h15 => ?_)
  · have h := g_t h h15
    refine lv_iconst (v := (-1 : Int32)) hx hb dO_readElement_30 (by decide) ?_
    cases h
    exact mu_i S hr hlocks hP hS dO_readElement_31 rfl rfl
  · have h := g_f h h15
    refine lv_aload_n hx hb dO_readElement_18 rfl (lv_at hl 1 rfl) ?_
    refine gf S hK hP 0 4 0 u_zO w_162 rfl rfl (by decide) rfl dO_readElement_19 ?_
    refine lv_iload hx hb dO_readElement_22 (lv_at hl 0 rfl) ?_
    obtain ⟨u24, e24, h⟩ := g_bind h
    refine pu_v S hN hK hP (rest := []) (cB_at l D cI cJ bA bA0 u4 b_count b_row u24 e24) k_O_59 [6, 7] rfl 0 rfl rfl ⟨rfl, rfl⟩ ⟨by simp only [rL]; omega, by simp only [rL]; omega⟩ rfl hl.1 (Nat.le_of_ble_eq_true rfl) ⟨Nat.le_refl _, Nat.le_refl _⟩ dO_readElement_24 rfl ?_
    refine lv_if_eq (tgt := 32) hx hb dO_readElement_27 (by decide) (fun h27 => ?_) (fun h27 => ?_)
    · have h := g_t h h27
      refine lv_aload_n hx hb dO_readElement_32 rfl (lv_at hl 1 rfl) ?_
      refine gf S hK hP 0 4 0 u_zO w_162 rfl rfl (by decide) rfl dO_readElement_33 ?_
      refine lv_iload_n hx hb dO_readElement_36 rfl (lv_at hl 2 rfl) ?_
      obtain ⟨u37, e37, h⟩ := g_bind h
      refine pu_v S hN hK hP (rest := []) (cB_at l D cI cJ bA bA0 v1 b_count b_row u37 e37) k_O_59 [6, 7] rfl 0 rfl rfl ⟨rfl, rfl⟩ ⟨by simp only [rL]; omega, by simp only [rL]; omega⟩ rfl hl.1 (Nat.le_of_ble_eq_true rfl) ⟨Nat.le_refl _, Nat.le_refl _⟩ dO_readElement_37 rfl ?_
      refine lv_istore (lv' := [(5, .int u37), (4, .int u4), (0, .ref oA), (1, .int v1), (2, .int v2), (3, .int v3)]) hx hb dO_readElement_40 hl (Nat.le_of_ble_eq_true rfl) rfl (fun ls hl => ?_)
      refine lv_iload hx hb dO_readElement_42 (lv_at hl 1 rfl) ?_
      refine lv_iconst (v := (1 : Int32)) hx hb dO_readElement_44 (by decide) ?_
      refine lv_iadd hx hb dO_readElement_45 ?_
      refine lv_istore (lv' := [(6, .int (u4 + (1 : Int32))), (5, .int u37), (4, .int u4), (0, .ref oA), (1, .int v1), (2, .int v2), (3, .int v3)]) hx hb dO_readElement_46 hl (Nat.le_of_ble_eq_true rfl) rfl (fun ls hl => ?_)
      refine lv_aload_n hx hb dO_readElement_48 rfl (lv_at hl 3 rfl) ?_
      refine gf S hK hP 0 4 1 u_zO w_163 rfl rfl (by decide) rfl dO_readElement_49 ?_
      refine lv_aload_n hx hb dO_readElement_52 rfl (lv_at hl 3 rfl) ?_
      refine gf S hK hP 0 4 6 u_zO w_168 rfl rfl (by decide) rfl dO_readElement_53 ?_
      refine lv_iload hx hb dO_readElement_56 (lv_at hl 1 rfl) ?_
      obtain ⟨b58, h⟩ := g_ok h
      refine va_iast hx hb hK hP hD hS 1 0 rfl rfl b58 dO_readElement_58 (fun H locs hP hD hS => ?_)
      have hP : va_P D cs [(oA, .inr (4, [.ref bA, .ref oA0, .ref oA1, .ref oA2, .ref oA3, .ref oA4, .int o_elementCount, .int o_documentCount, .int o_deepest])), (oA0, .inl (cI, 60, .inl (upd o_types o_elementCount.toNatClampNeg u37))), (oA1, .inl (cI, 60, .inl o_names)), (oA2, .inl (cI, 60, .inl o_contents)), (oA3, .inl (cI, 60, .inl o_holders)), (oA4, .inl (cI, 60, .inl o_inners)), (bA, .inr (0, [.ref bA0, .int b_count])), (bA0, .inl (cI, 120, .inl b_row))] H := hP
      have hD : va_D A [(oA, .inr (4, [.ref bA, .ref oA0, .ref oA1, .ref oA2, .ref oA3, .ref oA4, .int o_elementCount, .int o_documentCount, .int o_deepest])), (oA0, .inl (cI, 60, .inl (upd o_types o_elementCount.toNatClampNeg u37))), (oA1, .inl (cI, 60, .inl o_names)), (oA2, .inl (cI, 60, .inl o_contents)), (oA3, .inl (cI, 60, .inl o_holders)), (oA4, .inl (cI, 60, .inl o_inners)), (bA, .inr (0, [.ref bA0, .int b_count])), (bA0, .inl (cI, 120, .inl b_row))] := hD
      refine lv_aload_n hx hb dO_readElement_59 rfl (lv_at hl 3 rfl) ?_
      refine gf S hK hP 0 4 2 u_zO w_164 rfl rfl (by decide) rfl dO_readElement_60 ?_
      refine lv_aload_n hx hb dO_readElement_63 rfl (lv_at hl 3 rfl) ?_
      refine gf S hK hP 0 4 6 u_zO w_168 rfl rfl (by decide) rfl dO_readElement_64 ?_
      refine lv_iload_n hx hb dO_readElement_67 rfl (lv_at hl 4 rfl) ?_
      refine lv_iconst (v := (1 : Int32)) hx hb dO_readElement_68 (by decide) ?_
      refine lv_iadd hx hb dO_readElement_69 ?_
      obtain ⟨b70, h⟩ := g_ok h
      refine va_iast hx hb hK hP hD hS 2 0 rfl rfl b70 dO_readElement_70 (fun H locs hP hD hS => ?_)
      have hP : va_P D cs [(oA, .inr (4, [.ref bA, .ref oA0, .ref oA1, .ref oA2, .ref oA3, .ref oA4, .int o_elementCount, .int o_documentCount, .int o_deepest])), (oA0, .inl (cI, 60, .inl (upd o_types o_elementCount.toNatClampNeg u37))), (oA1, .inl (cI, 60, .inl (upd o_names o_elementCount.toNatClampNeg (v1 + (1 : Int32))))), (oA2, .inl (cI, 60, .inl o_contents)), (oA3, .inl (cI, 60, .inl o_holders)), (oA4, .inl (cI, 60, .inl o_inners)), (bA, .inr (0, [.ref bA0, .int b_count])), (bA0, .inl (cI, 120, .inl b_row))] H := hP
      have hD : va_D A [(oA, .inr (4, [.ref bA, .ref oA0, .ref oA1, .ref oA2, .ref oA3, .ref oA4, .int o_elementCount, .int o_documentCount, .int o_deepest])), (oA0, .inl (cI, 60, .inl (upd o_types o_elementCount.toNatClampNeg u37))), (oA1, .inl (cI, 60, .inl (upd o_names o_elementCount.toNatClampNeg (v1 + (1 : Int32))))), (oA2, .inl (cI, 60, .inl o_contents)), (oA3, .inl (cI, 60, .inl o_holders)), (oA4, .inl (cI, 60, .inl o_inners)), (bA, .inr (0, [.ref bA0, .int b_count])), (bA0, .inl (cI, 120, .inl b_row))] := hD
      refine lv_aload_n hx hb dO_readElement_71 rfl (lv_at hl 3 rfl) ?_
      refine gf S hK hP 0 4 3 u_zO w_165 rfl rfl (by decide) rfl dO_readElement_72 ?_
      refine lv_aload_n hx hb dO_readElement_75 rfl (lv_at hl 3 rfl) ?_
      refine gf S hK hP 0 4 6 u_zO w_168 rfl rfl (by decide) rfl dO_readElement_76 ?_
      refine lv_iload hx hb dO_readElement_79 (lv_at hl 0 rfl) ?_
      obtain ⟨b81, h⟩ := g_ok h
      refine va_iast hx hb hK hP hD hS 3 0 rfl rfl b81 dO_readElement_81 (fun H locs hP hD hS => ?_)
      have hP : va_P D cs [(oA, .inr (4, [.ref bA, .ref oA0, .ref oA1, .ref oA2, .ref oA3, .ref oA4, .int o_elementCount, .int o_documentCount, .int o_deepest])), (oA0, .inl (cI, 60, .inl (upd o_types o_elementCount.toNatClampNeg u37))), (oA1, .inl (cI, 60, .inl (upd o_names o_elementCount.toNatClampNeg (v1 + (1 : Int32))))), (oA2, .inl (cI, 60, .inl (upd o_contents o_elementCount.toNatClampNeg (u4 + (1 : Int32))))), (oA3, .inl (cI, 60, .inl o_holders)), (oA4, .inl (cI, 60, .inl o_inners)), (bA, .inr (0, [.ref bA0, .int b_count])), (bA0, .inl (cI, 120, .inl b_row))] H := hP
      have hD : va_D A [(oA, .inr (4, [.ref bA, .ref oA0, .ref oA1, .ref oA2, .ref oA3, .ref oA4, .int o_elementCount, .int o_documentCount, .int o_deepest])), (oA0, .inl (cI, 60, .inl (upd o_types o_elementCount.toNatClampNeg u37))), (oA1, .inl (cI, 60, .inl (upd o_names o_elementCount.toNatClampNeg (v1 + (1 : Int32))))), (oA2, .inl (cI, 60, .inl (upd o_contents o_elementCount.toNatClampNeg (u4 + (1 : Int32))))), (oA3, .inl (cI, 60, .inl o_holders)), (oA4, .inl (cI, 60, .inl o_inners)), (bA, .inr (0, [.ref bA0, .int b_count])), (bA0, .inl (cI, 120, .inl b_row))] := hD
      refine lv_aload_n hx hb dO_readElement_82 rfl (lv_at hl 3 rfl) ?_
      refine gf S hK hP 0 4 4 u_zO w_166 rfl rfl (by decide) rfl dO_readElement_83 ?_
      refine lv_aload_n hx hb dO_readElement_86 rfl (lv_at hl 3 rfl) ?_
      refine gf S hK hP 0 4 6 u_zO w_168 rfl rfl (by decide) rfl dO_readElement_87 ?_
      refine lv_iload_n hx hb dO_readElement_90 rfl (lv_at hl 5 rfl) ?_
      obtain ⟨b91, h⟩ := g_ok h
      refine va_iast hx hb hK hP hD hS 4 0 rfl rfl b91 dO_readElement_91 (fun H locs hP hD hS => ?_)
      have hP : va_P D cs [(oA, .inr (4, [.ref bA, .ref oA0, .ref oA1, .ref oA2, .ref oA3, .ref oA4, .int o_elementCount, .int o_documentCount, .int o_deepest])), (oA0, .inl (cI, 60, .inl (upd o_types o_elementCount.toNatClampNeg u37))), (oA1, .inl (cI, 60, .inl (upd o_names o_elementCount.toNatClampNeg (v1 + (1 : Int32))))), (oA2, .inl (cI, 60, .inl (upd o_contents o_elementCount.toNatClampNeg (u4 + (1 : Int32))))), (oA3, .inl (cI, 60, .inl (upd o_holders o_elementCount.toNatClampNeg v2))), (oA4, .inl (cI, 60, .inl o_inners)), (bA, .inr (0, [.ref bA0, .int b_count])), (bA0, .inl (cI, 120, .inl b_row))] H := hP
      have hD : va_D A [(oA, .inr (4, [.ref bA, .ref oA0, .ref oA1, .ref oA2, .ref oA3, .ref oA4, .int o_elementCount, .int o_documentCount, .int o_deepest])), (oA0, .inl (cI, 60, .inl (upd o_types o_elementCount.toNatClampNeg u37))), (oA1, .inl (cI, 60, .inl (upd o_names o_elementCount.toNatClampNeg (v1 + (1 : Int32))))), (oA2, .inl (cI, 60, .inl (upd o_contents o_elementCount.toNatClampNeg (u4 + (1 : Int32))))), (oA3, .inl (cI, 60, .inl (upd o_holders o_elementCount.toNatClampNeg v2))), (oA4, .inl (cI, 60, .inl o_inners)), (bA, .inr (0, [.ref bA0, .int b_count])), (bA0, .inl (cI, 120, .inl b_row))] := hD
      refine lv_aload_n hx hb dO_readElement_92 rfl (lv_at hl 3 rfl) ?_
      refine gf S hK hP 0 4 5 u_zO w_167 rfl rfl (by decide) rfl dO_readElement_93 ?_
      refine lv_aload_n hx hb dO_readElement_96 rfl (lv_at hl 3 rfl) ?_
      refine gf S hK hP 0 4 6 u_zO w_168 rfl rfl (by decide) rfl dO_readElement_97 ?_
      refine lv_iload hx hb dO_readElement_100 (lv_at hl 1 rfl) ?_
      refine lv_iconst (v := (3 : Int32)) hx hb dO_readElement_102 (by decide) ?_
      refine lv_icmp_ne (tgt := 113) hx hb dO_readElement_103 (by decide) (fun h103 => ?_) (fun h103 => ?_)
      · have h := g_f h h103
        refine lv_iconst (v := (-1 : Int32)) hx hb dO_readElement_113 (by decide) ?_
        obtain ⟨b114, h⟩ := g_ok h
        refine va_iast hx hb hK hP hD hS 5 0 rfl rfl b114 dO_readElement_114 (fun H locs hP hD hS => ?_)
        have hP : va_P D cs [(oA, .inr (4, [.ref bA, .ref oA0, .ref oA1, .ref oA2, .ref oA3, .ref oA4, .int o_elementCount, .int o_documentCount, .int o_deepest])), (oA0, .inl (cI, 60, .inl (upd o_types o_elementCount.toNatClampNeg u37))), (oA1, .inl (cI, 60, .inl (upd o_names o_elementCount.toNatClampNeg (v1 + (1 : Int32))))), (oA2, .inl (cI, 60, .inl (upd o_contents o_elementCount.toNatClampNeg (u4 + (1 : Int32))))), (oA3, .inl (cI, 60, .inl (upd o_holders o_elementCount.toNatClampNeg v2))), (oA4, .inl (cI, 60, .inl (upd o_inners o_elementCount.toNatClampNeg (-1 : Int32)))), (bA, .inr (0, [.ref bA0, .int b_count])), (bA0, .inl (cI, 120, .inl b_row))] H := hP
        have hD : va_D A [(oA, .inr (4, [.ref bA, .ref oA0, .ref oA1, .ref oA2, .ref oA3, .ref oA4, .int o_elementCount, .int o_documentCount, .int o_deepest])), (oA0, .inl (cI, 60, .inl (upd o_types o_elementCount.toNatClampNeg u37))), (oA1, .inl (cI, 60, .inl (upd o_names o_elementCount.toNatClampNeg (v1 + (1 : Int32))))), (oA2, .inl (cI, 60, .inl (upd o_contents o_elementCount.toNatClampNeg (u4 + (1 : Int32))))), (oA3, .inl (cI, 60, .inl (upd o_holders o_elementCount.toNatClampNeg v2))), (oA4, .inl (cI, 60, .inl (upd o_inners o_elementCount.toNatClampNeg (-1 : Int32)))), (bA, .inr (0, [.ref bA0, .int b_count])), (bA0, .inl (cI, 120, .inl b_row))] := hD
        refine lv_aload_n hx hb dO_readElement_115 rfl (lv_at hl 3 rfl) ?_
        refine lv_dup hx hb dO_readElement_116 rfl ?_
        refine gf S hK hP 0 4 6 u_zO w_168 rfl rfl (by decide) rfl dO_readElement_117 ?_
        refine lv_iconst (v := (1 : Int32)) hx hb dO_readElement_120 (by decide) ?_
        refine lv_iadd hx hb dO_readElement_121 ?_
        refine pf S hK hP hD hS 0 4 6 (v := .int (o_elementCount + (1 : Int32))) zO_t u_zO zO_k zO_n w_168 rfl rfl (by decide) rfl rfl rfl rfl (Nat.le_of_ble_eq_true rfl) dO_readElement_122 (fun H locs hP hD hS => ?_)
        have hP : va_P D cs [(oA, .inr (4, [.ref bA, .ref oA0, .ref oA1, .ref oA2, .ref oA3, .ref oA4, .int (o_elementCount + (1 : Int32)), .int o_documentCount, .int o_deepest])), (oA0, .inl (cI, 60, .inl (upd o_types o_elementCount.toNatClampNeg u37))), (oA1, .inl (cI, 60, .inl (upd o_names o_elementCount.toNatClampNeg (v1 + (1 : Int32))))), (oA2, .inl (cI, 60, .inl (upd o_contents o_elementCount.toNatClampNeg (u4 + (1 : Int32))))), (oA3, .inl (cI, 60, .inl (upd o_holders o_elementCount.toNatClampNeg v2))), (oA4, .inl (cI, 60, .inl (upd o_inners o_elementCount.toNatClampNeg (-1 : Int32)))), (bA, .inr (0, [.ref bA0, .int b_count])), (bA0, .inl (cI, 120, .inl b_row))] H := hP
        have hD : va_D A [(oA, .inr (4, [.ref bA, .ref oA0, .ref oA1, .ref oA2, .ref oA3, .ref oA4, .int (o_elementCount + (1 : Int32)), .int o_documentCount, .int o_deepest])), (oA0, .inl (cI, 60, .inl (upd o_types o_elementCount.toNatClampNeg u37))), (oA1, .inl (cI, 60, .inl (upd o_names o_elementCount.toNatClampNeg (v1 + (1 : Int32))))), (oA2, .inl (cI, 60, .inl (upd o_contents o_elementCount.toNatClampNeg (u4 + (1 : Int32))))), (oA3, .inl (cI, 60, .inl (upd o_holders o_elementCount.toNatClampNeg v2))), (oA4, .inl (cI, 60, .inl (upd o_inners o_elementCount.toNatClampNeg (-1 : Int32)))), (bA, .inr (0, [.ref bA0, .int b_count])), (bA0, .inl (cI, 120, .inl b_row))] := hD
        refine lv_aload_n hx hb dO_readElement_125 rfl (lv_at hl 3 rfl) ?_
        refine lv_iload hx hb dO_readElement_126 (lv_at hl 1 rfl) ?_
        refine lv_iload hx hb dO_readElement_128 (lv_at hl 0 rfl) ?_
        refine lv_iload_n hx hb dO_readElement_130 rfl (lv_at hl 6 rfl) ?_
        obtain ⟨u131, e131, h⟩ := g_bind h
        refine mu_v S hN hK hP hD hS hA (rest := []) (cO_readContent l D cI cJ oA oA0 oA1 oA2 oA3 oA4 bA bA0 N rk u37 (u4 + (1 : Int32)) v3 (o_elementCount + (1 : Int32)) o_documentCount o_deepest (upd o_types o_elementCount.toNatClampNeg u37) (upd o_names o_elementCount.toNatClampNeg (v1 + (1 : Int32))) (upd o_contents o_elementCount.toNatClampNeg (u4 + (1 : Int32))) (upd o_holders o_elementCount.toNatClampNeg v2) (upd o_inners o_elementCount.toNatClampNeg (-1 : Int32)) b_count b_row kk hrk u131 e131) k_O_73 [0, 1, 2, 3, 4, 5, 6, 7] [(some 0), (some 1), (some 2), (some 3), (some 4), (some 5), (some 6), (some 7)] [(oA, .inr (4, [.ref bA, .ref oA0, .ref oA1, .ref oA2, .ref oA3, .ref oA4, .int u131.2.1, .int u131.2.2.1, .int u131.2.2.2.1])), (oA0, .inl (cI, 60, .inl u131.2.2.2.2.1)), (oA1, .inl (cI, 60, .inl u131.2.2.2.2.2.1)), (oA2, .inl (cI, 60, .inl u131.2.2.2.2.2.2.1)), (oA3, .inl (cI, 60, .inl u131.2.2.2.2.2.2.2.1)), (oA4, .inl (cI, 60, .inl u131.2.2.2.2.2.2.2.2)), (bA, .inr (0, [.ref bA0, .int b_count])), (bA0, .inl (cI, 120, .inl b_row))] rfl rfl rfl ⟨rfl, rfl, rfl, rfl, rfl, rfl, rfl, rfl, trivial⟩ (by decide +kernel) 4 rfl rfl ⟨rfl, rfl⟩ ⟨by simp only [rL]; omega, by simp only [rL]; omega⟩ rfl hl.1 (Nat.le_of_ble_eq_true rfl) ⟨Nat.le_refl _, Nat.le_refl _⟩ dO_readElement_131 rfl (fun H locs hP hD hS => ?_)
        cases h
        exact mu_i S hr hlocks hP hS dO_readElement_134 rfl rfl
      · have h := g_t h h103
        refine lv_aload_n hx hb dO_readElement_106 rfl (lv_at hl 3 rfl) ?_
        refine gf S hK hP 0 4 7 u_zO w_171 rfl rfl (by decide) rfl dO_readElement_107 ?_
        refine lv_goto (tgt := 114) hx hb dO_readElement_110 (by decide) ?_
        obtain ⟨b114, h⟩ := g_ok h
        refine va_iast hx hb hK hP hD hS 5 0 rfl rfl b114 dO_readElement_114 (fun H locs hP hD hS => ?_)
        have hP : va_P D cs [(oA, .inr (4, [.ref bA, .ref oA0, .ref oA1, .ref oA2, .ref oA3, .ref oA4, .int o_elementCount, .int o_documentCount, .int o_deepest])), (oA0, .inl (cI, 60, .inl (upd o_types o_elementCount.toNatClampNeg u37))), (oA1, .inl (cI, 60, .inl (upd o_names o_elementCount.toNatClampNeg (v1 + (1 : Int32))))), (oA2, .inl (cI, 60, .inl (upd o_contents o_elementCount.toNatClampNeg (u4 + (1 : Int32))))), (oA3, .inl (cI, 60, .inl (upd o_holders o_elementCount.toNatClampNeg v2))), (oA4, .inl (cI, 60, .inl (upd o_inners o_elementCount.toNatClampNeg o_documentCount))), (bA, .inr (0, [.ref bA0, .int b_count])), (bA0, .inl (cI, 120, .inl b_row))] H := hP
        have hD : va_D A [(oA, .inr (4, [.ref bA, .ref oA0, .ref oA1, .ref oA2, .ref oA3, .ref oA4, .int o_elementCount, .int o_documentCount, .int o_deepest])), (oA0, .inl (cI, 60, .inl (upd o_types o_elementCount.toNatClampNeg u37))), (oA1, .inl (cI, 60, .inl (upd o_names o_elementCount.toNatClampNeg (v1 + (1 : Int32))))), (oA2, .inl (cI, 60, .inl (upd o_contents o_elementCount.toNatClampNeg (u4 + (1 : Int32))))), (oA3, .inl (cI, 60, .inl (upd o_holders o_elementCount.toNatClampNeg v2))), (oA4, .inl (cI, 60, .inl (upd o_inners o_elementCount.toNatClampNeg o_documentCount))), (bA, .inr (0, [.ref bA0, .int b_count])), (bA0, .inl (cI, 120, .inl b_row))] := hD
        refine lv_aload_n hx hb dO_readElement_115 rfl (lv_at hl 3 rfl) ?_
        refine lv_dup hx hb dO_readElement_116 rfl ?_
        refine gf S hK hP 0 4 6 u_zO w_168 rfl rfl (by decide) rfl dO_readElement_117 ?_
        refine lv_iconst (v := (1 : Int32)) hx hb dO_readElement_120 (by decide) ?_
        refine lv_iadd hx hb dO_readElement_121 ?_
        refine pf S hK hP hD hS 0 4 6 (v := .int (o_elementCount + (1 : Int32))) zO_t u_zO zO_k zO_n w_168 rfl rfl (by decide) rfl rfl rfl rfl (Nat.le_of_ble_eq_true rfl) dO_readElement_122 (fun H locs hP hD hS => ?_)
        have hP : va_P D cs [(oA, .inr (4, [.ref bA, .ref oA0, .ref oA1, .ref oA2, .ref oA3, .ref oA4, .int (o_elementCount + (1 : Int32)), .int o_documentCount, .int o_deepest])), (oA0, .inl (cI, 60, .inl (upd o_types o_elementCount.toNatClampNeg u37))), (oA1, .inl (cI, 60, .inl (upd o_names o_elementCount.toNatClampNeg (v1 + (1 : Int32))))), (oA2, .inl (cI, 60, .inl (upd o_contents o_elementCount.toNatClampNeg (u4 + (1 : Int32))))), (oA3, .inl (cI, 60, .inl (upd o_holders o_elementCount.toNatClampNeg v2))), (oA4, .inl (cI, 60, .inl (upd o_inners o_elementCount.toNatClampNeg o_documentCount))), (bA, .inr (0, [.ref bA0, .int b_count])), (bA0, .inl (cI, 120, .inl b_row))] H := hP
        have hD : va_D A [(oA, .inr (4, [.ref bA, .ref oA0, .ref oA1, .ref oA2, .ref oA3, .ref oA4, .int (o_elementCount + (1 : Int32)), .int o_documentCount, .int o_deepest])), (oA0, .inl (cI, 60, .inl (upd o_types o_elementCount.toNatClampNeg u37))), (oA1, .inl (cI, 60, .inl (upd o_names o_elementCount.toNatClampNeg (v1 + (1 : Int32))))), (oA2, .inl (cI, 60, .inl (upd o_contents o_elementCount.toNatClampNeg (u4 + (1 : Int32))))), (oA3, .inl (cI, 60, .inl (upd o_holders o_elementCount.toNatClampNeg v2))), (oA4, .inl (cI, 60, .inl (upd o_inners o_elementCount.toNatClampNeg o_documentCount))), (bA, .inr (0, [.ref bA0, .int b_count])), (bA0, .inl (cI, 120, .inl b_row))] := hD
        refine lv_aload_n hx hb dO_readElement_125 rfl (lv_at hl 3 rfl) ?_
        refine lv_iload hx hb dO_readElement_126 (lv_at hl 1 rfl) ?_
        refine lv_iload hx hb dO_readElement_128 (lv_at hl 0 rfl) ?_
        refine lv_iload_n hx hb dO_readElement_130 rfl (lv_at hl 6 rfl) ?_
        obtain ⟨u131, e131, h⟩ := g_bind h
        refine mu_v S hN hK hP hD hS hA (rest := []) (cO_readContent l D cI cJ oA oA0 oA1 oA2 oA3 oA4 bA bA0 N rk u37 (u4 + (1 : Int32)) v3 (o_elementCount + (1 : Int32)) o_documentCount o_deepest (upd o_types o_elementCount.toNatClampNeg u37) (upd o_names o_elementCount.toNatClampNeg (v1 + (1 : Int32))) (upd o_contents o_elementCount.toNatClampNeg (u4 + (1 : Int32))) (upd o_holders o_elementCount.toNatClampNeg v2) (upd o_inners o_elementCount.toNatClampNeg o_documentCount) b_count b_row kk hrk u131 e131) k_O_73 [0, 1, 2, 3, 4, 5, 6, 7] [(some 0), (some 1), (some 2), (some 3), (some 4), (some 5), (some 6), (some 7)] [(oA, .inr (4, [.ref bA, .ref oA0, .ref oA1, .ref oA2, .ref oA3, .ref oA4, .int u131.2.1, .int u131.2.2.1, .int u131.2.2.2.1])), (oA0, .inl (cI, 60, .inl u131.2.2.2.2.1)), (oA1, .inl (cI, 60, .inl u131.2.2.2.2.2.1)), (oA2, .inl (cI, 60, .inl u131.2.2.2.2.2.2.1)), (oA3, .inl (cI, 60, .inl u131.2.2.2.2.2.2.2.1)), (oA4, .inl (cI, 60, .inl u131.2.2.2.2.2.2.2.2)), (bA, .inr (0, [.ref bA0, .int b_count])), (bA0, .inl (cI, 120, .inl b_row))] rfl rfl rfl ⟨rfl, rfl, rfl, rfl, rfl, rfl, rfl, rfl, trivial⟩ (by decide +kernel) 4 rfl rfl ⟨rfl, rfl⟩ ⟨by simp only [rL]; omega, by simp only [rL]; omega⟩ rfl hl.1 (Nat.le_of_ble_eq_true rfl) ⟨Nat.le_refl _, Nat.le_refl _⟩ dO_readElement_131 rfl (fun H locs hP hD hS => ?_)
        cases h
        exact mu_i S hr hlocks hP hS dO_readElement_134 rfl rfl
    · have h := g_f h h27
      refine lv_iconst (v := (-1 : Int32)) hx hb dO_readElement_30 (by decide) ?_
      cases h
      exact mu_i S hr hlocks hP hS dO_readElement_31 rfl rfl
def fO_readDocumentS_63 (N : Nat) (rk : Int32 × Int32 × Int32 × Int32 × Int32 × (Nat → Int32) × (Nat → Int32) × (Nat → Int32) × (Nat → Int32) × (Nat → Int32) → Option (Int32 × Int32 × Int32 × Int32 × (Nat → Int32) × (Nat → Int32) × (Nat → Int32) × (Nat → Int32) × (Nat → Int32))) (v1 : Int32) (v2 : Int32) (b_count : Int32) (b_row : (Nat → Int32)) (v3 : Int32) (rc63 : Int32 × Int32 × Int32 × Int32 × Int32 × (Nat → Int32) × (Nat → Int32) × (Nat → Int32) × (Nat → Int32) × (Nat → Int32) → Option (Int32 × Int32 × Int32 × Int32 × (Nat → Int32) × (Nat → Int32) × (Nat → Int32) × (Nat → Int32) × (Nat → Int32))) (v4 : Int32) (v5 : Int32) (o_elementCount : Int32) (o_documentCount : Int32) (o_deepest : Int32) (o_types : (Nat → Int32)) (o_names : (Nat → Int32)) (o_contents : (Nat → Int32)) (o_holders : (Nat → Int32)) (o_inners : (Nat → Int32)) : Option (Int32 × Int32 × Int32 × Int32 × (Nat → Int32) × (Nat → Int32) × (Nat → Int32) × (Nat → Int32) × (Nat → Int32)) :=
  if (120 : Int32) ≤ v5 then ((fB_at v4 b_count b_row).bind fun u104 => (if u104 = 0 then ((fB_intAt N v1 b_count b_row).bind fun u115 => (if u115 = ((v4 + (1 : Int32)) - v1) then (some (v4 + (1 : Int32), o_elementCount, o_documentCount, o_deepest, o_types, o_names, o_contents, o_holders, o_inners)) else (some ((-1 : Int32), o_elementCount, o_documentCount, o_deepest, o_types, o_names, o_contents, o_holders, o_inners)))) else (some ((-1 : Int32), o_elementCount, o_documentCount, o_deepest, o_types, o_names, o_contents, o_holders, o_inners)))) else ((fB_at v4 b_count b_row).bind fun u76 => (if u76 ≤ 0 then ((fB_at v4 b_count b_row).bind fun u104 => (if u104 = 0 then ((fB_intAt N v1 b_count b_row).bind fun u115 => (if u115 = ((v4 + (1 : Int32)) - v1) then (some (v4 + (1 : Int32), o_elementCount, o_documentCount, o_deepest, o_types, o_names, o_contents, o_holders, o_inners)) else (some ((-1 : Int32), o_elementCount, o_documentCount, o_deepest, o_types, o_names, o_contents, o_holders, o_inners)))) else (some ((-1 : Int32), o_elementCount, o_documentCount, o_deepest, o_types, o_names, o_contents, o_holders, o_inners)))) else ((fO_readElement N rk v4 v3 v2 o_elementCount o_documentCount o_deepest o_types o_names o_contents o_holders o_inners b_count b_row).bind fun u87 => (rc63 (u87.1, v5 + (1 : Int32), u87.2.1, u87.2.2.1, u87.2.2.2.1, u87.2.2.2.2.1, u87.2.2.2.2.2.1, u87.2.2.2.2.2.2.1, u87.2.2.2.2.2.2.2.1, u87.2.2.2.2.2.2.2.2)))))
def fO_readDocumentS_63l (N : Nat) (rk : Int32 × Int32 × Int32 × Int32 × Int32 × (Nat → Int32) × (Nat → Int32) × (Nat → Int32) × (Nat → Int32) × (Nat → Int32) → Option (Int32 × Int32 × Int32 × Int32 × (Nat → Int32) × (Nat → Int32) × (Nat → Int32) × (Nat → Int32) × (Nat → Int32))) (v1 : Int32) (v2 : Int32) (b_count : Int32) (b_row : (Nat → Int32)) (v3 : Int32) : Nat → Int32 × Int32 × Int32 × Int32 × Int32 × (Nat → Int32) × (Nat → Int32) × (Nat → Int32) × (Nat → Int32) × (Nat → Int32) → Option (Int32 × Int32 × Int32 × Int32 × (Nat → Int32) × (Nat → Int32) × (Nat → Int32) × (Nat → Int32) × (Nat → Int32)) := lp (fun rc a => fO_readDocumentS_63 N rk v1 v2 b_count b_row v3 rc a.1 a.2.1 a.2.2.1 a.2.2.2.1 a.2.2.2.2.1 a.2.2.2.2.2.1 a.2.2.2.2.2.2.1 a.2.2.2.2.2.2.2.1 a.2.2.2.2.2.2.2.2.1 a.2.2.2.2.2.2.2.2.2)
def fO_readDocumentS (N : Nat) (rk : Int32 × Int32 × Int32 × Int32 × Int32 × (Nat → Int32) × (Nat → Int32) × (Nat → Int32) × (Nat → Int32) × (Nat → Int32) → Option (Int32 × Int32 × Int32 × Int32 × (Nat → Int32) × (Nat → Int32) × (Nat → Int32) × (Nat → Int32) × (Nat → Int32))) (v1 : Int32) (v2 : Int32) (o_elementCount : Int32) (o_documentCount : Int32) (o_deepest : Int32) (o_types : (Nat → Int32)) (o_names : (Nat → Int32)) (o_contents : (Nat → Int32)) (o_holders : (Nat → Int32)) (o_inners : (Nat → Int32)) (b_count : Int32) (b_row : (Nat → Int32)) : Option (Int32 × Int32 × Int32 × Int32 × (Nat → Int32) × (Nat → Int32) × (Nat → Int32) × (Nat → Int32) × (Nat → Int32)) :=
  if (5 : Int32) < v2 then (some ((-1 : Int32), o_elementCount, o_documentCount, o_deepest, o_types, o_names, o_contents, o_holders, o_inners)) else (if (30 : Int32) ≤ o_documentCount then (some ((-1 : Int32), o_elementCount, o_documentCount, o_deepest, o_types, o_names, o_contents, o_holders, o_inners)) else ((fB_holds v1 (4 : Int32) b_count).bind fun u20 => (if u20 = true then (fO_readDocumentS_63l N rk v1 v2 b_count b_row o_documentCount N (v1 + (4 : Int32), (0 : Int32), o_elementCount, o_documentCount + (1 : Int32), if o_deepest < v2 then v2 else o_deepest, o_types, o_names, o_contents, o_holders, o_inners)) else (some ((-1 : Int32), o_elementCount, o_documentCount, o_deepest, o_types, o_names, o_contents, o_holders, o_inners)))))
set_option maxHeartbeats 4000000 in
set_option maxRecDepth 100000 in
theorem cO_readDocumentS (l : Launch) (D : va_G) (cI cJ : ClassId) (oA oA0 oA1 oA2 oA3 oA4 bA bA0 : Nat) (N : Nat) (rk : Int32 × Int32 × Int32 × Int32 × Int32 × (Nat → Int32) × (Nat → Int32) × (Nat → Int32) × (Nat → Int32) × (Nat → Int32) → Option (Int32 × Int32 × Int32 × Int32 × (Nat → Int32) × (Nat → Int32) × (Nat → Int32) × (Nat → Int32) × (Nat → Int32))) (v1 : Int32) (v2 : Int32) (o_elementCount : Int32) (o_documentCount : Int32) (o_deepest : Int32) (o_types : (Nat → Int32)) (o_names : (Nat → Int32)) (o_contents : (Nat → Int32)) (o_holders : (Nat → Int32)) (o_inners : (Nat → Int32)) (b_count : Int32) (b_row : (Nat → Int32)) (kk : Nat) (hrk : ∀ (v1 : Int32) (v2 : Int32) (o_elementCount : Int32) (o_documentCount : Int32) (o_deepest : Int32) (o_types : (Nat → Int32)) (o_names : (Nat → Int32)) (o_contents : (Nat → Int32)) (o_holders : (Nat → Int32)) (o_inners : (Nat → Int32)) (r : Int32 × Int32 × Int32 × Int32 × (Nat → Int32) × (Nat → Int32) × (Nat → Int32) × (Nat → Int32) × (Nat → Int32)), rk (v1, v2, o_elementCount, o_documentCount, o_deepest, o_types, o_names, o_contents, o_holders, o_inners) = some r → Mu l yO_readDocument bO_readDocument 6 (some .int) (rL (kk + 10)) [.ref oA, .int v1, .int v2] D cI cJ [(oA, .inr (4, [.ref bA, .ref oA0, .ref oA1, .ref oA2, .ref oA3, .ref oA4, .int o_elementCount, .int o_documentCount, .int o_deepest])), (oA0, .inl (cI, 60, .inl o_types)), (oA1, .inl (cI, 60, .inl o_names)), (oA2, .inl (cI, 60, .inl o_contents)), (oA3, .inl (cI, 60, .inl o_holders)), (oA4, .inl (cI, 60, .inl o_inners)), (bA, .inr (0, [.ref bA0, .int b_count])), (bA0, .inl (cI, 120, .inl b_row))] (some (.int r.1)) [(oA, .inr (4, [.ref bA, .ref oA0, .ref oA1, .ref oA2, .ref oA3, .ref oA4, .int r.2.1, .int r.2.2.1, .int r.2.2.2.1])), (oA0, .inl (cI, 60, .inl r.2.2.2.2.1)), (oA1, .inl (cI, 60, .inl r.2.2.2.2.2.1)), (oA2, .inl (cI, 60, .inl r.2.2.2.2.2.2.1)), (oA3, .inl (cI, 60, .inl r.2.2.2.2.2.2.2.1)), (oA4, .inl (cI, 60, .inl r.2.2.2.2.2.2.2.2)), (bA, .inr (0, [.ref bA0, .int b_count])), (bA0, .inl (cI, 120, .inl b_row))]) (r : Int32 × Int32 × Int32 × Int32 × (Nat → Int32) × (Nat → Int32) × (Nat → Int32) × (Nat → Int32) × (Nat → Int32)) (h : fO_readDocumentS N rk v1 v2 o_elementCount o_documentCount o_deepest o_types o_names o_contents o_holders o_inners b_count b_row = some r) : Mu l yO_readDocument bO_readDocument 6 (some .int) (rL (kk + 13)) [.ref oA, .int v1, .int v2] D cI cJ [(oA, .inr (4, [.ref bA, .ref oA0, .ref oA1, .ref oA2, .ref oA3, .ref oA4, .int o_elementCount, .int o_documentCount, .int o_deepest])), (oA0, .inl (cI, 60, .inl o_types)), (oA1, .inl (cI, 60, .inl o_names)), (oA2, .inl (cI, 60, .inl o_contents)), (oA3, .inl (cI, 60, .inl o_holders)), (oA4, .inl (cI, 60, .inl o_inners)), (bA, .inr (0, [.ref bA0, .int b_count])), (bA0, .inl (cI, 120, .inl b_row))] (some (.int r.1)) [(oA, .inr (4, [.ref bA, .ref oA0, .ref oA1, .ref oA2, .ref oA3, .ref oA4, .int r.2.1, .int r.2.2.1, .int r.2.2.2.1])), (oA0, .inl (cI, 60, .inl r.2.2.2.2.1)), (oA1, .inl (cI, 60, .inl r.2.2.2.2.2.1)), (oA2, .inl (cI, 60, .inl r.2.2.2.2.2.2.1)), (oA3, .inl (cI, 60, .inl r.2.2.2.2.2.2.2.1)), (oA4, .inl (cI, 60, .inl r.2.2.2.2.2.2.2.2)), (bA, .inr (0, [.ref bA0, .int b_count])), (bA0, .inl (cI, 120, .inl b_row))] := by
  refine mu_of (by decide) (Nat.le_of_ble_eq_true rfl) ?_
  intro p e s m below meth c ls A S hr hlocks hN hK hP hD hA hl
  have hS : va_S A s.heap s.heap [] := va_S.rf
  have hx := S.1
  have hb := S.2.1
  have hl : lv_has ls 6 [(0, .ref oA), (1, .int v1), (2, .int v2)] := hl
  unfold fO_readDocumentS at h
  have t63 : ∀ (v3 : Int32), ∀ (k : Nat) (a : Int32 × Int32 × Int32 × Int32 × Int32 × (Nat → Int32) × (Nat → Int32) × (Nat → Int32) × (Nat → Int32) × (Nat → Int32)), fO_readDocumentS_63l N rk v1 v2 b_count b_row v3 k a = some r → ∀ (ls : Array Slot) (H : Heap) (locs : List Loc), lv_has ls 6 [(0, .ref oA), (1, .int v1), (2, .int v2), (3, .int v3), (4, .int a.1), (5, .int a.2.1)] → va_P D cs [(oA, .inr (4, [.ref bA, .ref oA0, .ref oA1, .ref oA2, .ref oA3, .ref oA4, .int a.2.2.1, .int a.2.2.2.1, .int a.2.2.2.2.1])), (oA0, .inl (cI, 60, .inl a.2.2.2.2.2.1)), (oA1, .inl (cI, 60, .inl a.2.2.2.2.2.2.1)), (oA2, .inl (cI, 60, .inl a.2.2.2.2.2.2.2.1)), (oA3, .inl (cI, 60, .inl a.2.2.2.2.2.2.2.2.1)), (oA4, .inl (cI, 60, .inl a.2.2.2.2.2.2.2.2.2)), (bA, .inr (0, [.ref bA0, .int b_count])), (bA0, .inl (cI, 120, .inl b_row))] H → va_D A [(oA, .inr (4, [.ref bA, .ref oA0, .ref oA1, .ref oA2, .ref oA3, .ref oA4, .int a.2.2.1, .int a.2.2.2.1, .int a.2.2.2.2.1])), (oA0, .inl (cI, 60, .inl a.2.2.2.2.2.1)), (oA1, .inl (cI, 60, .inl a.2.2.2.2.2.2.1)), (oA2, .inl (cI, 60, .inl a.2.2.2.2.2.2.2.1)), (oA3, .inl (cI, 60, .inl a.2.2.2.2.2.2.2.2.1)), (oA4, .inl (cI, 60, .inl a.2.2.2.2.2.2.2.2.2)), (bA, .inr (0, [.ref bA0, .int b_count])), (bA0, .inl (cI, 120, .inl b_row))] → va_S A s.heap H locs → W p l e (rL (kk + 13)) s m ([.ref oA, .int v1, .int v2] : List Value).toArray below meth c H locs 0 0 (MQ below (fun _ st oc t => (oc = .returned (some (.int r.1)) ∧ va_P D cs [(oA, .inr (4, [.ref bA, .ref oA0, .ref oA1, .ref oA2, .ref oA3, .ref oA4, .int r.2.1, .int r.2.2.1, .int r.2.2.2.1])), (oA0, .inl (cI, 60, .inl r.2.2.2.2.1)), (oA1, .inl (cI, 60, .inl r.2.2.2.2.2.1)), (oA2, .inl (cI, 60, .inl r.2.2.2.2.2.2.1)), (oA3, .inl (cI, 60, .inl r.2.2.2.2.2.2.2.1)), (oA4, .inl (cI, 60, .inl r.2.2.2.2.2.2.2.2)), (bA, .inr (0, [.ref bA0, .int b_count])), (bA0, .inl (cI, 120, .inl b_row))] t.heap) ∧ va_F A st t) ([.ref oA, .int v1, .int v2] : List Value).toArray s 0 0 A) (F0 m 63 ls []) := by
    intro v3
    unfold fO_readDocumentS_63l
    refine lp_some ?_
    intro rc63 hrc63 a h
    obtain ⟨v4, v5, o_elementCount, o_documentCount, o_deepest, o_types, o_names, o_contents, o_holders, o_inners⟩ := a
    intro ls H locs hl hP hD hS
    have h : fO_readDocumentS_63 N rk v1 v2 b_count b_row v3 rc63 v4 v5 o_elementCount o_documentCount o_deepest o_types o_names o_contents o_holders o_inners = some r := h
    have hl : lv_has ls 6 [(0, .ref oA), (1, .int v1), (2, .int v2), (3, .int v3), (4, .int v4), (5, .int v5)] := hl
    have hP : va_P D cs [(oA, .inr (4, [.ref bA, .ref oA0, .ref oA1, .ref oA2, .ref oA3, .ref oA4, .int o_elementCount, .int o_documentCount, .int o_deepest])), (oA0, .inl (cI, 60, .inl o_types)), (oA1, .inl (cI, 60, .inl o_names)), (oA2, .inl (cI, 60, .inl o_contents)), (oA3, .inl (cI, 60, .inl o_holders)), (oA4, .inl (cI, 60, .inl o_inners)), (bA, .inr (0, [.ref bA0, .int b_count])), (bA0, .inl (cI, 120, .inl b_row))] H := hP
    have hD : va_D A [(oA, .inr (4, [.ref bA, .ref oA0, .ref oA1, .ref oA2, .ref oA3, .ref oA4, .int o_elementCount, .int o_documentCount, .int o_deepest])), (oA0, .inl (cI, 60, .inl o_types)), (oA1, .inl (cI, 60, .inl o_names)), (oA2, .inl (cI, 60, .inl o_contents)), (oA3, .inl (cI, 60, .inl o_holders)), (oA4, .inl (cI, 60, .inl o_inners)), (bA, .inr (0, [.ref bA0, .int b_count])), (bA0, .inl (cI, 120, .inl b_row))] := hD
    unfold fO_readDocumentS_63 at h
    refine lv_iload hx hb dO_readDocument_63 (lv_at hl 5 rfl) ?_
    refine lv_bipush (v := (120 : Int32)) hx hb dO_readDocument_65 (by decide) ?_
    refine lv_icmp_ge (tgt := 98) hx hb dO_readDocument_67 (by decide) (fun h67 => ?_) (fun h67 => ?_)
    · have h := g_t h h67
      refine lv_aload_n hx hb dO_readDocument_98 rfl (lv_at hl 0 rfl) ?_
      refine gf S hK hP 0 4 0 u_zO w_162 rfl rfl (by decide) rfl dO_readDocument_99 ?_
      refine lv_iload hx hb dO_readDocument_102 (lv_at hl 4 rfl) ?_
      obtain ⟨u104, e104, h⟩ := g_bind h
      refine pu_v S hN hK hP (rest := []) (cB_at l D cI cJ bA bA0 v4 b_count b_row u104 e104) k_O_59 [6, 7] rfl 0 rfl rfl ⟨rfl, rfl⟩ ⟨by simp only [rL]; omega, by simp only [rL]; omega⟩ rfl hl.1 (Nat.le_of_ble_eq_true rfl) ⟨Nat.le_refl _, Nat.le_refl _⟩ dO_readDocument_104 rfl ?_
      refine lv_if_ne (tgt := 127) hx hb dO_readDocument_107 (by decide) (fun h107 => ?_) (fun h107 => ?_)
      · have h := g_f h h107
        refine lv_iconst (v := (-1 : Int32)) hx hb dO_readDocument_127 (by decide) ?_
        cases h
        exact mu_i S hr hlocks hP hS dO_readDocument_128 rfl rfl
      · have h := g_t h h107
        refine lv_aload_n hx hb dO_readDocument_110 rfl (lv_at hl 0 rfl) ?_
        refine gf S hK hP 0 4 0 u_zO w_162 rfl rfl (by decide) rfl dO_readDocument_111 ?_
        refine lv_iload_n hx hb dO_readDocument_114 rfl (lv_at hl 1 rfl) ?_
        obtain ⟨u115, e115, h⟩ := g_bind h
        refine pu_v S hN hK hP (rest := []) (cB_intAt l D cI cJ bA bA0 N v1 b_count b_row u115 e115) k_O_67 [6, 7] rfl 0 rfl rfl ⟨rfl, rfl⟩ ⟨by simp only [rL]; omega, by simp only [rL]; omega⟩ rfl hl.1 (Nat.le_of_ble_eq_true rfl) ⟨Nat.le_refl _, Nat.le_refl _⟩ dO_readDocument_115 rfl ?_
        refine lv_iload hx hb dO_readDocument_118 (lv_at hl 4 rfl) ?_
        refine lv_iconst (v := (1 : Int32)) hx hb dO_readDocument_120 (by decide) ?_
        refine lv_iadd hx hb dO_readDocument_121 ?_
        refine lv_iload_n hx hb dO_readDocument_122 rfl (lv_at hl 1 rfl) ?_
        refine lv_isub hx hb dO_readDocument_123 ?_
        refine lv_icmp_eq (tgt := 129) hx hb dO_readDocument_124 (by decide) (fun h124 => ?_) (fun h124 => ?_)
        · have h := g_t h h124
          refine lv_iload hx hb dO_readDocument_129 (lv_at hl 4 rfl) ?_
          refine lv_iconst (v := (1 : Int32)) hx hb dO_readDocument_131 (by decide) ?_
          refine lv_iadd hx hb dO_readDocument_132 ?_
          cases h
          exact mu_i S hr hlocks hP hS dO_readDocument_133 rfl rfl
        · have h := g_f h h124
          refine lv_iconst (v := (-1 : Int32)) hx hb dO_readDocument_127 (by decide) ?_
          cases h
          exact mu_i S hr hlocks hP hS dO_readDocument_128 rfl rfl
    · have h := g_f h h67
      refine lv_aload_n hx hb dO_readDocument_70 rfl (lv_at hl 0 rfl) ?_
      refine gf S hK hP 0 4 0 u_zO w_162 rfl rfl (by decide) rfl dO_readDocument_71 ?_
      refine lv_iload hx hb dO_readDocument_74 (lv_at hl 4 rfl) ?_
      obtain ⟨u76, e76, h⟩ := g_bind h
      refine pu_v S hN hK hP (rest := []) (cB_at l D cI cJ bA bA0 v4 b_count b_row u76 e76) k_O_59 [6, 7] rfl 0 rfl rfl ⟨rfl, rfl⟩ ⟨by simp only [rL]; omega, by simp only [rL]; omega⟩ rfl hl.1 (Nat.le_of_ble_eq_true rfl) ⟨Nat.le_refl _, Nat.le_refl _⟩ dO_readDocument_76 rfl ?_
      refine lv_if_le (tgt := 98) hx hb dO_readDocument_79 (by decide) (fun h79 => ?_) (fun h79 => ?_)
      · have h := g_t h h79
        refine lv_aload_n hx hb dO_readDocument_98 rfl (lv_at hl 0 rfl) ?_
        refine gf S hK hP 0 4 0 u_zO w_162 rfl rfl (by decide) rfl dO_readDocument_99 ?_
        refine lv_iload hx hb dO_readDocument_102 (lv_at hl 4 rfl) ?_
        obtain ⟨u104, e104, h⟩ := g_bind h
        refine pu_v S hN hK hP (rest := []) (cB_at l D cI cJ bA bA0 v4 b_count b_row u104 e104) k_O_59 [6, 7] rfl 0 rfl rfl ⟨rfl, rfl⟩ ⟨by simp only [rL]; omega, by simp only [rL]; omega⟩ rfl hl.1 (Nat.le_of_ble_eq_true rfl) ⟨Nat.le_refl _, Nat.le_refl _⟩ dO_readDocument_104 rfl ?_
        refine lv_if_ne (tgt := 127) hx hb dO_readDocument_107 (by decide) (fun h107 => ?_) (fun h107 => ?_)
        · have h := g_f h h107
          refine lv_iconst (v := (-1 : Int32)) hx hb dO_readDocument_127 (by decide) ?_
          cases h
          exact mu_i S hr hlocks hP hS dO_readDocument_128 rfl rfl
        · have h := g_t h h107
          refine lv_aload_n hx hb dO_readDocument_110 rfl (lv_at hl 0 rfl) ?_
          refine gf S hK hP 0 4 0 u_zO w_162 rfl rfl (by decide) rfl dO_readDocument_111 ?_
          refine lv_iload_n hx hb dO_readDocument_114 rfl (lv_at hl 1 rfl) ?_
          obtain ⟨u115, e115, h⟩ := g_bind h
          refine pu_v S hN hK hP (rest := []) (cB_intAt l D cI cJ bA bA0 N v1 b_count b_row u115 e115) k_O_67 [6, 7] rfl 0 rfl rfl ⟨rfl, rfl⟩ ⟨by simp only [rL]; omega, by simp only [rL]; omega⟩ rfl hl.1 (Nat.le_of_ble_eq_true rfl) ⟨Nat.le_refl _, Nat.le_refl _⟩ dO_readDocument_115 rfl ?_
          refine lv_iload hx hb dO_readDocument_118 (lv_at hl 4 rfl) ?_
          refine lv_iconst (v := (1 : Int32)) hx hb dO_readDocument_120 (by decide) ?_
          refine lv_iadd hx hb dO_readDocument_121 ?_
          refine lv_iload_n hx hb dO_readDocument_122 rfl (lv_at hl 1 rfl) ?_
          refine lv_isub hx hb dO_readDocument_123 ?_
          refine lv_icmp_eq (tgt := 129) hx hb dO_readDocument_124 (by decide) (fun h124 => ?_) (fun h124 => ?_)
          · have h := g_t h h124
            refine lv_iload hx hb dO_readDocument_129 (lv_at hl 4 rfl) ?_
            refine lv_iconst (v := (1 : Int32)) hx hb dO_readDocument_131 (by decide) ?_
            refine lv_iadd hx hb dO_readDocument_132 ?_
            cases h
            exact mu_i S hr hlocks hP hS dO_readDocument_133 rfl rfl
          · have h := g_f h h124
            refine lv_iconst (v := (-1 : Int32)) hx hb dO_readDocument_127 (by decide) ?_
            cases h
            exact mu_i S hr hlocks hP hS dO_readDocument_128 rfl rfl
      · have h := g_f h h79
        refine lv_aload_n hx hb dO_readDocument_82 rfl (lv_at hl 0 rfl) ?_
        refine lv_iload hx hb dO_readDocument_83 (lv_at hl 4 rfl) ?_
        refine lv_iload_n hx hb dO_readDocument_85 rfl (lv_at hl 3 rfl) ?_
        refine lv_iload_n hx hb dO_readDocument_86 rfl (lv_at hl 2 rfl) ?_
        obtain ⟨u87, e87, h⟩ := g_bind h
        refine mu_v S hN hK hP hD hS hA (rest := []) (cO_readElement l D cI cJ oA oA0 oA1 oA2 oA3 oA4 bA bA0 N rk v4 v3 v2 o_elementCount o_documentCount o_deepest o_types o_names o_contents o_holders o_inners b_count b_row kk hrk u87 e87) k_O_63 [0, 1, 2, 3, 4, 5, 6, 7] [(some 0), (some 1), (some 2), (some 3), (some 4), (some 5), (some 6), (some 7)] [(oA, .inr (4, [.ref bA, .ref oA0, .ref oA1, .ref oA2, .ref oA3, .ref oA4, .int u87.2.1, .int u87.2.2.1, .int u87.2.2.2.1])), (oA0, .inl (cI, 60, .inl u87.2.2.2.2.1)), (oA1, .inl (cI, 60, .inl u87.2.2.2.2.2.1)), (oA2, .inl (cI, 60, .inl u87.2.2.2.2.2.2.1)), (oA3, .inl (cI, 60, .inl u87.2.2.2.2.2.2.2.1)), (oA4, .inl (cI, 60, .inl u87.2.2.2.2.2.2.2.2)), (bA, .inr (0, [.ref bA0, .int b_count])), (bA0, .inl (cI, 120, .inl b_row))] rfl rfl rfl ⟨rfl, rfl, rfl, rfl, rfl, rfl, rfl, rfl, trivial⟩ (by decide +kernel) 4 rfl rfl ⟨rfl, rfl⟩ ⟨by simp only [rL]; omega, by simp only [rL]; omega⟩ rfl hl.1 (Nat.le_of_ble_eq_true rfl) ⟨Nat.le_refl _, Nat.le_refl _⟩ dO_readDocument_87 rfl (fun H locs hP hD hS => ?_)
        refine lv_istore (lv' := [(4, .int u87.1), (0, .ref oA), (1, .int v1), (2, .int v2), (3, .int v3), (5, .int v5)]) hx hb dO_readDocument_90 hl (Nat.le_of_ble_eq_true rfl) rfl (fun ls hl => ?_)
        refine lv_iinc (k := 5) (v := v5 + (1 : Int32)) (lv' := [(5, .int (v5 + (1 : Int32))), (4, .int u87.1), (0, .ref oA), (1, .int v1), (2, .int v2), (3, .int v3)]) hx hb dO_readDocument_92 hl rfl (congrArg (v5 + ·) (by decide : Int32.ofInt (1) = (1 : Int32))) (Nat.le_of_ble_eq_true rfl) rfl (fun ls hl => ?_)
        refine lv_goto (tgt := 63) hx hb dO_readDocument_95 (by decide) ?_
        exact hrc63 (u87.1, v5 + (1 : Int32), u87.2.1, u87.2.2.1, u87.2.2.2.1, u87.2.2.2.2.1, u87.2.2.2.2.2.1, u87.2.2.2.2.2.2.1, u87.2.2.2.2.2.2.2.1, u87.2.2.2.2.2.2.2.2) h _ _ _ (lv_sub hl [2, 3, 4, 5, 1, 0] rfl) hP hD hS
  refine lv_iload_n hx hb dO_readDocument_0 rfl (lv_at hl 2 rfl) ?_
  refine lv_iconst (v := (5 : Int32)) hx hb dO_readDocument_1 (by decide) ?_
  refine lv_icmp_gt (tgt := 26) hx hb dO_readDocument_2 (by decide) (fun h2 => ?_) (fun h2 => ?_)
  · have h := g_t h h2
    refine lv_iconst (v := (-1 : Int32)) hx hb dO_readDocument_26 (by decide) ?_
    cases h
    exact mu_i S hr hlocks hP hS dO_readDocument_27 rfl rfl
  · have h := g_f h h2
    refine lv_aload_n hx hb dO_readDocument_5 rfl (lv_at hl 0 rfl) ?_
    refine gf S hK hP 0 4 7 u_zO w_171 rfl rfl (by decide) rfl dO_readDocument_6 ?_
    refine lv_bipush (v := (30 : Int32)) hx hb dO_readDocument_9 (by decide) ?_
    refine lv_icmp_ge (tgt := 26) hx hb dO_readDocument_11 (by decide) (fun h11 => ?_) (fun h11 => ?_)
    · have h := g_t h h11
      refine lv_iconst (v := (-1 : Int32)) hx hb dO_readDocument_26 (by decide) ?_
      cases h
      exact mu_i S hr hlocks hP hS dO_readDocument_27 rfl rfl
    · have h := g_f h h11
      refine lv_aload_n hx hb dO_readDocument_14 rfl (lv_at hl 0 rfl) ?_
      refine gf S hK hP 0 4 0 u_zO w_162 rfl rfl (by decide) rfl dO_readDocument_15 ?_
      refine lv_iload_n hx hb dO_readDocument_18 rfl (lv_at hl 1 rfl) ?_
      refine lv_iconst (v := (4 : Int32)) hx hb dO_readDocument_19 (by decide) ?_
      obtain ⟨u20, e20, h⟩ := g_bind h
      refine pu_v S hN hK hP (rest := []) (cB_holds l D cI cJ bA bA0 v1 (4 : Int32) b_count b_row u20 e20) k_O_50 [6, 7] rfl 0 rfl rfl ⟨rfl, rfl⟩ ⟨by simp only [rL]; omega, by simp only [rL]; omega⟩ rfl hl.1 (Nat.le_of_ble_eq_true rfl) ⟨Nat.le_refl _, Nat.le_refl _⟩ dO_readDocument_20 rfl ?_
      refine b_ifne (tgt := 28) hx hb dO_readDocument_23 (by decide) (fun h23 => ?_) (fun h23 => ?_)
      · have h := g_t h h23
        refine lv_aload_n hx hb dO_readDocument_28 rfl (lv_at hl 0 rfl) ?_
        refine gf S hK hP 0 4 7 u_zO w_171 rfl rfl (by decide) rfl dO_readDocument_29 ?_
        refine lv_istore_n (lv' := [(3, .int o_documentCount), (0, .ref oA), (1, .int v1), (2, .int v2)]) hx hb dO_readDocument_32 rfl hl (Nat.le_of_ble_eq_true rfl) rfl (fun ls hl => ?_)
        refine lv_aload_n hx hb dO_readDocument_33 rfl (lv_at hl 1 rfl) ?_
        refine lv_dup hx hb dO_readDocument_34 rfl ?_
        refine gf S hK hP 0 4 7 u_zO w_171 rfl rfl (by decide) rfl dO_readDocument_35 ?_
        refine lv_iconst (v := (1 : Int32)) hx hb dO_readDocument_38 (by decide) ?_
        refine lv_iadd hx hb dO_readDocument_39 ?_
        refine pf S hK hP hD hS 0 4 7 (v := .int (o_documentCount + (1 : Int32))) zO_t u_zO zO_k zO_n w_171 rfl rfl (by decide) rfl rfl rfl rfl (Nat.le_of_ble_eq_true rfl) dO_readDocument_40 (fun H locs hP hD hS => ?_)
        have hP : va_P D cs [(oA, .inr (4, [.ref bA, .ref oA0, .ref oA1, .ref oA2, .ref oA3, .ref oA4, .int o_elementCount, .int (o_documentCount + (1 : Int32)), .int o_deepest])), (oA0, .inl (cI, 60, .inl o_types)), (oA1, .inl (cI, 60, .inl o_names)), (oA2, .inl (cI, 60, .inl o_contents)), (oA3, .inl (cI, 60, .inl o_holders)), (oA4, .inl (cI, 60, .inl o_inners)), (bA, .inr (0, [.ref bA0, .int b_count])), (bA0, .inl (cI, 120, .inl b_row))] H := hP
        have hD : va_D A [(oA, .inr (4, [.ref bA, .ref oA0, .ref oA1, .ref oA2, .ref oA3, .ref oA4, .int o_elementCount, .int (o_documentCount + (1 : Int32)), .int o_deepest])), (oA0, .inl (cI, 60, .inl o_types)), (oA1, .inl (cI, 60, .inl o_names)), (oA2, .inl (cI, 60, .inl o_contents)), (oA3, .inl (cI, 60, .inl o_holders)), (oA4, .inl (cI, 60, .inl o_inners)), (bA, .inr (0, [.ref bA0, .int b_count])), (bA0, .inl (cI, 120, .inl b_row))] := hD
        refine lv_aload_n hx hb dO_readDocument_43 rfl (lv_at hl 1 rfl) ?_
        refine lv_aload_n hx hb dO_readDocument_44 rfl (lv_at hl 1 rfl) ?_
        refine gf S hK hP 0 4 8 u_zO w_174 rfl rfl (by decide) rfl dO_readDocument_45 ?_
        refine lv_iload_n hx hb dO_readDocument_48 rfl (lv_at hl 3 rfl) ?_
        refine mx S w_max1 w_max2 w_max3 w_max4 hl.1 (by show 1 ≤ kk + 13; omega) (by show 1 + 13 ≤ 40 * (kk + 13); omega) dO_readDocument_49 ?_
        refine pf S hK hP hD hS 0 4 8 (v := .int (if o_deepest < v2 then v2 else o_deepest)) zO_t u_zO zO_k zO_n w_174 rfl rfl (by decide) rfl rfl rfl rfl (Nat.le_of_ble_eq_true rfl) dO_readDocument_52 (fun H locs hP hD hS => ?_)
        have hP : va_P D cs [(oA, .inr (4, [.ref bA, .ref oA0, .ref oA1, .ref oA2, .ref oA3, .ref oA4, .int o_elementCount, .int (o_documentCount + (1 : Int32)), .int (if o_deepest < v2 then v2 else o_deepest)])), (oA0, .inl (cI, 60, .inl o_types)), (oA1, .inl (cI, 60, .inl o_names)), (oA2, .inl (cI, 60, .inl o_contents)), (oA3, .inl (cI, 60, .inl o_holders)), (oA4, .inl (cI, 60, .inl o_inners)), (bA, .inr (0, [.ref bA0, .int b_count])), (bA0, .inl (cI, 120, .inl b_row))] H := hP
        have hD : va_D A [(oA, .inr (4, [.ref bA, .ref oA0, .ref oA1, .ref oA2, .ref oA3, .ref oA4, .int o_elementCount, .int (o_documentCount + (1 : Int32)), .int (if o_deepest < v2 then v2 else o_deepest)])), (oA0, .inl (cI, 60, .inl o_types)), (oA1, .inl (cI, 60, .inl o_names)), (oA2, .inl (cI, 60, .inl o_contents)), (oA3, .inl (cI, 60, .inl o_holders)), (oA4, .inl (cI, 60, .inl o_inners)), (bA, .inr (0, [.ref bA0, .int b_count])), (bA0, .inl (cI, 120, .inl b_row))] := hD
        refine lv_iload_n hx hb dO_readDocument_55 rfl (lv_at hl 2 rfl) ?_
        refine lv_iconst (v := (4 : Int32)) hx hb dO_readDocument_56 (by decide) ?_
        refine lv_iadd hx hb dO_readDocument_57 ?_
        refine lv_istore (lv' := [(4, .int (v1 + (4 : Int32))), (3, .int o_documentCount), (0, .ref oA), (1, .int v1), (2, .int v2)]) hx hb dO_readDocument_58 hl (Nat.le_of_ble_eq_true rfl) rfl (fun ls hl => ?_)
        refine lv_iconst (v := (0 : Int32)) hx hb dO_readDocument_60 (by decide) ?_
        refine lv_istore (lv' := [(5, .int (0 : Int32)), (4, .int (v1 + (4 : Int32))), (3, .int o_documentCount), (0, .ref oA), (1, .int v1), (2, .int v2)]) hx hb dO_readDocument_61 hl (Nat.le_of_ble_eq_true rfl) rfl (fun ls hl => ?_)
        exact t63 o_documentCount N (v1 + (4 : Int32), (0 : Int32), o_elementCount, o_documentCount + (1 : Int32), if o_deepest < v2 then v2 else o_deepest, o_types, o_names, o_contents, o_holders, o_inners) h _ _ _ (lv_sub hl [3, 4, 5, 2, 1, 0] rfl) hP hD hS
      · have h := g_f h h23
        refine lv_iconst (v := (-1 : Int32)) hx hb dO_readDocument_26 (by decide) ?_
        cases h
        exact mu_i S hr hlocks hP hS dO_readDocument_27 rfl rfl
def fO_readDocumentl (N : Nat) (b_count : Int32) (b_row : (Nat → Int32)) : Nat → Int32 × Int32 × Int32 × Int32 × Int32 × (Nat → Int32) × (Nat → Int32) × (Nat → Int32) × (Nat → Int32) × (Nat → Int32) → Option (Int32 × Int32 × Int32 × Int32 × (Nat → Int32) × (Nat → Int32) × (Nat → Int32) × (Nat → Int32) × (Nat → Int32)) := lp (fun rk a => fO_readDocumentS N rk a.1 a.2.1 a.2.2.1 a.2.2.2.1 a.2.2.2.2.1 a.2.2.2.2.2.1 a.2.2.2.2.2.2.1 a.2.2.2.2.2.2.2.1 a.2.2.2.2.2.2.2.2.1 a.2.2.2.2.2.2.2.2.2 b_count b_row)
def fO_readDocument (N : Nat) (q : Nat) (v1 : Int32) (v2 : Int32) (o_elementCount : Int32) (o_documentCount : Int32) (o_deepest : Int32) (o_types : (Nat → Int32)) (o_names : (Nat → Int32)) (o_contents : (Nat → Int32)) (o_holders : (Nat → Int32)) (o_inners : (Nat → Int32)) (b_count : Int32) (b_row : (Nat → Int32)) : Option (Int32 × Int32 × Int32 × Int32 × (Nat → Int32) × (Nat → Int32) × (Nat → Int32) × (Nat → Int32) × (Nat → Int32)) := fO_readDocumentl N b_count b_row q (v1, v2, o_elementCount, o_documentCount, o_deepest, o_types, o_names, o_contents, o_holders, o_inners)
set_option maxHeartbeats 4000000 in
set_option maxRecDepth 100000 in
theorem cO_readDocument (l : Launch) (D : va_G) (cI cJ : ClassId) (oA oA0 oA1 oA2 oA3 oA4 bA bA0 : Nat) (N : Nat) (q : Nat) (v1 : Int32) (v2 : Int32) (o_elementCount : Int32) (o_documentCount : Int32) (o_deepest : Int32) (o_types : (Nat → Int32)) (o_names : (Nat → Int32)) (o_contents : (Nat → Int32)) (o_holders : (Nat → Int32)) (o_inners : (Nat → Int32)) (b_count : Int32) (b_row : (Nat → Int32)) (r : Int32 × Int32 × Int32 × Int32 × (Nat → Int32) × (Nat → Int32) × (Nat → Int32) × (Nat → Int32) × (Nat → Int32)) (h : fO_readDocument N q v1 v2 o_elementCount o_documentCount o_deepest o_types o_names o_contents o_holders o_inners b_count b_row = some r) : Mu l yO_readDocument bO_readDocument 6 (some .int) (rL (3 * q + 10)) [.ref oA, .int v1, .int v2] D cI cJ [(oA, .inr (4, [.ref bA, .ref oA0, .ref oA1, .ref oA2, .ref oA3, .ref oA4, .int o_elementCount, .int o_documentCount, .int o_deepest])), (oA0, .inl (cI, 60, .inl o_types)), (oA1, .inl (cI, 60, .inl o_names)), (oA2, .inl (cI, 60, .inl o_contents)), (oA3, .inl (cI, 60, .inl o_holders)), (oA4, .inl (cI, 60, .inl o_inners)), (bA, .inr (0, [.ref bA0, .int b_count])), (bA0, .inl (cI, 120, .inl b_row))] (some (.int r.1)) [(oA, .inr (4, [.ref bA, .ref oA0, .ref oA1, .ref oA2, .ref oA3, .ref oA4, .int r.2.1, .int r.2.2.1, .int r.2.2.2.1])), (oA0, .inl (cI, 60, .inl r.2.2.2.2.1)), (oA1, .inl (cI, 60, .inl r.2.2.2.2.2.1)), (oA2, .inl (cI, 60, .inl r.2.2.2.2.2.2.1)), (oA3, .inl (cI, 60, .inl r.2.2.2.2.2.2.2.1)), (oA4, .inl (cI, 60, .inl r.2.2.2.2.2.2.2.2)), (bA, .inr (0, [.ref bA0, .int b_count])), (bA0, .inl (cI, 120, .inl b_row))] := by
  induction q generalizing v1 v2 o_elementCount o_documentCount o_deepest o_types o_names o_contents o_holders o_inners r with
  | zero => exact absurd (show (none : Option (Int32 × Int32 × Int32 × Int32 × (Nat → Int32) × (Nat → Int32) × (Nat → Int32) × (Nat → Int32) × (Nat → Int32))) = some r from h) (by simp)
  | succ q ih =>
    have h : fO_readDocumentS N (fO_readDocumentl N b_count b_row q) v1 v2 o_elementCount o_documentCount o_deepest o_types o_names o_contents o_holders o_inners b_count b_row = some r := h
    have e := cO_readDocumentS l D cI cJ oA oA0 oA1 oA2 oA3 oA4 bA bA0 N (fO_readDocumentl N b_count b_row q) v1 v2 o_elementCount o_documentCount o_deepest o_types o_names o_contents o_holders o_inners b_count b_row (3 * q) (fun v1 v2 o_elementCount o_documentCount o_deepest o_types o_names o_contents o_holders o_inners r h => ih v1 v2 o_elementCount o_documentCount o_deepest o_types o_names o_contents o_holders o_inners r h) r h
    have e2 : 3 * q + 13 = 3 * (q + 1) + 10 := by omega
    rw [e2] at e
    exact e
def fO_read (N : Nat) (o_elementCount : Int32) (o_documentCount : Int32) (o_deepest : Int32) (o_types : (Nat → Int32)) (o_names : (Nat → Int32)) (o_contents : (Nat → Int32)) (o_holders : (Nat → Int32)) (o_inners : (Nat → Int32)) (b_count : Int32) (b_row : (Nat → Int32)) : Option (Bool × Int32 × Int32 × Int32 × (Nat → Int32) × (Nat → Int32) × (Nat → Int32) × (Nat → Int32) × (Nat → Int32)) :=
  (fO_readDocument N 7 (0 : Int32) (1 : Int32) (0 : Int32) (0 : Int32) (0 : Int32) o_types o_names o_contents o_holders o_inners b_count b_row).bind fun u18 => (if u18.1 = b_count then (some (true, u18.2.1, u18.2.2.1, u18.2.2.2.1, u18.2.2.2.2.1, u18.2.2.2.2.2.1, u18.2.2.2.2.2.2.1, u18.2.2.2.2.2.2.2.1, u18.2.2.2.2.2.2.2.2)) else (some (false, u18.2.1, u18.2.2.1, u18.2.2.2.1, u18.2.2.2.2.1, u18.2.2.2.2.2.1, u18.2.2.2.2.2.2.1, u18.2.2.2.2.2.2.2.1, u18.2.2.2.2.2.2.2.2)))
set_option maxHeartbeats 4000000 in
set_option maxRecDepth 100000 in
theorem cO_read (l : Launch) (D : va_G) (cI cJ : ClassId) (oA oA0 oA1 oA2 oA3 oA4 bA bA0 : Nat) (N : Nat) (o_elementCount : Int32) (o_documentCount : Int32) (o_deepest : Int32) (o_types : (Nat → Int32)) (o_names : (Nat → Int32)) (o_contents : (Nat → Int32)) (o_holders : (Nat → Int32)) (o_inners : (Nat → Int32)) (b_count : Int32) (b_row : (Nat → Int32)) (r : Bool × Int32 × Int32 × Int32 × (Nat → Int32) × (Nat → Int32) × (Nat → Int32) × (Nat → Int32) × (Nat → Int32)) (h : fO_read N o_elementCount o_documentCount o_deepest o_types o_names o_contents o_holders o_inners b_count b_row = some r) : Mu l yO_read bO_read 1 (some .boolean) (rL 32) [.ref oA] D cI cJ [(oA, .inr (4, [.ref bA, .ref oA0, .ref oA1, .ref oA2, .ref oA3, .ref oA4, .int o_elementCount, .int o_documentCount, .int o_deepest])), (oA0, .inl (cI, 60, .inl o_types)), (oA1, .inl (cI, 60, .inl o_names)), (oA2, .inl (cI, 60, .inl o_contents)), (oA3, .inl (cI, 60, .inl o_holders)), (oA4, .inl (cI, 60, .inl o_inners)), (bA, .inr (0, [.ref bA0, .int b_count])), (bA0, .inl (cI, 120, .inl b_row))] (some (.int (bI r.1))) [(oA, .inr (4, [.ref bA, .ref oA0, .ref oA1, .ref oA2, .ref oA3, .ref oA4, .int r.2.1, .int r.2.2.1, .int r.2.2.2.1])), (oA0, .inl (cI, 60, .inl r.2.2.2.2.1)), (oA1, .inl (cI, 60, .inl r.2.2.2.2.2.1)), (oA2, .inl (cI, 60, .inl r.2.2.2.2.2.2.1)), (oA3, .inl (cI, 60, .inl r.2.2.2.2.2.2.2.1)), (oA4, .inl (cI, 60, .inl r.2.2.2.2.2.2.2.2)), (bA, .inr (0, [.ref bA0, .int b_count])), (bA0, .inl (cI, 120, .inl b_row))] := by
  refine mu_of (by decide) (Nat.le_of_ble_eq_true rfl) ?_
  intro p e s m below meth c ls A S hr hlocks hN hK hP hD hA hl
  have hS : va_S A s.heap s.heap [] := va_S.rf
  have hx := S.1
  have hb := S.2.1
  have hl : lv_has ls 1 [(0, .ref oA)] := hl
  unfold fO_read at h
  refine lv_aload_n hx hb dO_read_0 rfl (lv_at hl 0 rfl) ?_
  refine lv_iconst (v := (0 : Int32)) hx hb dO_read_1 (by decide) ?_
  refine pf S hK hP hD hS 0 4 6 (v := .int (0 : Int32)) zO_t u_zO zO_k zO_n w_168 rfl rfl (by decide) rfl rfl rfl rfl (Nat.le_of_ble_eq_true rfl) dO_read_2 (fun H locs hP hD hS => ?_)
  have hP : va_P D cs [(oA, .inr (4, [.ref bA, .ref oA0, .ref oA1, .ref oA2, .ref oA3, .ref oA4, .int (0 : Int32), .int o_documentCount, .int o_deepest])), (oA0, .inl (cI, 60, .inl o_types)), (oA1, .inl (cI, 60, .inl o_names)), (oA2, .inl (cI, 60, .inl o_contents)), (oA3, .inl (cI, 60, .inl o_holders)), (oA4, .inl (cI, 60, .inl o_inners)), (bA, .inr (0, [.ref bA0, .int b_count])), (bA0, .inl (cI, 120, .inl b_row))] H := hP
  have hD : va_D A [(oA, .inr (4, [.ref bA, .ref oA0, .ref oA1, .ref oA2, .ref oA3, .ref oA4, .int (0 : Int32), .int o_documentCount, .int o_deepest])), (oA0, .inl (cI, 60, .inl o_types)), (oA1, .inl (cI, 60, .inl o_names)), (oA2, .inl (cI, 60, .inl o_contents)), (oA3, .inl (cI, 60, .inl o_holders)), (oA4, .inl (cI, 60, .inl o_inners)), (bA, .inr (0, [.ref bA0, .int b_count])), (bA0, .inl (cI, 120, .inl b_row))] := hD
  refine lv_aload_n hx hb dO_read_5 rfl (lv_at hl 0 rfl) ?_
  refine lv_iconst (v := (0 : Int32)) hx hb dO_read_6 (by decide) ?_
  refine pf S hK hP hD hS 0 4 7 (v := .int (0 : Int32)) zO_t u_zO zO_k zO_n w_171 rfl rfl (by decide) rfl rfl rfl rfl (Nat.le_of_ble_eq_true rfl) dO_read_7 (fun H locs hP hD hS => ?_)
  have hP : va_P D cs [(oA, .inr (4, [.ref bA, .ref oA0, .ref oA1, .ref oA2, .ref oA3, .ref oA4, .int (0 : Int32), .int (0 : Int32), .int o_deepest])), (oA0, .inl (cI, 60, .inl o_types)), (oA1, .inl (cI, 60, .inl o_names)), (oA2, .inl (cI, 60, .inl o_contents)), (oA3, .inl (cI, 60, .inl o_holders)), (oA4, .inl (cI, 60, .inl o_inners)), (bA, .inr (0, [.ref bA0, .int b_count])), (bA0, .inl (cI, 120, .inl b_row))] H := hP
  have hD : va_D A [(oA, .inr (4, [.ref bA, .ref oA0, .ref oA1, .ref oA2, .ref oA3, .ref oA4, .int (0 : Int32), .int (0 : Int32), .int o_deepest])), (oA0, .inl (cI, 60, .inl o_types)), (oA1, .inl (cI, 60, .inl o_names)), (oA2, .inl (cI, 60, .inl o_contents)), (oA3, .inl (cI, 60, .inl o_holders)), (oA4, .inl (cI, 60, .inl o_inners)), (bA, .inr (0, [.ref bA0, .int b_count])), (bA0, .inl (cI, 120, .inl b_row))] := hD
  refine lv_aload_n hx hb dO_read_10 rfl (lv_at hl 0 rfl) ?_
  refine lv_iconst (v := (0 : Int32)) hx hb dO_read_11 (by decide) ?_
  refine pf S hK hP hD hS 0 4 8 (v := .int (0 : Int32)) zO_t u_zO zO_k zO_n w_174 rfl rfl (by decide) rfl rfl rfl rfl (Nat.le_of_ble_eq_true rfl) dO_read_12 (fun H locs hP hD hS => ?_)
  have hP : va_P D cs [(oA, .inr (4, [.ref bA, .ref oA0, .ref oA1, .ref oA2, .ref oA3, .ref oA4, .int (0 : Int32), .int (0 : Int32), .int (0 : Int32)])), (oA0, .inl (cI, 60, .inl o_types)), (oA1, .inl (cI, 60, .inl o_names)), (oA2, .inl (cI, 60, .inl o_contents)), (oA3, .inl (cI, 60, .inl o_holders)), (oA4, .inl (cI, 60, .inl o_inners)), (bA, .inr (0, [.ref bA0, .int b_count])), (bA0, .inl (cI, 120, .inl b_row))] H := hP
  have hD : va_D A [(oA, .inr (4, [.ref bA, .ref oA0, .ref oA1, .ref oA2, .ref oA3, .ref oA4, .int (0 : Int32), .int (0 : Int32), .int (0 : Int32)])), (oA0, .inl (cI, 60, .inl o_types)), (oA1, .inl (cI, 60, .inl o_names)), (oA2, .inl (cI, 60, .inl o_contents)), (oA3, .inl (cI, 60, .inl o_holders)), (oA4, .inl (cI, 60, .inl o_inners)), (bA, .inr (0, [.ref bA0, .int b_count])), (bA0, .inl (cI, 120, .inl b_row))] := hD
  refine lv_aload_n hx hb dO_read_15 rfl (lv_at hl 0 rfl) ?_
  refine lv_iconst (v := (0 : Int32)) hx hb dO_read_16 (by decide) ?_
  refine lv_iconst (v := (1 : Int32)) hx hb dO_read_17 (by decide) ?_
  obtain ⟨u18, e18, h⟩ := g_bind h
  refine mu_v S hN hK hP hD hS hA (rest := []) (cO_readDocument l D cI cJ oA oA0 oA1 oA2 oA3 oA4 bA bA0 N 7 (0 : Int32) (1 : Int32) (0 : Int32) (0 : Int32) (0 : Int32) o_types o_names o_contents o_holders o_inners b_count b_row u18 e18) k_O_41 [0, 1, 2, 3, 4, 5, 6, 7] [(some 0), (some 1), (some 2), (some 3), (some 4), (some 5), (some 6), (some 7)] [(oA, .inr (4, [.ref bA, .ref oA0, .ref oA1, .ref oA2, .ref oA3, .ref oA4, .int u18.2.1, .int u18.2.2.1, .int u18.2.2.2.1])), (oA0, .inl (cI, 60, .inl u18.2.2.2.2.1)), (oA1, .inl (cI, 60, .inl u18.2.2.2.2.2.1)), (oA2, .inl (cI, 60, .inl u18.2.2.2.2.2.2.1)), (oA3, .inl (cI, 60, .inl u18.2.2.2.2.2.2.2.1)), (oA4, .inl (cI, 60, .inl u18.2.2.2.2.2.2.2.2)), (bA, .inr (0, [.ref bA0, .int b_count])), (bA0, .inl (cI, 120, .inl b_row))] rfl rfl rfl ⟨rfl, rfl, rfl, rfl, rfl, rfl, rfl, rfl, trivial⟩ (by decide +kernel) 4 rfl rfl ⟨rfl, rfl⟩ ⟨Nat.le_of_ble_eq_true rfl, Nat.le_of_ble_eq_true rfl⟩ rfl hl.1 (Nat.le_of_ble_eq_true rfl) ⟨Nat.le_refl _, Nat.le_refl _⟩ dO_read_18 rfl (fun H locs hP hD hS => ?_)
  refine lv_aload_n hx hb dO_read_21 rfl (lv_at hl 0 rfl) ?_
  refine gf S hK hP 0 4 0 u_zO w_162 rfl rfl (by decide) rfl dO_read_22 ?_
  refine gfN S hN hK hP 6 0 1 (host := "PropertyDocuments") u_zB n_6 rfl rfl (by decide) rfl dO_read_25 ?_
  refine lv_icmp_ne (tgt := 35) hx hb dO_read_28 (by decide) (fun h28 => ?_) (fun h28 => ?_)
  · have h := g_f h h28
    refine lv_iconst (v := (0 : Int32)) hx hb dO_read_35 (by decide) ?_
    cases h
    exact mu_z S hr hlocks hP hS dO_read_36 rfl rfl
  · have h := g_t h h28
    refine lv_iconst (v := (1 : Int32)) hx hb dO_read_31 (by decide) ?_
    refine lv_goto (tgt := 36) hx hb dO_read_32 (by decide) ?_
    cases h
    exact mu_z S hr hlocks hP hS dO_read_36 rfl rfl
