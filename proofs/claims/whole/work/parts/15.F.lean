/-! contracts, laid by wip/gen/parts.py -/
def fF_propertyFor (N : Nat) (v1 : Int32) (f_meant : (Nat → Int32)) (d_classCount : Int32) (d_propertyCount : Int32) (d_parents : (Nat → Int32)) (d_owners : (Nat → Int32)) (d_letters : (Nat → Int32)) (b_count : Int32) (b_row : (Nat → Int32)) (o_elementCount : Int32) (o_names : (Nat → Int32)) (o_holders : (Nat → Int32)) : Option (Int32) :=
  (fO_holder v1 o_elementCount o_holders).bind fun u5 => (if u5 < 0 then (some ((-1 : Int32))) else (if (30 : Int32) ≤ u5 then (some ((-1 : Int32))) else (if ok u5 30 = true then ((fO_letter v1 o_elementCount o_names b_count b_row).bind fun u47 => ((fD_propertyOf N (f_meant u5.toNatClampNeg) u47 d_classCount d_propertyCount d_parents d_owners d_letters).bind fun u50 => (some (u50)))) else none)))
set_option maxHeartbeats 4000000 in
set_option maxRecDepth 100000 in
theorem cF_propertyFor (l : Launch) (D : va_G) (cI cJ : ClassId) (fA fA0 fA1 dA dA0 dA1 dA2 dA3 dA4 bA bA0 oA oA0 oA1 oA2 oA3 oA4 iA iA0 iA1 iA2 : Nat) (N : Nat) (v1 : Int32) (f_wanted : (Nat → Int32)) (f_meant : (Nat → Int32)) (d_classCount : Int32) (d_propertyCount : Int32) (d_parents : (Nat → Int32)) (d_owners : (Nat → Int32)) (d_letters : (Nat → Int32)) (d_sorts : (Nat → Int32)) (d_targets : (Nat → Int32)) (b_count : Int32) (b_row : (Nat → Int32)) (o_elementCount : Int32) (o_documentCount : Int32) (o_deepest : Int32) (o_types : (Nat → Int32)) (o_names : (Nat → Int32)) (o_contents : (Nat → Int32)) (o_holders : (Nat → Int32)) (o_inners : (Nat → Int32)) (i_count : Int32) (i_kinds : (Nat → Int32)) (i_values : (Nat → Int64)) (i_partners : (Nat → Int32)) (r : Int32) (h : fF_propertyFor N v1 f_meant d_classCount d_propertyCount d_parents d_owners d_letters b_count b_row o_elementCount o_names o_holders = some r) : Pu l yF_propertyFor bF_propertyFor 4 (some .int) (rL 3) [.ref fA, .int v1] D cI cJ [(fA, .inr (2, [.ref dA, .ref bA, .ref oA, .ref fA0, .ref fA1])), (fA0, .inl (cI, 30, .inl f_wanted)), (fA1, .inl (cI, 30, .inl f_meant)), (dA, .inr (1, [.ref dA0, .ref dA1, .ref dA2, .ref dA3, .ref dA4, .int d_classCount, .int d_propertyCount])), (dA0, .inl (cI, 6, .inl d_parents)), (dA1, .inl (cI, 8, .inl d_owners)), (dA2, .inl (cI, 8, .inl d_letters)), (dA3, .inl (cI, 8, .inl d_sorts)), (dA4, .inl (cI, 8, .inl d_targets)), (bA, .inr (0, [.ref bA0, .int b_count])), (bA0, .inl (cI, 120, .inl b_row)), (oA, .inr (4, [.ref bA, .ref oA0, .ref oA1, .ref oA2, .ref oA3, .ref oA4, .int o_elementCount, .int o_documentCount, .int o_deepest])), (oA0, .inl (cI, 60, .inl o_types)), (oA1, .inl (cI, 60, .inl o_names)), (oA2, .inl (cI, 60, .inl o_contents)), (oA3, .inl (cI, 60, .inl o_holders)), (oA4, .inl (cI, 60, .inl o_inners)), (iA, .inr (3, [.ref iA0, .ref iA1, .ref iA2, .int i_count])), (iA0, .inl (cI, 12, .inl i_kinds)), (iA1, .inl (cJ, 96, .inr (.inl i_values))), (iA2, .inl (cI, 96, .inl i_partners))] (.int r) := by
  refine pu_of (by decide) (Nat.le_of_ble_eq_true rfl) ?_
  intro p e s m below meth c ls S hr hlocks hN hK hP hl
  have hx := S.1
  have hb := S.2.1
  have hl : lv_has ls 4 [(0, .ref fA), (1, .int v1)] := hl
  unfold fF_propertyFor at h
  refine lv_aload_n hx hb dF_propertyFor_0 rfl (lv_at hl 0 rfl) ?_
  refine gf S hK hP 0 2 2 u_zF w_203 rfl rfl (by decide) rfl dF_propertyFor_1 ?_
  refine lv_iload_n hx hb dF_propertyFor_4 rfl (lv_at hl 1 rfl) ?_
  obtain ⟨u5, e5, h⟩ := g_bind h
  refine pu_v S hN hK hP (rest := []) (cO_holder l D cI cJ oA oA0 oA1 oA2 oA3 oA4 bA bA0 v1 o_elementCount o_documentCount o_deepest o_types o_names o_contents o_holders o_inners b_count b_row u5 e5) k_F_47 [11, 12, 13, 14, 15, 16, 9, 10] rfl 4 rfl rfl ⟨rfl, rfl⟩ ⟨Nat.le_of_ble_eq_true rfl, Nat.le_of_ble_eq_true rfl⟩ rfl hl.1 (Nat.le_of_ble_eq_true rfl) ⟨Nat.le_refl _, Nat.le_refl _⟩ dF_propertyFor_5 rfl ?_
  refine lv_istore_n (lv' := [(2, .int u5), (0, .ref fA), (1, .int v1)]) hx hb dF_propertyFor_8 rfl hl (Nat.le_of_ble_eq_true rfl) rfl (fun ls hl => ?_)
  refine lv_iload_n hx hb dF_propertyFor_9 rfl (lv_at hl 0 rfl) ?_
  refine lv_if_lt (tgt := 26) hx hb dF_propertyFor_10 (by decide) (fun h10 => ?_) (fun h10 => ?_)
  · have h := g_t h h10
    refine lv_iconst (v := (0 : Int32)) hx hb dF_propertyFor_26 (by decide) ?_
    refine lv_istore_n (lv' := [(3, .int (0 : Int32)), (2, .int u5), (0, .ref fA), (1, .int v1)]) hx hb dF_propertyFor_27 rfl hl (Nat.le_of_ble_eq_true rfl) rfl (fun ls hl => ?_)
    refine lv_iload_n hx hb dF_propertyFor_28 rfl (lv_at hl 0 rfl) ?_
    refine lv_if_eq (tgt := 56) hx hb dF_propertyFor_29 (by decide) (fun h29 => ?_) (fun h29 => ?_)
    · refine lv_iconst (v := (-1 : Int32)) hx hb dF_propertyFor_56 (by decide) ?_
      cases h
      exact pu_i S hr hlocks dF_propertyFor_57 rfl
    · exact absurd h29 (by decide)
  · have h := g_f h h10
    refine lv_iload_n hx hb dF_propertyFor_13 rfl (lv_at hl 0 rfl) ?_
    refine lv_aload_n hx hb dF_propertyFor_14 rfl (lv_at hl 1 rfl) ?_
    refine gf S hK hP 0 2 4 u_zF w_205 rfl rfl (by decide) rfl dF_propertyFor_15 ?_
    refine va_alen hx hb hK hP 2 0 (v := (30 : Int32)) rfl rfl rfl dF_propertyFor_18 ?_
    refine lv_icmp_ge (tgt := 26) hx hb dF_propertyFor_19 (by decide) (fun h19 => ?_) (fun h19 => ?_)
    · have h := g_t h h19
      refine lv_iconst (v := (0 : Int32)) hx hb dF_propertyFor_26 (by decide) ?_
      refine lv_istore_n (lv' := [(3, .int (0 : Int32)), (2, .int u5), (0, .ref fA), (1, .int v1)]) hx hb dF_propertyFor_27 rfl hl (Nat.le_of_ble_eq_true rfl) rfl (fun ls hl => ?_)
      refine lv_iload_n hx hb dF_propertyFor_28 rfl (lv_at hl 0 rfl) ?_
      refine lv_if_eq (tgt := 56) hx hb dF_propertyFor_29 (by decide) (fun h29 => ?_) (fun h29 => ?_)
      · refine lv_iconst (v := (-1 : Int32)) hx hb dF_propertyFor_56 (by decide) ?_
        cases h
        exact pu_i S hr hlocks dF_propertyFor_57 rfl
      · exact absurd h29 (by decide)
    · have h := g_f h h19
      refine lv_iconst (v := (1 : Int32)) hx hb dF_propertyFor_22 (by decide) ?_
      refine lv_goto (tgt := 27) hx hb dF_propertyFor_23 (by decide) ?_
      refine lv_istore_n (lv' := [(3, .int (1 : Int32)), (2, .int u5), (0, .ref fA), (1, .int v1)]) hx hb dF_propertyFor_27 rfl hl (Nat.le_of_ble_eq_true rfl) rfl (fun ls hl => ?_)
      refine lv_iload_n hx hb dF_propertyFor_28 rfl (lv_at hl 0 rfl) ?_
      refine lv_if_eq (tgt := 56) hx hb dF_propertyFor_29 (by decide) (fun h29 => ?_) (fun h29 => ?_)
      · exact absurd h29 (by decide)
      · refine lv_aload_n hx hb dF_propertyFor_32 rfl (lv_at hl 2 rfl) ?_
        refine gf S hK hP 0 2 0 u_zF w_201 rfl rfl (by decide) rfl dF_propertyFor_33 ?_
        refine lv_aload_n hx hb dF_propertyFor_36 rfl (lv_at hl 2 rfl) ?_
        refine gf S hK hP 0 2 4 u_zF w_205 rfl rfl (by decide) rfl dF_propertyFor_37 ?_
        refine lv_iload_n hx hb dF_propertyFor_40 rfl (lv_at hl 1 rfl) ?_
        obtain ⟨b41, h⟩ := g_ok h
        refine va_iald hx hb hK hP 2 0 rfl rfl b41 dF_propertyFor_41 ?_
        refine lv_aload_n hx hb dF_propertyFor_42 rfl (lv_at hl 2 rfl) ?_
        refine gf S hK hP 0 2 2 u_zF w_203 rfl rfl (by decide) rfl dF_propertyFor_43 ?_
        refine lv_iload_n hx hb dF_propertyFor_46 rfl (lv_at hl 3 rfl) ?_
        obtain ⟨u47, e47, h⟩ := g_bind h
        refine pu_v S hN hK hP (rest := [.int (f_meant u5.toNatClampNeg), .ref dA]) (cO_letter l D cI cJ oA oA0 oA1 oA2 oA3 oA4 bA bA0 v1 o_elementCount o_documentCount o_deepest o_types o_names o_contents o_holders o_inners b_count b_row u47 e47) k_F_92 [11, 12, 13, 14, 15, 16, 9, 10] rfl 4 rfl rfl ⟨rfl, rfl⟩ ⟨Nat.le_of_ble_eq_true rfl, Nat.le_of_ble_eq_true rfl⟩ rfl hl.1 (Nat.le_of_ble_eq_true rfl) ⟨Nat.le_refl _, Nat.le_refl _⟩ dF_propertyFor_47 rfl ?_
        obtain ⟨u50, e50, h⟩ := g_bind h
        refine pu_v S hN hK hP (rest := []) (cD_propertyOf l D cI cJ dA dA0 dA1 dA2 dA3 dA4 N (f_meant u5.toNatClampNeg) u47 d_classCount d_propertyCount d_parents d_owners d_letters d_sorts d_targets u50 e50) k_F_95 [3, 4, 5, 6, 7, 8] rfl 1 rfl rfl ⟨rfl, rfl⟩ ⟨Nat.le_of_ble_eq_true rfl, Nat.le_of_ble_eq_true rfl⟩ rfl hl.1 (Nat.le_of_ble_eq_true rfl) ⟨Nat.le_refl _, Nat.le_refl _⟩ dF_propertyFor_50 rfl ?_
        refine lv_goto (tgt := 57) hx hb dF_propertyFor_53 (by decide) ?_
        cases h
        exact pu_i S hr hlocks dF_propertyFor_57 rfl
def fF_wantInside (v1 : Int32) (v2 : Int32) (f_wanted : (Nat → Int32)) (d_propertyCount : Int32) (d_targets : (Nat → Int32)) (o_elementCount : Int32) (o_inners : (Nat → Int32)) : Option ((Nat → Int32)) :=
  (fO_inner v1 o_elementCount o_inners).bind fun u5 => (if u5 < 0 then (some (f_wanted)) else (if (30 : Int32) ≤ u5 then (some (f_wanted)) else ((fD_target v2 d_propertyCount d_targets).bind fun u32 => (if ok u5 30 = true then (some (upd f_wanted u5.toNatClampNeg u32)) else none))))
set_option maxHeartbeats 4000000 in
set_option maxRecDepth 100000 in
theorem cF_wantInside (l : Launch) (D : va_G) (cI cJ : ClassId) (fA fA0 fA1 dA dA0 dA1 dA2 dA3 dA4 bA bA0 oA oA0 oA1 oA2 oA3 oA4 iA iA0 iA1 iA2 : Nat) (v1 : Int32) (v2 : Int32) (f_wanted : (Nat → Int32)) (f_meant : (Nat → Int32)) (d_classCount : Int32) (d_propertyCount : Int32) (d_parents : (Nat → Int32)) (d_owners : (Nat → Int32)) (d_letters : (Nat → Int32)) (d_sorts : (Nat → Int32)) (d_targets : (Nat → Int32)) (b_count : Int32) (b_row : (Nat → Int32)) (o_elementCount : Int32) (o_documentCount : Int32) (o_deepest : Int32) (o_types : (Nat → Int32)) (o_names : (Nat → Int32)) (o_contents : (Nat → Int32)) (o_holders : (Nat → Int32)) (o_inners : (Nat → Int32)) (i_count : Int32) (i_kinds : (Nat → Int32)) (i_values : (Nat → Int64)) (i_partners : (Nat → Int32)) (r : (Nat → Int32)) (h : fF_wantInside v1 v2 f_wanted d_propertyCount d_targets o_elementCount o_inners = some r) : Mu l yF_wantInside bF_wantInside 4 none (rL 2) [.ref fA, .int v1, .int v2] D cI cJ [(fA, .inr (2, [.ref dA, .ref bA, .ref oA, .ref fA0, .ref fA1])), (fA0, .inl (cI, 30, .inl f_wanted)), (fA1, .inl (cI, 30, .inl f_meant)), (dA, .inr (1, [.ref dA0, .ref dA1, .ref dA2, .ref dA3, .ref dA4, .int d_classCount, .int d_propertyCount])), (dA0, .inl (cI, 6, .inl d_parents)), (dA1, .inl (cI, 8, .inl d_owners)), (dA2, .inl (cI, 8, .inl d_letters)), (dA3, .inl (cI, 8, .inl d_sorts)), (dA4, .inl (cI, 8, .inl d_targets)), (bA, .inr (0, [.ref bA0, .int b_count])), (bA0, .inl (cI, 120, .inl b_row)), (oA, .inr (4, [.ref bA, .ref oA0, .ref oA1, .ref oA2, .ref oA3, .ref oA4, .int o_elementCount, .int o_documentCount, .int o_deepest])), (oA0, .inl (cI, 60, .inl o_types)), (oA1, .inl (cI, 60, .inl o_names)), (oA2, .inl (cI, 60, .inl o_contents)), (oA3, .inl (cI, 60, .inl o_holders)), (oA4, .inl (cI, 60, .inl o_inners)), (iA, .inr (3, [.ref iA0, .ref iA1, .ref iA2, .int i_count])), (iA0, .inl (cI, 12, .inl i_kinds)), (iA1, .inl (cJ, 96, .inr (.inl i_values))), (iA2, .inl (cI, 96, .inl i_partners))] none [(fA, .inr (2, [.ref dA, .ref bA, .ref oA, .ref fA0, .ref fA1])), (fA0, .inl (cI, 30, .inl r)), (fA1, .inl (cI, 30, .inl f_meant)), (dA, .inr (1, [.ref dA0, .ref dA1, .ref dA2, .ref dA3, .ref dA4, .int d_classCount, .int d_propertyCount])), (dA0, .inl (cI, 6, .inl d_parents)), (dA1, .inl (cI, 8, .inl d_owners)), (dA2, .inl (cI, 8, .inl d_letters)), (dA3, .inl (cI, 8, .inl d_sorts)), (dA4, .inl (cI, 8, .inl d_targets)), (bA, .inr (0, [.ref bA0, .int b_count])), (bA0, .inl (cI, 120, .inl b_row)), (oA, .inr (4, [.ref bA, .ref oA0, .ref oA1, .ref oA2, .ref oA3, .ref oA4, .int o_elementCount, .int o_documentCount, .int o_deepest])), (oA0, .inl (cI, 60, .inl o_types)), (oA1, .inl (cI, 60, .inl o_names)), (oA2, .inl (cI, 60, .inl o_contents)), (oA3, .inl (cI, 60, .inl o_holders)), (oA4, .inl (cI, 60, .inl o_inners)), (iA, .inr (3, [.ref iA0, .ref iA1, .ref iA2, .int i_count])), (iA0, .inl (cI, 12, .inl i_kinds)), (iA1, .inl (cJ, 96, .inr (.inl i_values))), (iA2, .inl (cI, 96, .inl i_partners))] := by
  refine mu_of (by decide) (Nat.le_of_ble_eq_true rfl) ?_
  intro p e s m below meth c ls A S hr hlocks hN hK hP hD hA hl
  have hS : va_S A s.heap s.heap [] := va_S.rf
  have hx := S.1
  have hb := S.2.1
  have hl : lv_has ls 4 [(0, .ref fA), (1, .int v1), (2, .int v2)] := hl
  unfold fF_wantInside at h
  refine lv_aload_n hx hb dF_wantInside_0 rfl (lv_at hl 0 rfl) ?_
  refine gf S hK hP 0 2 2 u_zF w_203 rfl rfl (by decide) rfl dF_wantInside_1 ?_
  refine lv_iload_n hx hb dF_wantInside_4 rfl (lv_at hl 1 rfl) ?_
  obtain ⟨u5, e5, h⟩ := g_bind h
  refine pu_v S hN hK hP (rest := []) (cO_inner l D cI cJ oA oA0 oA1 oA2 oA3 oA4 bA bA0 v1 o_elementCount o_documentCount o_deepest o_types o_names o_contents o_holders o_inners b_count b_row u5 e5) k_F_86 [11, 12, 13, 14, 15, 16, 9, 10] rfl 4 rfl rfl ⟨rfl, rfl⟩ ⟨Nat.le_of_ble_eq_true rfl, Nat.le_of_ble_eq_true rfl⟩ rfl hl.1 (Nat.le_of_ble_eq_true rfl) ⟨Nat.le_refl _, Nat.le_refl _⟩ dF_wantInside_5 rfl ?_
  refine lv_istore_n (lv' := [(3, .int u5), (0, .ref fA), (1, .int v1), (2, .int v2)]) hx hb dF_wantInside_8 rfl hl (Nat.le_of_ble_eq_true rfl) rfl (fun ls hl => ?_)
  refine lv_iload_n hx hb dF_wantInside_9 rfl (lv_at hl 0 rfl) ?_
  refine lv_if_lt (tgt := 36) hx hb dF_wantInside_10 (by decide) (fun h10 => ?_) (fun h10 => ?_)
  · have h := g_t h h10
    cases h
    exact mu_n S hr hlocks hP hS dF_wantInside_36 rfl
  · have h := g_f h h10
    refine lv_iload_n hx hb dF_wantInside_13 rfl (lv_at hl 0 rfl) ?_
    refine lv_aload_n hx hb dF_wantInside_14 rfl (lv_at hl 1 rfl) ?_
    refine gf S hK hP 0 2 3 u_zF w_204 rfl rfl (by decide) rfl dF_wantInside_15 ?_
    refine va_alen hx hb hK hP 1 0 (v := (30 : Int32)) rfl rfl rfl dF_wantInside_18 ?_
    refine lv_icmp_ge (tgt := 36) hx hb dF_wantInside_19 (by decide) (fun h19 => ?_) (fun h19 => ?_)
    · have h := g_t h h19
      cases h
      exact mu_n S hr hlocks hP hS dF_wantInside_36 rfl
    · have h := g_f h h19
      refine lv_aload_n hx hb dF_wantInside_22 rfl (lv_at hl 1 rfl) ?_
      refine gf S hK hP 0 2 3 u_zF w_204 rfl rfl (by decide) rfl dF_wantInside_23 ?_
      refine lv_iload_n hx hb dF_wantInside_26 rfl (lv_at hl 0 rfl) ?_
      refine lv_aload_n hx hb dF_wantInside_27 rfl (lv_at hl 1 rfl) ?_
      refine gf S hK hP 0 2 0 u_zF w_201 rfl rfl (by decide) rfl dF_wantInside_28 ?_
      refine lv_iload_n hx hb dF_wantInside_31 rfl (lv_at hl 3 rfl) ?_
      obtain ⟨u32, e32, h⟩ := g_bind h
      refine pu_v S hN hK hP (rest := [.int u5, .ref fA0]) (cD_target l D cI cJ dA dA0 dA1 dA2 dA3 dA4 v2 d_classCount d_propertyCount d_parents d_owners d_letters d_sorts d_targets u32 e32) k_F_89 [3, 4, 5, 6, 7, 8] rfl 1 rfl rfl ⟨rfl, rfl⟩ ⟨Nat.le_of_ble_eq_true rfl, Nat.le_of_ble_eq_true rfl⟩ rfl hl.1 (Nat.le_of_ble_eq_true rfl) ⟨Nat.le_refl _, Nat.le_refl _⟩ dF_wantInside_32 rfl ?_
      obtain ⟨b35, h⟩ := g_ok h
      refine va_iast hx hb hK hP hD hS 1 0 rfl rfl b35 dF_wantInside_35 (fun H locs hP hD hS => ?_)
      have hP : va_P D cs [(fA, .inr (2, [.ref dA, .ref bA, .ref oA, .ref fA0, .ref fA1])), (fA0, .inl (cI, 30, .inl (upd f_wanted u5.toNatClampNeg u32))), (fA1, .inl (cI, 30, .inl f_meant)), (dA, .inr (1, [.ref dA0, .ref dA1, .ref dA2, .ref dA3, .ref dA4, .int d_classCount, .int d_propertyCount])), (dA0, .inl (cI, 6, .inl d_parents)), (dA1, .inl (cI, 8, .inl d_owners)), (dA2, .inl (cI, 8, .inl d_letters)), (dA3, .inl (cI, 8, .inl d_sorts)), (dA4, .inl (cI, 8, .inl d_targets)), (bA, .inr (0, [.ref bA0, .int b_count])), (bA0, .inl (cI, 120, .inl b_row)), (oA, .inr (4, [.ref bA, .ref oA0, .ref oA1, .ref oA2, .ref oA3, .ref oA4, .int o_elementCount, .int o_documentCount, .int o_deepest])), (oA0, .inl (cI, 60, .inl o_types)), (oA1, .inl (cI, 60, .inl o_names)), (oA2, .inl (cI, 60, .inl o_contents)), (oA3, .inl (cI, 60, .inl o_holders)), (oA4, .inl (cI, 60, .inl o_inners)), (iA, .inr (3, [.ref iA0, .ref iA1, .ref iA2, .int i_count])), (iA0, .inl (cI, 12, .inl i_kinds)), (iA1, .inl (cJ, 96, .inr (.inl i_values))), (iA2, .inl (cI, 96, .inl i_partners))] H := hP
      have hD : va_D A [(fA, .inr (2, [.ref dA, .ref bA, .ref oA, .ref fA0, .ref fA1])), (fA0, .inl (cI, 30, .inl (upd f_wanted u5.toNatClampNeg u32))), (fA1, .inl (cI, 30, .inl f_meant)), (dA, .inr (1, [.ref dA0, .ref dA1, .ref dA2, .ref dA3, .ref dA4, .int d_classCount, .int d_propertyCount])), (dA0, .inl (cI, 6, .inl d_parents)), (dA1, .inl (cI, 8, .inl d_owners)), (dA2, .inl (cI, 8, .inl d_letters)), (dA3, .inl (cI, 8, .inl d_sorts)), (dA4, .inl (cI, 8, .inl d_targets)), (bA, .inr (0, [.ref bA0, .int b_count])), (bA0, .inl (cI, 120, .inl b_row)), (oA, .inr (4, [.ref bA, .ref oA0, .ref oA1, .ref oA2, .ref oA3, .ref oA4, .int o_elementCount, .int o_documentCount, .int o_deepest])), (oA0, .inl (cI, 60, .inl o_types)), (oA1, .inl (cI, 60, .inl o_names)), (oA2, .inl (cI, 60, .inl o_contents)), (oA3, .inl (cI, 60, .inl o_holders)), (oA4, .inl (cI, 60, .inl o_inners)), (iA, .inr (3, [.ref iA0, .ref iA1, .ref iA2, .int i_count])), (iA0, .inl (cI, 12, .inl i_kinds)), (iA1, .inl (cJ, 96, .inr (.inl i_values))), (iA2, .inl (cI, 96, .inl i_partners))] := hD
      cases h
      exact mu_n S hr hlocks hP hS dF_wantInside_36 rfl
def fF_elementsFit_4 (N : Nat) (v1 : Int32) (f_meant : (Nat → Int32)) (d_classCount : Int32) (d_propertyCount : Int32) (d_parents : (Nat → Int32)) (d_owners : (Nat → Int32)) (d_letters : (Nat → Int32)) (d_sorts : (Nat → Int32)) (d_targets : (Nat → Int32)) (b_count : Int32) (b_row : (Nat → Int32)) (o_elementCount : Int32) (o_types : (Nat → Int32)) (o_names : (Nat → Int32)) (o_holders : (Nat → Int32)) (o_inners : (Nat → Int32)) (rc4 : Int32 × Int32 × (Nat → Int32) → Option (Bool × (Nat → Int32))) (v2 : Int32) (v3 : Int32) (f_wanted : (Nat → Int32)) : Option (Bool × (Nat → Int32)) :=
  if o_elementCount ≤ v3 then (some (true, f_wanted)) else ((fO_holder v3 o_elementCount o_holders).bind fun u20 => (if u20 = v1 then ((fO_isMark v3 o_elementCount o_names b_count b_row).bind fun u32 => (if u32 = true then (rc4 (v2, v3 + (1 : Int32), f_wanted)) else ((fF_propertyFor N v3 f_meant d_classCount d_propertyCount d_parents d_owners d_letters b_count b_row o_elementCount o_names o_holders).bind fun u40 => ((fO_type v3 o_elementCount o_types).bind fun u56 => ((fD_allowsType u40 u56 d_propertyCount d_sorts).bind fun u59 => (if u59 = true then (if (v2 &&& ((1 : Int32) <<< (u40 &&& 31))) = 0 then ((fF_wantInside v3 u40 f_wanted d_propertyCount d_targets o_elementCount o_inners).bind fun u87 => (rc4 (v2 ||| ((1 : Int32) <<< (u40 &&& 31)), v3 + (1 : Int32), u87))) else (some (false, f_wanted))) else (some (false, f_wanted)))))))) else (rc4 (v2, v3 + (1 : Int32), f_wanted))))
def fF_elementsFit_4l (N : Nat) (v1 : Int32) (f_meant : (Nat → Int32)) (d_classCount : Int32) (d_propertyCount : Int32) (d_parents : (Nat → Int32)) (d_owners : (Nat → Int32)) (d_letters : (Nat → Int32)) (d_sorts : (Nat → Int32)) (d_targets : (Nat → Int32)) (b_count : Int32) (b_row : (Nat → Int32)) (o_elementCount : Int32) (o_types : (Nat → Int32)) (o_names : (Nat → Int32)) (o_holders : (Nat → Int32)) (o_inners : (Nat → Int32)) : Nat → Int32 × Int32 × (Nat → Int32) → Option (Bool × (Nat → Int32)) := lp (fun rc a => fF_elementsFit_4 N v1 f_meant d_classCount d_propertyCount d_parents d_owners d_letters d_sorts d_targets b_count b_row o_elementCount o_types o_names o_holders o_inners rc a.1 a.2.1 a.2.2)
def fF_elementsFit (N : Nat) (v1 : Int32) (f_wanted : (Nat → Int32)) (f_meant : (Nat → Int32)) (d_classCount : Int32) (d_propertyCount : Int32) (d_parents : (Nat → Int32)) (d_owners : (Nat → Int32)) (d_letters : (Nat → Int32)) (d_sorts : (Nat → Int32)) (d_targets : (Nat → Int32)) (b_count : Int32) (b_row : (Nat → Int32)) (o_elementCount : Int32) (o_types : (Nat → Int32)) (o_names : (Nat → Int32)) (o_holders : (Nat → Int32)) (o_inners : (Nat → Int32)) : Option (Bool × (Nat → Int32)) :=
  fF_elementsFit_4l N v1 f_meant d_classCount d_propertyCount d_parents d_owners d_letters d_sorts d_targets b_count b_row o_elementCount o_types o_names o_holders o_inners N ((0 : Int32), (0 : Int32), f_wanted)
set_option maxHeartbeats 4000000 in
set_option maxRecDepth 100000 in
theorem cF_elementsFit (l : Launch) (D : va_G) (cI cJ : ClassId) (fA fA0 fA1 dA dA0 dA1 dA2 dA3 dA4 bA bA0 oA oA0 oA1 oA2 oA3 oA4 iA iA0 iA1 iA2 : Nat) (N : Nat) (v1 : Int32) (f_wanted : (Nat → Int32)) (f_meant : (Nat → Int32)) (d_classCount : Int32) (d_propertyCount : Int32) (d_parents : (Nat → Int32)) (d_owners : (Nat → Int32)) (d_letters : (Nat → Int32)) (d_sorts : (Nat → Int32)) (d_targets : (Nat → Int32)) (b_count : Int32) (b_row : (Nat → Int32)) (o_elementCount : Int32) (o_documentCount : Int32) (o_deepest : Int32) (o_types : (Nat → Int32)) (o_names : (Nat → Int32)) (o_contents : (Nat → Int32)) (o_holders : (Nat → Int32)) (o_inners : (Nat → Int32)) (i_count : Int32) (i_kinds : (Nat → Int32)) (i_values : (Nat → Int64)) (i_partners : (Nat → Int32)) (r : Bool × (Nat → Int32)) (h : fF_elementsFit N v1 f_wanted f_meant d_classCount d_propertyCount d_parents d_owners d_letters d_sorts d_targets b_count b_row o_elementCount o_types o_names o_holders o_inners = some r) : Mu l yF_elementsFit bF_elementsFit 5 (some .boolean) (rL 4) [.ref fA, .int v1] D cI cJ [(fA, .inr (2, [.ref dA, .ref bA, .ref oA, .ref fA0, .ref fA1])), (fA0, .inl (cI, 30, .inl f_wanted)), (fA1, .inl (cI, 30, .inl f_meant)), (dA, .inr (1, [.ref dA0, .ref dA1, .ref dA2, .ref dA3, .ref dA4, .int d_classCount, .int d_propertyCount])), (dA0, .inl (cI, 6, .inl d_parents)), (dA1, .inl (cI, 8, .inl d_owners)), (dA2, .inl (cI, 8, .inl d_letters)), (dA3, .inl (cI, 8, .inl d_sorts)), (dA4, .inl (cI, 8, .inl d_targets)), (bA, .inr (0, [.ref bA0, .int b_count])), (bA0, .inl (cI, 120, .inl b_row)), (oA, .inr (4, [.ref bA, .ref oA0, .ref oA1, .ref oA2, .ref oA3, .ref oA4, .int o_elementCount, .int o_documentCount, .int o_deepest])), (oA0, .inl (cI, 60, .inl o_types)), (oA1, .inl (cI, 60, .inl o_names)), (oA2, .inl (cI, 60, .inl o_contents)), (oA3, .inl (cI, 60, .inl o_holders)), (oA4, .inl (cI, 60, .inl o_inners)), (iA, .inr (3, [.ref iA0, .ref iA1, .ref iA2, .int i_count])), (iA0, .inl (cI, 12, .inl i_kinds)), (iA1, .inl (cJ, 96, .inr (.inl i_values))), (iA2, .inl (cI, 96, .inl i_partners))] (some (.int (bI r.1))) [(fA, .inr (2, [.ref dA, .ref bA, .ref oA, .ref fA0, .ref fA1])), (fA0, .inl (cI, 30, .inl r.2)), (fA1, .inl (cI, 30, .inl f_meant)), (dA, .inr (1, [.ref dA0, .ref dA1, .ref dA2, .ref dA3, .ref dA4, .int d_classCount, .int d_propertyCount])), (dA0, .inl (cI, 6, .inl d_parents)), (dA1, .inl (cI, 8, .inl d_owners)), (dA2, .inl (cI, 8, .inl d_letters)), (dA3, .inl (cI, 8, .inl d_sorts)), (dA4, .inl (cI, 8, .inl d_targets)), (bA, .inr (0, [.ref bA0, .int b_count])), (bA0, .inl (cI, 120, .inl b_row)), (oA, .inr (4, [.ref bA, .ref oA0, .ref oA1, .ref oA2, .ref oA3, .ref oA4, .int o_elementCount, .int o_documentCount, .int o_deepest])), (oA0, .inl (cI, 60, .inl o_types)), (oA1, .inl (cI, 60, .inl o_names)), (oA2, .inl (cI, 60, .inl o_contents)), (oA3, .inl (cI, 60, .inl o_holders)), (oA4, .inl (cI, 60, .inl o_inners)), (iA, .inr (3, [.ref iA0, .ref iA1, .ref iA2, .int i_count])), (iA0, .inl (cI, 12, .inl i_kinds)), (iA1, .inl (cJ, 96, .inr (.inl i_values))), (iA2, .inl (cI, 96, .inl i_partners))] := by
  refine mu_of (by decide) (Nat.le_of_ble_eq_true rfl) ?_
  intro p e s m below meth c ls A S hr hlocks hN hK hP hD hA hl
  have hS : va_S A s.heap s.heap [] := va_S.rf
  have hx := S.1
  have hb := S.2.1
  have hl : lv_has ls 5 [(0, .ref fA), (1, .int v1)] := hl
  unfold fF_elementsFit at h
  have t4 : ∀ (k : Nat) (a : Int32 × Int32 × (Nat → Int32)), fF_elementsFit_4l N v1 f_meant d_classCount d_propertyCount d_parents d_owners d_letters d_sorts d_targets b_count b_row o_elementCount o_types o_names o_holders o_inners k a = some r → ∀ (ls : Array Slot) (H : Heap) (locs : List Loc), lv_has ls 5 [(0, .ref fA), (1, .int v1), (2, .int a.1), (3, .int a.2.1)] → va_P D cs [(fA, .inr (2, [.ref dA, .ref bA, .ref oA, .ref fA0, .ref fA1])), (fA0, .inl (cI, 30, .inl a.2.2)), (fA1, .inl (cI, 30, .inl f_meant)), (dA, .inr (1, [.ref dA0, .ref dA1, .ref dA2, .ref dA3, .ref dA4, .int d_classCount, .int d_propertyCount])), (dA0, .inl (cI, 6, .inl d_parents)), (dA1, .inl (cI, 8, .inl d_owners)), (dA2, .inl (cI, 8, .inl d_letters)), (dA3, .inl (cI, 8, .inl d_sorts)), (dA4, .inl (cI, 8, .inl d_targets)), (bA, .inr (0, [.ref bA0, .int b_count])), (bA0, .inl (cI, 120, .inl b_row)), (oA, .inr (4, [.ref bA, .ref oA0, .ref oA1, .ref oA2, .ref oA3, .ref oA4, .int o_elementCount, .int o_documentCount, .int o_deepest])), (oA0, .inl (cI, 60, .inl o_types)), (oA1, .inl (cI, 60, .inl o_names)), (oA2, .inl (cI, 60, .inl o_contents)), (oA3, .inl (cI, 60, .inl o_holders)), (oA4, .inl (cI, 60, .inl o_inners)), (iA, .inr (3, [.ref iA0, .ref iA1, .ref iA2, .int i_count])), (iA0, .inl (cI, 12, .inl i_kinds)), (iA1, .inl (cJ, 96, .inr (.inl i_values))), (iA2, .inl (cI, 96, .inl i_partners))] H → va_D A [(fA, .inr (2, [.ref dA, .ref bA, .ref oA, .ref fA0, .ref fA1])), (fA0, .inl (cI, 30, .inl a.2.2)), (fA1, .inl (cI, 30, .inl f_meant)), (dA, .inr (1, [.ref dA0, .ref dA1, .ref dA2, .ref dA3, .ref dA4, .int d_classCount, .int d_propertyCount])), (dA0, .inl (cI, 6, .inl d_parents)), (dA1, .inl (cI, 8, .inl d_owners)), (dA2, .inl (cI, 8, .inl d_letters)), (dA3, .inl (cI, 8, .inl d_sorts)), (dA4, .inl (cI, 8, .inl d_targets)), (bA, .inr (0, [.ref bA0, .int b_count])), (bA0, .inl (cI, 120, .inl b_row)), (oA, .inr (4, [.ref bA, .ref oA0, .ref oA1, .ref oA2, .ref oA3, .ref oA4, .int o_elementCount, .int o_documentCount, .int o_deepest])), (oA0, .inl (cI, 60, .inl o_types)), (oA1, .inl (cI, 60, .inl o_names)), (oA2, .inl (cI, 60, .inl o_contents)), (oA3, .inl (cI, 60, .inl o_holders)), (oA4, .inl (cI, 60, .inl o_inners)), (iA, .inr (3, [.ref iA0, .ref iA1, .ref iA2, .int i_count])), (iA0, .inl (cI, 12, .inl i_kinds)), (iA1, .inl (cJ, 96, .inr (.inl i_values))), (iA2, .inl (cI, 96, .inl i_partners))] → va_S A s.heap H locs → W p l e (rL 4) s m ([.ref fA, .int v1] : List Value).toArray below meth c H locs 0 0 (MQ below (fun _ st oc t => (oc = .returned (some (.int (bI r.1))) ∧ va_P D cs [(fA, .inr (2, [.ref dA, .ref bA, .ref oA, .ref fA0, .ref fA1])), (fA0, .inl (cI, 30, .inl r.2)), (fA1, .inl (cI, 30, .inl f_meant)), (dA, .inr (1, [.ref dA0, .ref dA1, .ref dA2, .ref dA3, .ref dA4, .int d_classCount, .int d_propertyCount])), (dA0, .inl (cI, 6, .inl d_parents)), (dA1, .inl (cI, 8, .inl d_owners)), (dA2, .inl (cI, 8, .inl d_letters)), (dA3, .inl (cI, 8, .inl d_sorts)), (dA4, .inl (cI, 8, .inl d_targets)), (bA, .inr (0, [.ref bA0, .int b_count])), (bA0, .inl (cI, 120, .inl b_row)), (oA, .inr (4, [.ref bA, .ref oA0, .ref oA1, .ref oA2, .ref oA3, .ref oA4, .int o_elementCount, .int o_documentCount, .int o_deepest])), (oA0, .inl (cI, 60, .inl o_types)), (oA1, .inl (cI, 60, .inl o_names)), (oA2, .inl (cI, 60, .inl o_contents)), (oA3, .inl (cI, 60, .inl o_holders)), (oA4, .inl (cI, 60, .inl o_inners)), (iA, .inr (3, [.ref iA0, .ref iA1, .ref iA2, .int i_count])), (iA0, .inl (cI, 12, .inl i_kinds)), (iA1, .inl (cJ, 96, .inr (.inl i_values))), (iA2, .inl (cI, 96, .inl i_partners))] t.heap) ∧ va_F A st t) ([.ref fA, .int v1] : List Value).toArray s 0 0 A) (F0 m 4 ls []) := by
    unfold fF_elementsFit_4l
    refine lp_some ?_
    intro rc4 hrc4 a h
    obtain ⟨v2, v3, f_wanted⟩ := a
    intro ls H locs hl hP hD hS
    have h : fF_elementsFit_4 N v1 f_meant d_classCount d_propertyCount d_parents d_owners d_letters d_sorts d_targets b_count b_row o_elementCount o_types o_names o_holders o_inners rc4 v2 v3 f_wanted = some r := h
    have hl : lv_has ls 5 [(0, .ref fA), (1, .int v1), (2, .int v2), (3, .int v3)] := hl
    have hP : va_P D cs [(fA, .inr (2, [.ref dA, .ref bA, .ref oA, .ref fA0, .ref fA1])), (fA0, .inl (cI, 30, .inl f_wanted)), (fA1, .inl (cI, 30, .inl f_meant)), (dA, .inr (1, [.ref dA0, .ref dA1, .ref dA2, .ref dA3, .ref dA4, .int d_classCount, .int d_propertyCount])), (dA0, .inl (cI, 6, .inl d_parents)), (dA1, .inl (cI, 8, .inl d_owners)), (dA2, .inl (cI, 8, .inl d_letters)), (dA3, .inl (cI, 8, .inl d_sorts)), (dA4, .inl (cI, 8, .inl d_targets)), (bA, .inr (0, [.ref bA0, .int b_count])), (bA0, .inl (cI, 120, .inl b_row)), (oA, .inr (4, [.ref bA, .ref oA0, .ref oA1, .ref oA2, .ref oA3, .ref oA4, .int o_elementCount, .int o_documentCount, .int o_deepest])), (oA0, .inl (cI, 60, .inl o_types)), (oA1, .inl (cI, 60, .inl o_names)), (oA2, .inl (cI, 60, .inl o_contents)), (oA3, .inl (cI, 60, .inl o_holders)), (oA4, .inl (cI, 60, .inl o_inners)), (iA, .inr (3, [.ref iA0, .ref iA1, .ref iA2, .int i_count])), (iA0, .inl (cI, 12, .inl i_kinds)), (iA1, .inl (cJ, 96, .inr (.inl i_values))), (iA2, .inl (cI, 96, .inl i_partners))] H := hP
    have hD : va_D A [(fA, .inr (2, [.ref dA, .ref bA, .ref oA, .ref fA0, .ref fA1])), (fA0, .inl (cI, 30, .inl f_wanted)), (fA1, .inl (cI, 30, .inl f_meant)), (dA, .inr (1, [.ref dA0, .ref dA1, .ref dA2, .ref dA3, .ref dA4, .int d_classCount, .int d_propertyCount])), (dA0, .inl (cI, 6, .inl d_parents)), (dA1, .inl (cI, 8, .inl d_owners)), (dA2, .inl (cI, 8, .inl d_letters)), (dA3, .inl (cI, 8, .inl d_sorts)), (dA4, .inl (cI, 8, .inl d_targets)), (bA, .inr (0, [.ref bA0, .int b_count])), (bA0, .inl (cI, 120, .inl b_row)), (oA, .inr (4, [.ref bA, .ref oA0, .ref oA1, .ref oA2, .ref oA3, .ref oA4, .int o_elementCount, .int o_documentCount, .int o_deepest])), (oA0, .inl (cI, 60, .inl o_types)), (oA1, .inl (cI, 60, .inl o_names)), (oA2, .inl (cI, 60, .inl o_contents)), (oA3, .inl (cI, 60, .inl o_holders)), (oA4, .inl (cI, 60, .inl o_inners)), (iA, .inr (3, [.ref iA0, .ref iA1, .ref iA2, .int i_count])), (iA0, .inl (cI, 12, .inl i_kinds)), (iA1, .inl (cJ, 96, .inr (.inl i_values))), (iA2, .inl (cI, 96, .inl i_partners))] := hD
    unfold fF_elementsFit_4 at h
    refine lv_iload_n hx hb dF_elementsFit_4 rfl (lv_at hl 3 rfl) ?_
    refine lv_aload_n hx hb dF_elementsFit_5 rfl (lv_at hl 0 rfl) ?_
    refine gf S hK hP 0 2 2 u_zF w_203 rfl rfl (by decide) rfl dF_elementsFit_6 ?_
    refine gfN S hN hK hP 11 4 6 (host := "PropertyDocuments") u_zO n_10 rfl rfl (by decide) rfl dF_elementsFit_9 ?_
    refine lv_icmp_ge (tgt := 96) hx hb dF_elementsFit_12 (by decide) (fun h12 => ?_) (fun h12 => ?_)
    · have h := g_t h h12
      refine lv_iconst (v := (1 : Int32)) hx hb dF_elementsFit_96 (by decide) ?_
      cases h
      exact mu_z S hr hlocks hP hS dF_elementsFit_97 rfl rfl
    · have h := g_f h h12
      refine lv_aload_n hx hb dF_elementsFit_15 rfl (lv_at hl 0 rfl) ?_
      refine gf S hK hP 0 2 2 u_zF w_203 rfl rfl (by decide) rfl dF_elementsFit_16 ?_
      refine lv_iload_n hx hb dF_elementsFit_19 rfl (lv_at hl 3 rfl) ?_
      obtain ⟨u20, e20, h⟩ := g_bind h
      refine pu_v S hN hK hP (rest := []) (cO_holder l D cI cJ oA oA0 oA1 oA2 oA3 oA4 bA bA0 v3 o_elementCount o_documentCount o_deepest o_types o_names o_contents o_holders o_inners b_count b_row u20 e20) k_F_47 [11, 12, 13, 14, 15, 16, 9, 10] rfl 4 rfl rfl ⟨rfl, rfl⟩ ⟨Nat.le_of_ble_eq_true rfl, Nat.le_of_ble_eq_true rfl⟩ rfl hl.1 (Nat.le_of_ble_eq_true rfl) ⟨Nat.le_refl _, Nat.le_refl _⟩ dF_elementsFit_20 rfl ?_
      refine lv_iload_n hx hb dF_elementsFit_23 rfl (lv_at hl 1 rfl) ?_
      refine lv_icmp_ne (tgt := 90) hx hb dF_elementsFit_24 (by decide) (fun h24 => ?_) (fun h24 => ?_)
      · have h := g_f h h24
        refine lv_iinc (k := 3) (v := v3 + (1 : Int32)) (lv' := [(3, .int (v3 + (1 : Int32))), (0, .ref fA), (1, .int v1), (2, .int v2)]) hx hb dF_elementsFit_90 hl rfl (congrArg (v3 + ·) (by decide : Int32.ofInt (1) = (1 : Int32))) (Nat.le_of_ble_eq_true rfl) rfl (fun ls hl => ?_)
        refine lv_goto (tgt := 4) hx hb dF_elementsFit_93 (by decide) ?_
        exact hrc4 (v2, v3 + (1 : Int32), f_wanted) h _ _ _ (lv_sub hl [1, 2, 3, 0] rfl) hP hD hS
      · have h := g_t h h24
        refine lv_aload_n hx hb dF_elementsFit_27 rfl (lv_at hl 0 rfl) ?_
        refine gf S hK hP 0 2 2 u_zF w_203 rfl rfl (by decide) rfl dF_elementsFit_28 ?_
        refine lv_iload_n hx hb dF_elementsFit_31 rfl (lv_at hl 3 rfl) ?_
        obtain ⟨u32, e32, h⟩ := g_bind h
        refine pu_v S hN hK hP (rest := []) (cO_isMark l D cI cJ oA oA0 oA1 oA2 oA3 oA4 bA bA0 v3 o_elementCount o_documentCount o_deepest o_types o_names o_contents o_holders o_inners b_count b_row u32 e32) k_F_50 [11, 12, 13, 14, 15, 16, 9, 10] rfl 4 rfl rfl ⟨rfl, rfl⟩ ⟨Nat.le_of_ble_eq_true rfl, Nat.le_of_ble_eq_true rfl⟩ rfl hl.1 (Nat.le_of_ble_eq_true rfl) ⟨Nat.le_refl _, Nat.le_refl _⟩ dF_elementsFit_32 rfl ?_
        refine b_ifne (tgt := 90) hx hb dF_elementsFit_35 (by decide) (fun h35 => ?_) (fun h35 => ?_)
        · have h := g_t h h35
          refine lv_iinc (k := 3) (v := v3 + (1 : Int32)) (lv' := [(3, .int (v3 + (1 : Int32))), (0, .ref fA), (1, .int v1), (2, .int v2)]) hx hb dF_elementsFit_90 hl rfl (congrArg (v3 + ·) (by decide : Int32.ofInt (1) = (1 : Int32))) (Nat.le_of_ble_eq_true rfl) rfl (fun ls hl => ?_)
          refine lv_goto (tgt := 4) hx hb dF_elementsFit_93 (by decide) ?_
          exact hrc4 (v2, v3 + (1 : Int32), f_wanted) h _ _ _ (lv_sub hl [1, 2, 3, 0] rfl) hP hD hS
        · have h := g_f h h35
          refine lv_aload_n hx hb dF_elementsFit_38 rfl (lv_at hl 0 rfl) ?_
          refine lv_iload_n hx hb dF_elementsFit_39 rfl (lv_at hl 3 rfl) ?_
          obtain ⟨u40, e40, h⟩ := g_bind h
          refine pu_v S hN hK hP (rest := []) (cF_propertyFor l D cI cJ fA fA0 fA1 dA dA0 dA1 dA2 dA3 dA4 bA bA0 oA oA0 oA1 oA2 oA3 oA4 iA iA0 iA1 iA2 N v3 f_wanted f_meant d_classCount d_propertyCount d_parents d_owners d_letters d_sorts d_targets b_count b_row o_elementCount o_documentCount o_deepest o_types o_names o_contents o_holders o_inners i_count i_kinds i_values i_partners u40 e40) k_F_76 [0, 1, 2, 3, 4, 5, 6, 7, 8, 9, 10, 11, 12, 13, 14, 15, 16, 17, 18, 19, 20] rfl 2 rfl rfl ⟨rfl, rfl⟩ ⟨Nat.le_of_ble_eq_true rfl, Nat.le_of_ble_eq_true rfl⟩ rfl hl.1 (Nat.le_of_ble_eq_true rfl) ⟨Nat.le_refl _, Nat.le_refl _⟩ dF_elementsFit_40 rfl ?_
          refine lv_istore (lv' := [(4, .int u40), (0, .ref fA), (1, .int v1), (2, .int v2), (3, .int v3)]) hx hb dF_elementsFit_43 hl (Nat.le_of_ble_eq_true rfl) rfl (fun ls hl => ?_)
          refine lv_aload_n hx hb dF_elementsFit_45 rfl (lv_at hl 1 rfl) ?_
          refine gf S hK hP 0 2 0 u_zF w_201 rfl rfl (by decide) rfl dF_elementsFit_46 ?_
          refine lv_iload hx hb dF_elementsFit_49 (lv_at hl 0 rfl) ?_
          refine lv_aload_n hx hb dF_elementsFit_51 rfl (lv_at hl 1 rfl) ?_
          refine gf S hK hP 0 2 2 u_zF w_203 rfl rfl (by decide) rfl dF_elementsFit_52 ?_
          refine lv_iload_n hx hb dF_elementsFit_55 rfl (lv_at hl 4 rfl) ?_
          obtain ⟨u56, e56, h⟩ := g_bind h
          refine pu_v S hN hK hP (rest := [.int u40, .ref dA]) (cO_type l D cI cJ oA oA0 oA1 oA2 oA3 oA4 bA bA0 v3 o_elementCount o_documentCount o_deepest o_types o_names o_contents o_holders o_inners b_count b_row u56 e56) k_F_65 [11, 12, 13, 14, 15, 16, 9, 10] rfl 4 rfl rfl ⟨rfl, rfl⟩ ⟨Nat.le_of_ble_eq_true rfl, Nat.le_of_ble_eq_true rfl⟩ rfl hl.1 (Nat.le_of_ble_eq_true rfl) ⟨Nat.le_refl _, Nat.le_refl _⟩ dF_elementsFit_56 rfl ?_
          obtain ⟨u59, e59, h⟩ := g_bind h
          refine pu_v S hN hK hP (rest := []) (cD_allowsType l D cI cJ dA dA0 dA1 dA2 dA3 dA4 u40 u56 d_classCount d_propertyCount d_parents d_owners d_letters d_sorts d_targets u59 e59) k_F_79 [3, 4, 5, 6, 7, 8] rfl 1 rfl rfl ⟨rfl, rfl⟩ ⟨Nat.le_of_ble_eq_true rfl, Nat.le_of_ble_eq_true rfl⟩ rfl hl.1 (Nat.le_of_ble_eq_true rfl) ⟨Nat.le_refl _, Nat.le_refl _⟩ dF_elementsFit_59 rfl ?_
          refine b_ifeq (tgt := 74) hx hb dF_elementsFit_62 (by decide) (fun h62 => ?_) (fun h62 => ?_)
          · have h := g_f h h62
            refine lv_iconst (v := (0 : Int32)) hx hb dF_elementsFit_74 (by decide) ?_
            cases h
            exact mu_z S hr hlocks hP hS dF_elementsFit_75 rfl rfl
          · have h := g_t h h62
            refine lv_iload_n hx hb dF_elementsFit_65 rfl (lv_at hl 3 rfl) ?_
            refine lv_iconst (v := (1 : Int32)) hx hb dF_elementsFit_66 (by decide) ?_
            refine lv_iload hx hb dF_elementsFit_67 (lv_at hl 0 rfl) ?_
            refine lv_ishl hx hb dF_elementsFit_69 ?_
            refine lv_iand hx hb dF_elementsFit_70 ?_
            refine lv_if_eq (tgt := 76) hx hb dF_elementsFit_71 (by decide) (fun h71 => ?_) (fun h71 => ?_)
            · have h := g_t h h71
              refine lv_iload_n hx hb dF_elementsFit_76 rfl (lv_at hl 3 rfl) ?_
              refine lv_iconst (v := (1 : Int32)) hx hb dF_elementsFit_77 (by decide) ?_
              refine lv_iload hx hb dF_elementsFit_78 (lv_at hl 0 rfl) ?_
              refine lv_ishl hx hb dF_elementsFit_80 ?_
              refine lv_ior hx hb dF_elementsFit_81 ?_
              refine lv_istore_n (lv' := [(2, .int (v2 ||| ((1 : Int32) <<< (u40 &&& 31)))), (4, .int u40), (0, .ref fA), (1, .int v1), (3, .int v3)]) hx hb dF_elementsFit_82 rfl hl (Nat.le_of_ble_eq_true rfl) rfl (fun ls hl => ?_)
              refine lv_aload_n hx hb dF_elementsFit_83 rfl (lv_at hl 2 rfl) ?_
              refine lv_iload_n hx hb dF_elementsFit_84 rfl (lv_at hl 4 rfl) ?_
              refine lv_iload hx hb dF_elementsFit_85 (lv_at hl 1 rfl) ?_
              obtain ⟨u87, e87, h⟩ := g_bind h
              refine mu_v S hN hK hP hD hS hA (rest := []) (cF_wantInside l D cI cJ fA fA0 fA1 dA dA0 dA1 dA2 dA3 dA4 bA bA0 oA oA0 oA1 oA2 oA3 oA4 iA iA0 iA1 iA2 v3 u40 f_wanted f_meant d_classCount d_propertyCount d_parents d_owners d_letters d_sorts d_targets b_count b_row o_elementCount o_documentCount o_deepest o_types o_names o_contents o_holders o_inners i_count i_kinds i_values i_partners u87 e87) k_F_82 [0, 1, 2, 3, 4, 5, 6, 7, 8, 9, 10, 11, 12, 13, 14, 15, 16, 17, 18, 19, 20] [(some 0), (some 1), (some 2), (some 3), (some 4), (some 5), (some 6), (some 7), (some 8), (some 9), (some 10), (some 11), (some 12), (some 13), (some 14), (some 15), (some 16), (some 17), (some 18), (some 19), (some 20)] [(fA, .inr (2, [.ref dA, .ref bA, .ref oA, .ref fA0, .ref fA1])), (fA0, .inl (cI, 30, .inl u87)), (fA1, .inl (cI, 30, .inl f_meant)), (dA, .inr (1, [.ref dA0, .ref dA1, .ref dA2, .ref dA3, .ref dA4, .int d_classCount, .int d_propertyCount])), (dA0, .inl (cI, 6, .inl d_parents)), (dA1, .inl (cI, 8, .inl d_owners)), (dA2, .inl (cI, 8, .inl d_letters)), (dA3, .inl (cI, 8, .inl d_sorts)), (dA4, .inl (cI, 8, .inl d_targets)), (bA, .inr (0, [.ref bA0, .int b_count])), (bA0, .inl (cI, 120, .inl b_row)), (oA, .inr (4, [.ref bA, .ref oA0, .ref oA1, .ref oA2, .ref oA3, .ref oA4, .int o_elementCount, .int o_documentCount, .int o_deepest])), (oA0, .inl (cI, 60, .inl o_types)), (oA1, .inl (cI, 60, .inl o_names)), (oA2, .inl (cI, 60, .inl o_contents)), (oA3, .inl (cI, 60, .inl o_holders)), (oA4, .inl (cI, 60, .inl o_inners)), (iA, .inr (3, [.ref iA0, .ref iA1, .ref iA2, .int i_count])), (iA0, .inl (cI, 12, .inl i_kinds)), (iA1, .inl (cJ, 96, .inr (.inl i_values))), (iA2, .inl (cI, 96, .inl i_partners))] rfl rfl rfl ⟨rfl, rfl, rfl, rfl, rfl, rfl, rfl, rfl, rfl, rfl, rfl, rfl, rfl, rfl, rfl, rfl, rfl, rfl, rfl, rfl, rfl, trivial⟩ (by decide +kernel) 2 rfl rfl ⟨rfl, rfl⟩ ⟨Nat.le_of_ble_eq_true rfl, Nat.le_of_ble_eq_true rfl⟩ rfl hl.1 (Nat.le_of_ble_eq_true rfl) ⟨Nat.le_refl _, Nat.le_refl _⟩ dF_elementsFit_87 rfl (fun H locs hP hD hS => ?_)
              refine lv_iinc (k := 4) (v := v3 + (1 : Int32)) (lv' := [(3, .int (v3 + (1 : Int32))), (2, .int (v2 ||| ((1 : Int32) <<< (u40 &&& 31)))), (4, .int u40), (0, .ref fA), (1, .int v1)]) hx hb dF_elementsFit_90 hl rfl (congrArg (v3 + ·) (by decide : Int32.ofInt (1) = (1 : Int32))) (Nat.le_of_ble_eq_true rfl) rfl (fun ls hl => ?_)
              refine lv_goto (tgt := 4) hx hb dF_elementsFit_93 (by decide) ?_
              exact hrc4 (v2 ||| ((1 : Int32) <<< (u40 &&& 31)), v3 + (1 : Int32), u87) h _ _ _ (lv_sub hl [3, 4, 1, 0] rfl) hP hD hS
            · have h := g_f h h71
              refine lv_iconst (v := (0 : Int32)) hx hb dF_elementsFit_74 (by decide) ?_
              cases h
              exact mu_z S hr hlocks hP hS dF_elementsFit_75 rfl rfl
  refine lv_iconst (v := (0 : Int32)) hx hb dF_elementsFit_0 (by decide) ?_
  refine lv_istore_n (lv' := [(2, .int (0 : Int32)), (0, .ref fA), (1, .int v1)]) hx hb dF_elementsFit_1 rfl hl (Nat.le_of_ble_eq_true rfl) rfl (fun ls hl => ?_)
  refine lv_iconst (v := (0 : Int32)) hx hb dF_elementsFit_2 (by decide) ?_
  refine lv_istore_n (lv' := [(3, .int (0 : Int32)), (2, .int (0 : Int32)), (0, .ref fA), (1, .int v1)]) hx hb dF_elementsFit_3 rfl hl (Nat.le_of_ble_eq_true rfl) rfl (fun ls hl => ?_)
  exact t4 N ((0 : Int32), (0 : Int32), f_wanted) h _ _ _ (lv_sub hl [2, 3, 1, 0] rfl) hP hD hS
def fF_numberIn (N : Nat) (v1 : Int32) (b_count : Int32) (b_row : (Nat → Int32)) (o_elementCount : Int32) (o_types : (Nat → Int32)) (o_contents : (Nat → Int32)) : Option (Int64) :=
  (fO_content v1 o_elementCount o_contents).bind fun u5 => ((fO_type v1 o_elementCount o_types).bind fun u14 => (if u14 = (16 : Int32) then ((fB_intAt N u5 b_count b_row).bind fun u49 => (some (u49.toInt64))) else (if u14 = (18 : Int32) then ((fB_longAt N u5 b_count b_row).bind fun u59 => (some (u59))) else ((fB_at u5 b_count b_row).bind fun u68 => (some (u68.toInt64))))))
set_option maxHeartbeats 4000000 in
set_option maxRecDepth 100000 in
theorem cF_numberIn (l : Launch) (D : va_G) (cI cJ : ClassId) (fA fA0 fA1 dA dA0 dA1 dA2 dA3 dA4 bA bA0 oA oA0 oA1 oA2 oA3 oA4 iA iA0 iA1 iA2 : Nat) (N : Nat) (v1 : Int32) (f_wanted : (Nat → Int32)) (f_meant : (Nat → Int32)) (d_classCount : Int32) (d_propertyCount : Int32) (d_parents : (Nat → Int32)) (d_owners : (Nat → Int32)) (d_letters : (Nat → Int32)) (d_sorts : (Nat → Int32)) (d_targets : (Nat → Int32)) (b_count : Int32) (b_row : (Nat → Int32)) (o_elementCount : Int32) (o_documentCount : Int32) (o_deepest : Int32) (o_types : (Nat → Int32)) (o_names : (Nat → Int32)) (o_contents : (Nat → Int32)) (o_holders : (Nat → Int32)) (o_inners : (Nat → Int32)) (i_count : Int32) (i_kinds : (Nat → Int32)) (i_values : (Nat → Int64)) (i_partners : (Nat → Int32)) (r : Int64) (h : fF_numberIn N v1 b_count b_row o_elementCount o_types o_contents = some r) : Pu l yF_numberIn bF_numberIn 3 (some .long) (rL 3) [.ref fA, .int v1] D cI cJ [(fA, .inr (2, [.ref dA, .ref bA, .ref oA, .ref fA0, .ref fA1])), (fA0, .inl (cI, 30, .inl f_wanted)), (fA1, .inl (cI, 30, .inl f_meant)), (dA, .inr (1, [.ref dA0, .ref dA1, .ref dA2, .ref dA3, .ref dA4, .int d_classCount, .int d_propertyCount])), (dA0, .inl (cI, 6, .inl d_parents)), (dA1, .inl (cI, 8, .inl d_owners)), (dA2, .inl (cI, 8, .inl d_letters)), (dA3, .inl (cI, 8, .inl d_sorts)), (dA4, .inl (cI, 8, .inl d_targets)), (bA, .inr (0, [.ref bA0, .int b_count])), (bA0, .inl (cI, 120, .inl b_row)), (oA, .inr (4, [.ref bA, .ref oA0, .ref oA1, .ref oA2, .ref oA3, .ref oA4, .int o_elementCount, .int o_documentCount, .int o_deepest])), (oA0, .inl (cI, 60, .inl o_types)), (oA1, .inl (cI, 60, .inl o_names)), (oA2, .inl (cI, 60, .inl o_contents)), (oA3, .inl (cI, 60, .inl o_holders)), (oA4, .inl (cI, 60, .inl o_inners)), (iA, .inr (3, [.ref iA0, .ref iA1, .ref iA2, .int i_count])), (iA0, .inl (cI, 12, .inl i_kinds)), (iA1, .inl (cJ, 96, .inr (.inl i_values))), (iA2, .inl (cI, 96, .inl i_partners))] (.long r) := by
  refine pu_of (by decide) (Nat.le_of_ble_eq_true rfl) ?_
  intro p e s m below meth c ls S hr hlocks hN hK hP hl
  have hx := S.1
  have hb := S.2.1
  have hl : lv_has ls 3 [(0, .ref fA), (1, .int v1)] := hl
  unfold fF_numberIn at h
  refine lv_aload_n hx hb dF_numberIn_0 rfl (lv_at hl 0 rfl) ?_
  refine gf S hK hP 0 2 2 u_zF w_203 rfl rfl (by decide) rfl dF_numberIn_1 ?_
  refine lv_iload_n hx hb dF_numberIn_4 rfl (lv_at hl 1 rfl) ?_
  obtain ⟨u5, e5, h⟩ := g_bind h
  refine pu_v S hN hK hP (rest := []) (cO_content l D cI cJ oA oA0 oA1 oA2 oA3 oA4 bA bA0 v1 o_elementCount o_documentCount o_deepest o_types o_names o_contents o_holders o_inners b_count b_row u5 e5) k_F_62 [11, 12, 13, 14, 15, 16, 9, 10] rfl 4 rfl rfl ⟨rfl, rfl⟩ ⟨Nat.le_of_ble_eq_true rfl, Nat.le_of_ble_eq_true rfl⟩ rfl hl.1 (Nat.le_of_ble_eq_true rfl) ⟨Nat.le_refl _, Nat.le_refl _⟩ dF_numberIn_5 rfl ?_
  refine lv_istore_n (lv' := [(2, .int u5), (0, .ref fA), (1, .int v1)]) hx hb dF_numberIn_8 rfl hl (Nat.le_of_ble_eq_true rfl) rfl (fun ls hl => ?_)
  refine lv_aload_n hx hb dF_numberIn_9 rfl (lv_at hl 1 rfl) ?_
  refine gf S hK hP 0 2 2 u_zF w_203 rfl rfl (by decide) rfl dF_numberIn_10 ?_
  refine lv_iload_n hx hb dF_numberIn_13 rfl (lv_at hl 2 rfl) ?_
  obtain ⟨u14, e14, h⟩ := g_bind h
  refine pu_v S hN hK hP (rest := []) (cO_type l D cI cJ oA oA0 oA1 oA2 oA3 oA4 bA bA0 v1 o_elementCount o_documentCount o_deepest o_types o_names o_contents o_holders o_inners b_count b_row u14 e14) k_F_65 [11, 12, 13, 14, 15, 16, 9, 10] rfl 4 rfl rfl ⟨rfl, rfl⟩ ⟨Nat.le_of_ble_eq_true rfl, Nat.le_of_ble_eq_true rfl⟩ rfl hl.1 (Nat.le_of_ble_eq_true rfl) ⟨Nat.le_refl _, Nat.le_refl _⟩ dF_numberIn_14 rfl ?_
  by_cases h17_16 : u14 = (16 : Int32)
  · have h := g_t h h17_16
    refine lv_lookup (off := 27) (tgt := 44) hx hb dF_numberIn_17 (by decide) (by rw [h17_16]; rfl) (by decide) ?_
    refine lv_aload_n hx hb dF_numberIn_44 rfl (lv_at hl 1 rfl) ?_
    refine gf S hK hP 0 2 1 u_zF w_202 rfl rfl (by decide) rfl dF_numberIn_45 ?_
    refine lv_iload_n hx hb dF_numberIn_48 rfl (lv_at hl 0 rfl) ?_
    obtain ⟨u49, e49, h⟩ := g_bind h
    refine pu_v S hN hK hP (rest := []) (cB_intAt l D cI cJ bA bA0 N u5 b_count b_row u49 e49) k_F_68 [9, 10] rfl 0 rfl rfl ⟨rfl, rfl⟩ ⟨Nat.le_of_ble_eq_true rfl, Nat.le_of_ble_eq_true rfl⟩ rfl hl.1 (Nat.le_of_ble_eq_true rfl) ⟨Nat.le_refl _, Nat.le_refl _⟩ dF_numberIn_49 rfl ?_
    refine lv_i2l hx hb dF_numberIn_52 rfl ?_
    cases h
    exact pu_l S hr hlocks dF_numberIn_53 rfl
  have h := g_f h h17_16
  by_cases h17_18 : u14 = (18 : Int32)
  · have h := g_t h h17_18
    refine lv_lookup (off := 37) (tgt := 54) hx hb dF_numberIn_17 (by decide) (by rw [h17_18]; rfl) (by decide) ?_
    refine lv_aload_n hx hb dF_numberIn_54 rfl (lv_at hl 1 rfl) ?_
    refine gf S hK hP 0 2 1 u_zF w_202 rfl rfl (by decide) rfl dF_numberIn_55 ?_
    refine lv_iload_n hx hb dF_numberIn_58 rfl (lv_at hl 0 rfl) ?_
    obtain ⟨u59, e59, h⟩ := g_bind h
    refine pu_v S hN hK hP (rest := []) (cB_longAt l D cI cJ bA bA0 N u5 b_count b_row u59 e59) k_F_126 [9, 10] rfl 0 rfl rfl ⟨rfl, rfl⟩ ⟨Nat.le_of_ble_eq_true rfl, Nat.le_of_ble_eq_true rfl⟩ rfl hl.1 (Nat.le_of_ble_eq_true rfl) ⟨Nat.le_refl _, Nat.le_refl _⟩ dF_numberIn_59 rfl ?_
    cases h
    exact pu_l S hr hlocks dF_numberIn_62 rfl
  have h := g_f h h17_18
  refine lv_lookup (off := 46) (tgt := 63) hx hb dF_numberIn_17 (by decide) ((lv_osw h17_16 (by decide)).trans ((lv_osw h17_18 (by decide)).trans (rfl))) (by decide) ?_
  refine lv_aload_n hx hb dF_numberIn_63 rfl (lv_at hl 1 rfl) ?_
  refine gf S hK hP 0 2 1 u_zF w_202 rfl rfl (by decide) rfl dF_numberIn_64 ?_
  refine lv_iload_n hx hb dF_numberIn_67 rfl (lv_at hl 0 rfl) ?_
  obtain ⟨u68, e68, h⟩ := g_bind h
  refine pu_v S hN hK hP (rest := []) (cB_at l D cI cJ bA bA0 u5 b_count b_row u68 e68) k_F_73 [9, 10] rfl 0 rfl rfl ⟨rfl, rfl⟩ ⟨Nat.le_of_ble_eq_true rfl, Nat.le_of_ble_eq_true rfl⟩ rfl hl.1 (Nat.le_of_ble_eq_true rfl) ⟨Nat.le_refl _, Nat.le_refl _⟩ dF_numberIn_68 rfl ?_
  refine lv_i2l hx hb dF_numberIn_71 rfl ?_
  cases h
  exact pu_l S hr hlocks dF_numberIn_72 rfl
def fF_fillProperty (N : Nat) (v2 : Int32) (v3 : Int32) (f_meant : (Nat → Int32)) (d_classCount : Int32) (d_propertyCount : Int32) (d_parents : (Nat → Int32)) (d_owners : (Nat → Int32)) (d_letters : (Nat → Int32)) (d_sorts : (Nat → Int32)) (b_count : Int32) (b_row : (Nat → Int32)) (o_elementCount : Int32) (o_types : (Nat → Int32)) (o_names : (Nat → Int32)) (o_contents : (Nat → Int32)) (o_holders : (Nat → Int32)) (o_inners : (Nat → Int32)) (i_count : Int32) (i_values : (Nat → Int64)) (i_partners : (Nat → Int32)) : Option ((Nat → Int64) × (Nat → Int32)) :=
  (fO_holder v3 o_elementCount o_holders).bind fun u6 => ((fF_propertyFor N v3 f_meant d_classCount d_propertyCount d_parents d_owners d_letters b_count b_row o_elementCount o_names o_holders).bind fun u14 => ((fD_isLink u14 d_propertyCount d_sorts).bind fun u25 => (if u25 = true then ((fO_inner v3 o_elementCount o_inners).bind fun u52 => (if u52 = (-1 : Int32) then (some (i_values, i_partners)) else ((fO_inner v3 o_elementCount o_inners).bind fun u70 => ((fI_setPartner (v2 + u6) u14 (v2 + u70) i_count i_partners).bind fun u74 => (some (i_values, u74)))))) else ((fF_numberIn N v3 b_count b_row o_elementCount o_types o_contents).bind fun u38 => ((fI_setValue (v2 + u6) u14 u38 i_count i_values).bind fun u41 => (some (u41, i_partners)))))))
set_option maxHeartbeats 4000000 in
set_option maxRecDepth 100000 in
theorem cF_fillProperty (l : Launch) (D : va_G) (cI cJ : ClassId) (fA fA0 fA1 dA dA0 dA1 dA2 dA3 dA4 bA bA0 oA oA0 oA1 oA2 oA3 oA4 iA iA0 iA1 iA2 : Nat) (N : Nat) (v2 : Int32) (v3 : Int32) (f_wanted : (Nat → Int32)) (f_meant : (Nat → Int32)) (d_classCount : Int32) (d_propertyCount : Int32) (d_parents : (Nat → Int32)) (d_owners : (Nat → Int32)) (d_letters : (Nat → Int32)) (d_sorts : (Nat → Int32)) (d_targets : (Nat → Int32)) (b_count : Int32) (b_row : (Nat → Int32)) (o_elementCount : Int32) (o_documentCount : Int32) (o_deepest : Int32) (o_types : (Nat → Int32)) (o_names : (Nat → Int32)) (o_contents : (Nat → Int32)) (o_holders : (Nat → Int32)) (o_inners : (Nat → Int32)) (i_count : Int32) (i_kinds : (Nat → Int32)) (i_values : (Nat → Int64)) (i_partners : (Nat → Int32)) (r : (Nat → Int64) × (Nat → Int32)) (h : fF_fillProperty N v2 v3 f_meant d_classCount d_propertyCount d_parents d_owners d_letters d_sorts b_count b_row o_elementCount o_types o_names o_contents o_holders o_inners i_count i_values i_partners = some r) : Mu l yF_fillProperty bF_fillProperty 6 none (rL 4) [.ref fA, .ref iA, .int v2, .int v3] D cI cJ [(fA, .inr (2, [.ref dA, .ref bA, .ref oA, .ref fA0, .ref fA1])), (fA0, .inl (cI, 30, .inl f_wanted)), (fA1, .inl (cI, 30, .inl f_meant)), (dA, .inr (1, [.ref dA0, .ref dA1, .ref dA2, .ref dA3, .ref dA4, .int d_classCount, .int d_propertyCount])), (dA0, .inl (cI, 6, .inl d_parents)), (dA1, .inl (cI, 8, .inl d_owners)), (dA2, .inl (cI, 8, .inl d_letters)), (dA3, .inl (cI, 8, .inl d_sorts)), (dA4, .inl (cI, 8, .inl d_targets)), (bA, .inr (0, [.ref bA0, .int b_count])), (bA0, .inl (cI, 120, .inl b_row)), (oA, .inr (4, [.ref bA, .ref oA0, .ref oA1, .ref oA2, .ref oA3, .ref oA4, .int o_elementCount, .int o_documentCount, .int o_deepest])), (oA0, .inl (cI, 60, .inl o_types)), (oA1, .inl (cI, 60, .inl o_names)), (oA2, .inl (cI, 60, .inl o_contents)), (oA3, .inl (cI, 60, .inl o_holders)), (oA4, .inl (cI, 60, .inl o_inners)), (iA, .inr (3, [.ref iA0, .ref iA1, .ref iA2, .int i_count])), (iA0, .inl (cI, 12, .inl i_kinds)), (iA1, .inl (cJ, 96, .inr (.inl i_values))), (iA2, .inl (cI, 96, .inl i_partners))] none [(fA, .inr (2, [.ref dA, .ref bA, .ref oA, .ref fA0, .ref fA1])), (fA0, .inl (cI, 30, .inl f_wanted)), (fA1, .inl (cI, 30, .inl f_meant)), (dA, .inr (1, [.ref dA0, .ref dA1, .ref dA2, .ref dA3, .ref dA4, .int d_classCount, .int d_propertyCount])), (dA0, .inl (cI, 6, .inl d_parents)), (dA1, .inl (cI, 8, .inl d_owners)), (dA2, .inl (cI, 8, .inl d_letters)), (dA3, .inl (cI, 8, .inl d_sorts)), (dA4, .inl (cI, 8, .inl d_targets)), (bA, .inr (0, [.ref bA0, .int b_count])), (bA0, .inl (cI, 120, .inl b_row)), (oA, .inr (4, [.ref bA, .ref oA0, .ref oA1, .ref oA2, .ref oA3, .ref oA4, .int o_elementCount, .int o_documentCount, .int o_deepest])), (oA0, .inl (cI, 60, .inl o_types)), (oA1, .inl (cI, 60, .inl o_names)), (oA2, .inl (cI, 60, .inl o_contents)), (oA3, .inl (cI, 60, .inl o_holders)), (oA4, .inl (cI, 60, .inl o_inners)), (iA, .inr (3, [.ref iA0, .ref iA1, .ref iA2, .int i_count])), (iA0, .inl (cI, 12, .inl i_kinds)), (iA1, .inl (cJ, 96, .inr (.inl r.1))), (iA2, .inl (cI, 96, .inl r.2))] := by
  refine mu_of (by decide) (Nat.le_of_ble_eq_true rfl) ?_
  intro p e s m below meth c ls A S hr hlocks hN hK hP hD hA hl
  have hS : va_S A s.heap s.heap [] := va_S.rf
  have hx := S.1
  have hb := S.2.1
  have hl : lv_has ls 6 [(0, .ref fA), (1, .ref iA), (2, .int v2), (3, .int v3)] := hl
  unfold fF_fillProperty at h
  refine lv_iload_n hx hb dF_fillProperty_0 rfl (lv_at hl 2 rfl) ?_
  refine lv_aload_n hx hb dF_fillProperty_1 rfl (lv_at hl 0 rfl) ?_
  refine gf S hK hP 0 2 2 u_zF w_203 rfl rfl (by decide) rfl dF_fillProperty_2 ?_
  refine lv_iload_n hx hb dF_fillProperty_5 rfl (lv_at hl 3 rfl) ?_
  obtain ⟨u6, e6, h⟩ := g_bind h
  refine pu_v S hN hK hP (rest := [.int v2]) (cO_holder l D cI cJ oA oA0 oA1 oA2 oA3 oA4 bA bA0 v3 o_elementCount o_documentCount o_deepest o_types o_names o_contents o_holders o_inners b_count b_row u6 e6) k_F_47 [11, 12, 13, 14, 15, 16, 9, 10] rfl 4 rfl rfl ⟨rfl, rfl⟩ ⟨Nat.le_of_ble_eq_true rfl, Nat.le_of_ble_eq_true rfl⟩ rfl hl.1 (Nat.le_of_ble_eq_true rfl) ⟨Nat.le_refl _, Nat.le_refl _⟩ dF_fillProperty_6 rfl ?_
  refine lv_iadd hx hb dF_fillProperty_9 ?_
  refine lv_istore (lv' := [(4, .int (v2 + u6)), (0, .ref fA), (1, .ref iA), (2, .int v2), (3, .int v3)]) hx hb dF_fillProperty_10 hl (Nat.le_of_ble_eq_true rfl) rfl (fun ls hl => ?_)
  refine lv_aload_n hx hb dF_fillProperty_12 rfl (lv_at hl 1 rfl) ?_
  refine lv_iload_n hx hb dF_fillProperty_13 rfl (lv_at hl 4 rfl) ?_
  obtain ⟨u14, e14, h⟩ := g_bind h
  refine pu_v S hN hK hP (rest := []) (cF_propertyFor l D cI cJ fA fA0 fA1 dA dA0 dA1 dA2 dA3 dA4 bA bA0 oA oA0 oA1 oA2 oA3 oA4 iA iA0 iA1 iA2 N v3 f_wanted f_meant d_classCount d_propertyCount d_parents d_owners d_letters d_sorts d_targets b_count b_row o_elementCount o_documentCount o_deepest o_types o_names o_contents o_holders o_inners i_count i_kinds i_values i_partners u14 e14) k_F_76 [0, 1, 2, 3, 4, 5, 6, 7, 8, 9, 10, 11, 12, 13, 14, 15, 16, 17, 18, 19, 20] rfl 2 rfl rfl ⟨rfl, rfl⟩ ⟨Nat.le_of_ble_eq_true rfl, Nat.le_of_ble_eq_true rfl⟩ rfl hl.1 (Nat.le_of_ble_eq_true rfl) ⟨Nat.le_refl _, Nat.le_refl _⟩ dF_fillProperty_14 rfl ?_
  refine lv_istore (lv' := [(5, .int u14), (4, .int (v2 + u6)), (0, .ref fA), (1, .ref iA), (2, .int v2), (3, .int v3)]) hx hb dF_fillProperty_17 hl (Nat.le_of_ble_eq_true rfl) rfl (fun ls hl => ?_)
  refine lv_aload_n hx hb dF_fillProperty_19 rfl (lv_at hl 2 rfl) ?_
  refine gf S hK hP 0 2 0 u_zF w_201 rfl rfl (by decide) rfl dF_fillProperty_20 ?_
  refine lv_iload hx hb dF_fillProperty_23 (lv_at hl 0 rfl) ?_
  obtain ⟨u25, e25, h⟩ := g_bind h
  refine pu_v S hN hK hP (rest := []) (cD_isLink l D cI cJ dA dA0 dA1 dA2 dA3 dA4 u14 d_classCount d_propertyCount d_parents d_owners d_letters d_sorts d_targets u25 e25) k_F_111 [3, 4, 5, 6, 7, 8] rfl 1 rfl rfl ⟨rfl, rfl⟩ ⟨Nat.le_of_ble_eq_true rfl, Nat.le_of_ble_eq_true rfl⟩ rfl hl.1 (Nat.le_of_ble_eq_true rfl) ⟨Nat.le_refl _, Nat.le_refl _⟩ dF_fillProperty_25 rfl ?_
  refine b_ifne (tgt := 47) hx hb dF_fillProperty_28 (by decide) (fun h28 => ?_) (fun h28 => ?_)
  · have h := g_t h h28
    refine lv_aload_n hx hb dF_fillProperty_47 rfl (lv_at hl 2 rfl) ?_
    refine gf S hK hP 0 2 2 u_zF w_203 rfl rfl (by decide) rfl dF_fillProperty_48 ?_
    refine lv_iload_n hx hb dF_fillProperty_51 rfl (lv_at hl 5 rfl) ?_
    obtain ⟨u52, e52, h⟩ := g_bind h
    refine pu_v S hN hK hP (rest := []) (cO_inner l D cI cJ oA oA0 oA1 oA2 oA3 oA4 bA bA0 v3 o_elementCount o_documentCount o_deepest o_types o_names o_contents o_holders o_inners b_count b_row u52 e52) k_F_86 [11, 12, 13, 14, 15, 16, 9, 10] rfl 4 rfl rfl ⟨rfl, rfl⟩ ⟨Nat.le_of_ble_eq_true rfl, Nat.le_of_ble_eq_true rfl⟩ rfl hl.1 (Nat.le_of_ble_eq_true rfl) ⟨Nat.le_refl _, Nat.le_refl _⟩ dF_fillProperty_52 rfl ?_
    refine lv_iconst (v := (-1 : Int32)) hx hb dF_fillProperty_55 (by decide) ?_
    refine lv_icmp_eq (tgt := 77) hx hb dF_fillProperty_56 (by decide) (fun h56 => ?_) (fun h56 => ?_)
    · have h := g_t h h56
      cases h
      exact mu_n S hr hlocks hP hS dF_fillProperty_77 rfl
    · have h := g_f h h56
      refine lv_aload_n hx hb dF_fillProperty_59 rfl (lv_at hl 3 rfl) ?_
      refine lv_iload hx hb dF_fillProperty_60 (lv_at hl 1 rfl) ?_
      refine lv_iload hx hb dF_fillProperty_62 (lv_at hl 0 rfl) ?_
      refine lv_iload_n hx hb dF_fillProperty_64 rfl (lv_at hl 4 rfl) ?_
      refine lv_aload_n hx hb dF_fillProperty_65 rfl (lv_at hl 2 rfl) ?_
      refine gf S hK hP 0 2 2 u_zF w_203 rfl rfl (by decide) rfl dF_fillProperty_66 ?_
      refine lv_iload_n hx hb dF_fillProperty_69 rfl (lv_at hl 5 rfl) ?_
      obtain ⟨u70, e70, h⟩ := g_bind h
      refine pu_v S hN hK hP (rest := [.int v2, .int u14, .int (v2 + u6), .ref iA]) (cO_inner l D cI cJ oA oA0 oA1 oA2 oA3 oA4 bA bA0 v3 o_elementCount o_documentCount o_deepest o_types o_names o_contents o_holders o_inners b_count b_row u70 e70) k_F_86 [11, 12, 13, 14, 15, 16, 9, 10] rfl 4 rfl rfl ⟨rfl, rfl⟩ ⟨Nat.le_of_ble_eq_true rfl, Nat.le_of_ble_eq_true rfl⟩ rfl hl.1 (Nat.le_of_ble_eq_true rfl) ⟨Nat.le_refl _, Nat.le_refl _⟩ dF_fillProperty_70 rfl ?_
      refine lv_iadd hx hb dF_fillProperty_73 ?_
      obtain ⟨u74, e74, h⟩ := g_bind h
      refine mu_v S hN hK hP hD hS hA (rest := []) (cI_setPartner l D cI cJ iA iA0 iA1 iA2 (v2 + u6) u14 (v2 + u70) i_count i_kinds i_values i_partners u74 e74) k_F_122 [17, 18, 19, 20] [none, none, none, none, none, none, none, none, none, none, none, none, none, none, none, none, none, (some 0), (some 1), (some 2), (some 3)] [(fA, .inr (2, [.ref dA, .ref bA, .ref oA, .ref fA0, .ref fA1])), (fA0, .inl (cI, 30, .inl f_wanted)), (fA1, .inl (cI, 30, .inl f_meant)), (dA, .inr (1, [.ref dA0, .ref dA1, .ref dA2, .ref dA3, .ref dA4, .int d_classCount, .int d_propertyCount])), (dA0, .inl (cI, 6, .inl d_parents)), (dA1, .inl (cI, 8, .inl d_owners)), (dA2, .inl (cI, 8, .inl d_letters)), (dA3, .inl (cI, 8, .inl d_sorts)), (dA4, .inl (cI, 8, .inl d_targets)), (bA, .inr (0, [.ref bA0, .int b_count])), (bA0, .inl (cI, 120, .inl b_row)), (oA, .inr (4, [.ref bA, .ref oA0, .ref oA1, .ref oA2, .ref oA3, .ref oA4, .int o_elementCount, .int o_documentCount, .int o_deepest])), (oA0, .inl (cI, 60, .inl o_types)), (oA1, .inl (cI, 60, .inl o_names)), (oA2, .inl (cI, 60, .inl o_contents)), (oA3, .inl (cI, 60, .inl o_holders)), (oA4, .inl (cI, 60, .inl o_inners)), (iA, .inr (3, [.ref iA0, .ref iA1, .ref iA2, .int i_count])), (iA0, .inl (cI, 12, .inl i_kinds)), (iA1, .inl (cJ, 96, .inr (.inl i_values))), (iA2, .inl (cI, 96, .inl u74))] rfl rfl rfl ⟨rfl, rfl, rfl, rfl, rfl, rfl, rfl, rfl, rfl, rfl, rfl, rfl, rfl, rfl, rfl, rfl, rfl, rfl, rfl, rfl, rfl, trivial⟩ (by decide +kernel) 3 rfl rfl ⟨rfl, rfl⟩ ⟨Nat.le_of_ble_eq_true rfl, Nat.le_of_ble_eq_true rfl⟩ rfl hl.1 (Nat.le_of_ble_eq_true rfl) ⟨Nat.le_refl _, Nat.le_refl _⟩ dF_fillProperty_74 rfl (fun H locs hP hD hS => ?_)
      cases h
      exact mu_n S hr hlocks hP hS dF_fillProperty_77 rfl
  · have h := g_f h h28
    refine lv_aload_n hx hb dF_fillProperty_31 rfl (lv_at hl 3 rfl) ?_
    refine lv_iload hx hb dF_fillProperty_32 (lv_at hl 1 rfl) ?_
    refine lv_iload hx hb dF_fillProperty_34 (lv_at hl 0 rfl) ?_
    refine lv_aload_n hx hb dF_fillProperty_36 rfl (lv_at hl 2 rfl) ?_
    refine lv_iload_n hx hb dF_fillProperty_37 rfl (lv_at hl 5 rfl) ?_
    obtain ⟨u38, e38, h⟩ := g_bind h
    refine pu_v S hN hK hP (rest := [.int u14, .int (v2 + u6), .ref iA]) (cF_numberIn l D cI cJ fA fA0 fA1 dA dA0 dA1 dA2 dA3 dA4 bA bA0 oA oA0 oA1 oA2 oA3 oA4 iA iA0 iA1 iA2 N v3 f_wanted f_meant d_classCount d_propertyCount d_parents d_owners d_letters d_sorts d_targets b_count b_row o_elementCount o_documentCount o_deepest o_types o_names o_contents o_holders o_inners i_count i_kinds i_values i_partners u38 e38) k_F_114 [0, 1, 2, 3, 4, 5, 6, 7, 8, 9, 10, 11, 12, 13, 14, 15, 16, 17, 18, 19, 20] rfl 2 rfl rfl ⟨rfl, rfl⟩ ⟨Nat.le_of_ble_eq_true rfl, Nat.le_of_ble_eq_true rfl⟩ rfl hl.1 (Nat.le_of_ble_eq_true rfl) ⟨Nat.le_refl _, Nat.le_refl _⟩ dF_fillProperty_38 rfl ?_
    obtain ⟨u41, e41, h⟩ := g_bind h
    refine mu_v S hN hK hP hD hS hA (rest := []) (cI_setValue l D cI cJ iA iA0 iA1 iA2 (v2 + u6) u14 u38 i_count i_kinds i_values i_partners u41 e41) k_F_118 [17, 18, 19, 20] [none, none, none, none, none, none, none, none, none, none, none, none, none, none, none, none, none, (some 0), (some 1), (some 2), (some 3)] [(fA, .inr (2, [.ref dA, .ref bA, .ref oA, .ref fA0, .ref fA1])), (fA0, .inl (cI, 30, .inl f_wanted)), (fA1, .inl (cI, 30, .inl f_meant)), (dA, .inr (1, [.ref dA0, .ref dA1, .ref dA2, .ref dA3, .ref dA4, .int d_classCount, .int d_propertyCount])), (dA0, .inl (cI, 6, .inl d_parents)), (dA1, .inl (cI, 8, .inl d_owners)), (dA2, .inl (cI, 8, .inl d_letters)), (dA3, .inl (cI, 8, .inl d_sorts)), (dA4, .inl (cI, 8, .inl d_targets)), (bA, .inr (0, [.ref bA0, .int b_count])), (bA0, .inl (cI, 120, .inl b_row)), (oA, .inr (4, [.ref bA, .ref oA0, .ref oA1, .ref oA2, .ref oA3, .ref oA4, .int o_elementCount, .int o_documentCount, .int o_deepest])), (oA0, .inl (cI, 60, .inl o_types)), (oA1, .inl (cI, 60, .inl o_names)), (oA2, .inl (cI, 60, .inl o_contents)), (oA3, .inl (cI, 60, .inl o_holders)), (oA4, .inl (cI, 60, .inl o_inners)), (iA, .inr (3, [.ref iA0, .ref iA1, .ref iA2, .int i_count])), (iA0, .inl (cI, 12, .inl i_kinds)), (iA1, .inl (cJ, 96, .inr (.inl u41))), (iA2, .inl (cI, 96, .inl i_partners))] rfl rfl rfl ⟨rfl, rfl, rfl, rfl, rfl, rfl, rfl, rfl, rfl, rfl, rfl, rfl, rfl, rfl, rfl, rfl, rfl, rfl, rfl, rfl, rfl, trivial⟩ (by decide +kernel) 3 rfl rfl ⟨rfl, rfl⟩ ⟨Nat.le_of_ble_eq_true rfl, Nat.le_of_ble_eq_true rfl⟩ rfl hl.1 (Nat.le_of_ble_eq_true rfl) ⟨Nat.le_refl _, Nat.le_refl _⟩ dF_fillProperty_41 rfl (fun H locs hP hD hS => ?_)
    refine lv_goto (tgt := 77) hx hb dF_fillProperty_44 (by decide) ?_
    cases h
    exact mu_n S hr hlocks hP hS dF_fillProperty_77 rfl
def fF_fill_37 (N : Nat) (f_meant : (Nat → Int32)) (d_classCount : Int32) (d_propertyCount : Int32) (d_parents : (Nat → Int32)) (d_owners : (Nat → Int32)) (d_letters : (Nat → Int32)) (d_sorts : (Nat → Int32)) (b_count : Int32) (b_row : (Nat → Int32)) (o_elementCount : Int32) (o_documentCount : Int32) (o_types : (Nat → Int32)) (o_names : (Nat → Int32)) (o_contents : (Nat → Int32)) (o_holders : (Nat → Int32)) (o_inners : (Nat → Int32)) (v2 : Int32) (i_count : Int32) (i_kinds : (Nat → Int32)) (rc37 : Int32 × (Nat → Int64) × (Nat → Int32) → Option (Int32 × Int32 × (Nat → Int32) × (Nat → Int64) × (Nat → Int32))) (v3 : Int32) (i_values : (Nat → Int64)) (i_partners : (Nat → Int32)) : Option (Int32 × Int32 × (Nat → Int32) × (Nat → Int64) × (Nat → Int32)) :=
  if o_elementCount ≤ v3 then (some (v2, i_count, i_kinds, i_values, i_partners)) else ((fO_isMark v3 o_elementCount o_names b_count b_row).bind fun u53 => (if u53 = true then (rc37 (v3 + (1 : Int32), i_values, i_partners)) else ((fF_fillProperty N v2 v3 f_meant d_classCount d_propertyCount d_parents d_owners d_letters d_sorts b_count b_row o_elementCount o_types o_names o_contents o_holders o_inners i_count i_values i_partners).bind fun u63 => (rc37 (v3 + (1 : Int32), u63.1, u63.2)))))
def fF_fill_37l (N : Nat) (f_meant : (Nat → Int32)) (d_classCount : Int32) (d_propertyCount : Int32) (d_parents : (Nat → Int32)) (d_owners : (Nat → Int32)) (d_letters : (Nat → Int32)) (d_sorts : (Nat → Int32)) (b_count : Int32) (b_row : (Nat → Int32)) (o_elementCount : Int32) (o_documentCount : Int32) (o_types : (Nat → Int32)) (o_names : (Nat → Int32)) (o_contents : (Nat → Int32)) (o_holders : (Nat → Int32)) (o_inners : (Nat → Int32)) (v2 : Int32) (i_count : Int32) (i_kinds : (Nat → Int32)) : Nat → Int32 × (Nat → Int64) × (Nat → Int32) → Option (Int32 × Int32 × (Nat → Int32) × (Nat → Int64) × (Nat → Int32)) := lp (fun rc a => fF_fill_37 N f_meant d_classCount d_propertyCount d_parents d_owners d_letters d_sorts b_count b_row o_elementCount o_documentCount o_types o_names o_contents o_holders o_inners v2 i_count i_kinds rc a.1 a.2.1 a.2.2)
def fF_fill_7 (N : Nat) (f_meant : (Nat → Int32)) (d_classCount : Int32) (d_propertyCount : Int32) (d_parents : (Nat → Int32)) (d_owners : (Nat → Int32)) (d_letters : (Nat → Int32)) (d_sorts : (Nat → Int32)) (b_count : Int32) (b_row : (Nat → Int32)) (o_elementCount : Int32) (o_documentCount : Int32) (o_types : (Nat → Int32)) (o_names : (Nat → Int32)) (o_contents : (Nat → Int32)) (o_holders : (Nat → Int32)) (o_inners : (Nat → Int32)) (v2 : Int32) (rc7 : Int32 × Int32 × (Nat → Int32) × (Nat → Int64) × (Nat → Int32) → Option (Int32 × Int32 × (Nat → Int32) × (Nat → Int64) × (Nat → Int32))) (v3 : Int32) (i_count : Int32) (i_kinds : (Nat → Int32)) (i_values : (Nat → Int64)) (i_partners : (Nat → Int32)) : Option (Int32 × Int32 × (Nat → Int32) × (Nat → Int64) × (Nat → Int32)) :=
  if o_documentCount ≤ v3 then (fF_fill_37l N f_meant d_classCount d_propertyCount d_parents d_owners d_letters d_sorts b_count b_row o_elementCount o_documentCount o_types o_names o_contents o_holders o_inners v2 i_count i_kinds N ((0 : Int32), i_values, i_partners)) else (if ok v3 30 = true then ((fI_add N (f_meant v3.toNatClampNeg) i_count i_kinds i_values i_partners).bind fun u25 => (rc7 (v3 + (1 : Int32), u25.2.1, u25.2.2.1, u25.2.2.2.1, u25.2.2.2.2))) else none)
def fF_fill_7l (N : Nat) (f_meant : (Nat → Int32)) (d_classCount : Int32) (d_propertyCount : Int32) (d_parents : (Nat → Int32)) (d_owners : (Nat → Int32)) (d_letters : (Nat → Int32)) (d_sorts : (Nat → Int32)) (b_count : Int32) (b_row : (Nat → Int32)) (o_elementCount : Int32) (o_documentCount : Int32) (o_types : (Nat → Int32)) (o_names : (Nat → Int32)) (o_contents : (Nat → Int32)) (o_holders : (Nat → Int32)) (o_inners : (Nat → Int32)) (v2 : Int32) : Nat → Int32 × Int32 × (Nat → Int32) × (Nat → Int64) × (Nat → Int32) → Option (Int32 × Int32 × (Nat → Int32) × (Nat → Int64) × (Nat → Int32)) := lp (fun rc a => fF_fill_7 N f_meant d_classCount d_propertyCount d_parents d_owners d_letters d_sorts b_count b_row o_elementCount o_documentCount o_types o_names o_contents o_holders o_inners v2 rc a.1 a.2.1 a.2.2.1 a.2.2.2.1 a.2.2.2.2)
def fF_fill (N : Nat) (f_meant : (Nat → Int32)) (d_classCount : Int32) (d_propertyCount : Int32) (d_parents : (Nat → Int32)) (d_owners : (Nat → Int32)) (d_letters : (Nat → Int32)) (d_sorts : (Nat → Int32)) (b_count : Int32) (b_row : (Nat → Int32)) (o_elementCount : Int32) (o_documentCount : Int32) (o_types : (Nat → Int32)) (o_names : (Nat → Int32)) (o_contents : (Nat → Int32)) (o_holders : (Nat → Int32)) (o_inners : (Nat → Int32)) (i_count : Int32) (i_kinds : (Nat → Int32)) (i_values : (Nat → Int64)) (i_partners : (Nat → Int32)) : Option (Int32 × Int32 × (Nat → Int32) × (Nat → Int64) × (Nat → Int32)) :=
  fF_fill_7l N f_meant d_classCount d_propertyCount d_parents d_owners d_letters d_sorts b_count b_row o_elementCount o_documentCount o_types o_names o_contents o_holders o_inners i_count N ((0 : Int32), i_count, i_kinds, i_values, i_partners)
set_option maxHeartbeats 4000000 in
set_option maxRecDepth 100000 in
theorem cF_fill (l : Launch) (D : va_G) (cI cJ : ClassId) (fA fA0 fA1 dA dA0 dA1 dA2 dA3 dA4 bA bA0 oA oA0 oA1 oA2 oA3 oA4 iA iA0 iA1 iA2 : Nat) (N : Nat) (f_wanted : (Nat → Int32)) (f_meant : (Nat → Int32)) (d_classCount : Int32) (d_propertyCount : Int32) (d_parents : (Nat → Int32)) (d_owners : (Nat → Int32)) (d_letters : (Nat → Int32)) (d_sorts : (Nat → Int32)) (d_targets : (Nat → Int32)) (b_count : Int32) (b_row : (Nat → Int32)) (o_elementCount : Int32) (o_documentCount : Int32) (o_deepest : Int32) (o_types : (Nat → Int32)) (o_names : (Nat → Int32)) (o_contents : (Nat → Int32)) (o_holders : (Nat → Int32)) (o_inners : (Nat → Int32)) (i_count : Int32) (i_kinds : (Nat → Int32)) (i_values : (Nat → Int64)) (i_partners : (Nat → Int32)) (r : Int32 × Int32 × (Nat → Int32) × (Nat → Int64) × (Nat → Int32)) (h : fF_fill N f_meant d_classCount d_propertyCount d_parents d_owners d_letters d_sorts b_count b_row o_elementCount o_documentCount o_types o_names o_contents o_holders o_inners i_count i_kinds i_values i_partners = some r) : Mu l yF_fill bF_fill 4 (some .int) (rL 5) [.ref fA, .ref iA] D cI cJ [(fA, .inr (2, [.ref dA, .ref bA, .ref oA, .ref fA0, .ref fA1])), (fA0, .inl (cI, 30, .inl f_wanted)), (fA1, .inl (cI, 30, .inl f_meant)), (dA, .inr (1, [.ref dA0, .ref dA1, .ref dA2, .ref dA3, .ref dA4, .int d_classCount, .int d_propertyCount])), (dA0, .inl (cI, 6, .inl d_parents)), (dA1, .inl (cI, 8, .inl d_owners)), (dA2, .inl (cI, 8, .inl d_letters)), (dA3, .inl (cI, 8, .inl d_sorts)), (dA4, .inl (cI, 8, .inl d_targets)), (bA, .inr (0, [.ref bA0, .int b_count])), (bA0, .inl (cI, 120, .inl b_row)), (oA, .inr (4, [.ref bA, .ref oA0, .ref oA1, .ref oA2, .ref oA3, .ref oA4, .int o_elementCount, .int o_documentCount, .int o_deepest])), (oA0, .inl (cI, 60, .inl o_types)), (oA1, .inl (cI, 60, .inl o_names)), (oA2, .inl (cI, 60, .inl o_contents)), (oA3, .inl (cI, 60, .inl o_holders)), (oA4, .inl (cI, 60, .inl o_inners)), (iA, .inr (3, [.ref iA0, .ref iA1, .ref iA2, .int i_count])), (iA0, .inl (cI, 12, .inl i_kinds)), (iA1, .inl (cJ, 96, .inr (.inl i_values))), (iA2, .inl (cI, 96, .inl i_partners))] (some (.int r.1)) [(fA, .inr (2, [.ref dA, .ref bA, .ref oA, .ref fA0, .ref fA1])), (fA0, .inl (cI, 30, .inl f_wanted)), (fA1, .inl (cI, 30, .inl f_meant)), (dA, .inr (1, [.ref dA0, .ref dA1, .ref dA2, .ref dA3, .ref dA4, .int d_classCount, .int d_propertyCount])), (dA0, .inl (cI, 6, .inl d_parents)), (dA1, .inl (cI, 8, .inl d_owners)), (dA2, .inl (cI, 8, .inl d_letters)), (dA3, .inl (cI, 8, .inl d_sorts)), (dA4, .inl (cI, 8, .inl d_targets)), (bA, .inr (0, [.ref bA0, .int b_count])), (bA0, .inl (cI, 120, .inl b_row)), (oA, .inr (4, [.ref bA, .ref oA0, .ref oA1, .ref oA2, .ref oA3, .ref oA4, .int o_elementCount, .int o_documentCount, .int o_deepest])), (oA0, .inl (cI, 60, .inl o_types)), (oA1, .inl (cI, 60, .inl o_names)), (oA2, .inl (cI, 60, .inl o_contents)), (oA3, .inl (cI, 60, .inl o_holders)), (oA4, .inl (cI, 60, .inl o_inners)), (iA, .inr (3, [.ref iA0, .ref iA1, .ref iA2, .int r.2.1])), (iA0, .inl (cI, 12, .inl r.2.2.1)), (iA1, .inl (cJ, 96, .inr (.inl r.2.2.2.1))), (iA2, .inl (cI, 96, .inl r.2.2.2.2))] := by
  refine mu_of (by decide) (Nat.le_of_ble_eq_true rfl) ?_
  intro p e s m below meth c ls A S hr hlocks hN hK hP hD hA hl
  have hS : va_S A s.heap s.heap [] := va_S.rf
  have hx := S.1
  have hb := S.2.1
  have hl : lv_has ls 4 [(0, .ref fA), (1, .ref iA)] := hl
  unfold fF_fill at h
  have t7 : ∀ (v2 : Int32), ∀ (k : Nat) (a : Int32 × Int32 × (Nat → Int32) × (Nat → Int64) × (Nat → Int32)), fF_fill_7l N f_meant d_classCount d_propertyCount d_parents d_owners d_letters d_sorts b_count b_row o_elementCount o_documentCount o_types o_names o_contents o_holders o_inners v2 k a = some r → ∀ (ls : Array Slot) (H : Heap) (locs : List Loc), lv_has ls 4 [(0, .ref fA), (1, .ref iA), (2, .int v2), (3, .int a.1)] → va_P D cs [(fA, .inr (2, [.ref dA, .ref bA, .ref oA, .ref fA0, .ref fA1])), (fA0, .inl (cI, 30, .inl f_wanted)), (fA1, .inl (cI, 30, .inl f_meant)), (dA, .inr (1, [.ref dA0, .ref dA1, .ref dA2, .ref dA3, .ref dA4, .int d_classCount, .int d_propertyCount])), (dA0, .inl (cI, 6, .inl d_parents)), (dA1, .inl (cI, 8, .inl d_owners)), (dA2, .inl (cI, 8, .inl d_letters)), (dA3, .inl (cI, 8, .inl d_sorts)), (dA4, .inl (cI, 8, .inl d_targets)), (bA, .inr (0, [.ref bA0, .int b_count])), (bA0, .inl (cI, 120, .inl b_row)), (oA, .inr (4, [.ref bA, .ref oA0, .ref oA1, .ref oA2, .ref oA3, .ref oA4, .int o_elementCount, .int o_documentCount, .int o_deepest])), (oA0, .inl (cI, 60, .inl o_types)), (oA1, .inl (cI, 60, .inl o_names)), (oA2, .inl (cI, 60, .inl o_contents)), (oA3, .inl (cI, 60, .inl o_holders)), (oA4, .inl (cI, 60, .inl o_inners)), (iA, .inr (3, [.ref iA0, .ref iA1, .ref iA2, .int a.2.1])), (iA0, .inl (cI, 12, .inl a.2.2.1)), (iA1, .inl (cJ, 96, .inr (.inl a.2.2.2.1))), (iA2, .inl (cI, 96, .inl a.2.2.2.2))] H → va_D A [(fA, .inr (2, [.ref dA, .ref bA, .ref oA, .ref fA0, .ref fA1])), (fA0, .inl (cI, 30, .inl f_wanted)), (fA1, .inl (cI, 30, .inl f_meant)), (dA, .inr (1, [.ref dA0, .ref dA1, .ref dA2, .ref dA3, .ref dA4, .int d_classCount, .int d_propertyCount])), (dA0, .inl (cI, 6, .inl d_parents)), (dA1, .inl (cI, 8, .inl d_owners)), (dA2, .inl (cI, 8, .inl d_letters)), (dA3, .inl (cI, 8, .inl d_sorts)), (dA4, .inl (cI, 8, .inl d_targets)), (bA, .inr (0, [.ref bA0, .int b_count])), (bA0, .inl (cI, 120, .inl b_row)), (oA, .inr (4, [.ref bA, .ref oA0, .ref oA1, .ref oA2, .ref oA3, .ref oA4, .int o_elementCount, .int o_documentCount, .int o_deepest])), (oA0, .inl (cI, 60, .inl o_types)), (oA1, .inl (cI, 60, .inl o_names)), (oA2, .inl (cI, 60, .inl o_contents)), (oA3, .inl (cI, 60, .inl o_holders)), (oA4, .inl (cI, 60, .inl o_inners)), (iA, .inr (3, [.ref iA0, .ref iA1, .ref iA2, .int a.2.1])), (iA0, .inl (cI, 12, .inl a.2.2.1)), (iA1, .inl (cJ, 96, .inr (.inl a.2.2.2.1))), (iA2, .inl (cI, 96, .inl a.2.2.2.2))] → va_S A s.heap H locs → W p l e (rL 5) s m ([.ref fA, .ref iA] : List Value).toArray below meth c H locs 0 0 (MQ below (fun _ st oc t => (oc = .returned (some (.int r.1)) ∧ va_P D cs [(fA, .inr (2, [.ref dA, .ref bA, .ref oA, .ref fA0, .ref fA1])), (fA0, .inl (cI, 30, .inl f_wanted)), (fA1, .inl (cI, 30, .inl f_meant)), (dA, .inr (1, [.ref dA0, .ref dA1, .ref dA2, .ref dA3, .ref dA4, .int d_classCount, .int d_propertyCount])), (dA0, .inl (cI, 6, .inl d_parents)), (dA1, .inl (cI, 8, .inl d_owners)), (dA2, .inl (cI, 8, .inl d_letters)), (dA3, .inl (cI, 8, .inl d_sorts)), (dA4, .inl (cI, 8, .inl d_targets)), (bA, .inr (0, [.ref bA0, .int b_count])), (bA0, .inl (cI, 120, .inl b_row)), (oA, .inr (4, [.ref bA, .ref oA0, .ref oA1, .ref oA2, .ref oA3, .ref oA4, .int o_elementCount, .int o_documentCount, .int o_deepest])), (oA0, .inl (cI, 60, .inl o_types)), (oA1, .inl (cI, 60, .inl o_names)), (oA2, .inl (cI, 60, .inl o_contents)), (oA3, .inl (cI, 60, .inl o_holders)), (oA4, .inl (cI, 60, .inl o_inners)), (iA, .inr (3, [.ref iA0, .ref iA1, .ref iA2, .int r.2.1])), (iA0, .inl (cI, 12, .inl r.2.2.1)), (iA1, .inl (cJ, 96, .inr (.inl r.2.2.2.1))), (iA2, .inl (cI, 96, .inl r.2.2.2.2))] t.heap) ∧ va_F A st t) ([.ref fA, .ref iA] : List Value).toArray s 0 0 A) (F0 m 7 ls []) := by
    intro v2
    unfold fF_fill_7l
    refine lp_some ?_
    intro rc7 hrc7 a h
    obtain ⟨v3, i_count, i_kinds, i_values, i_partners⟩ := a
    intro ls H locs hl hP hD hS
    have h : fF_fill_7 N f_meant d_classCount d_propertyCount d_parents d_owners d_letters d_sorts b_count b_row o_elementCount o_documentCount o_types o_names o_contents o_holders o_inners v2 rc7 v3 i_count i_kinds i_values i_partners = some r := h
    have hl : lv_has ls 4 [(0, .ref fA), (1, .ref iA), (2, .int v2), (3, .int v3)] := hl
    have hP : va_P D cs [(fA, .inr (2, [.ref dA, .ref bA, .ref oA, .ref fA0, .ref fA1])), (fA0, .inl (cI, 30, .inl f_wanted)), (fA1, .inl (cI, 30, .inl f_meant)), (dA, .inr (1, [.ref dA0, .ref dA1, .ref dA2, .ref dA3, .ref dA4, .int d_classCount, .int d_propertyCount])), (dA0, .inl (cI, 6, .inl d_parents)), (dA1, .inl (cI, 8, .inl d_owners)), (dA2, .inl (cI, 8, .inl d_letters)), (dA3, .inl (cI, 8, .inl d_sorts)), (dA4, .inl (cI, 8, .inl d_targets)), (bA, .inr (0, [.ref bA0, .int b_count])), (bA0, .inl (cI, 120, .inl b_row)), (oA, .inr (4, [.ref bA, .ref oA0, .ref oA1, .ref oA2, .ref oA3, .ref oA4, .int o_elementCount, .int o_documentCount, .int o_deepest])), (oA0, .inl (cI, 60, .inl o_types)), (oA1, .inl (cI, 60, .inl o_names)), (oA2, .inl (cI, 60, .inl o_contents)), (oA3, .inl (cI, 60, .inl o_holders)), (oA4, .inl (cI, 60, .inl o_inners)), (iA, .inr (3, [.ref iA0, .ref iA1, .ref iA2, .int i_count])), (iA0, .inl (cI, 12, .inl i_kinds)), (iA1, .inl (cJ, 96, .inr (.inl i_values))), (iA2, .inl (cI, 96, .inl i_partners))] H := hP
    have hD : va_D A [(fA, .inr (2, [.ref dA, .ref bA, .ref oA, .ref fA0, .ref fA1])), (fA0, .inl (cI, 30, .inl f_wanted)), (fA1, .inl (cI, 30, .inl f_meant)), (dA, .inr (1, [.ref dA0, .ref dA1, .ref dA2, .ref dA3, .ref dA4, .int d_classCount, .int d_propertyCount])), (dA0, .inl (cI, 6, .inl d_parents)), (dA1, .inl (cI, 8, .inl d_owners)), (dA2, .inl (cI, 8, .inl d_letters)), (dA3, .inl (cI, 8, .inl d_sorts)), (dA4, .inl (cI, 8, .inl d_targets)), (bA, .inr (0, [.ref bA0, .int b_count])), (bA0, .inl (cI, 120, .inl b_row)), (oA, .inr (4, [.ref bA, .ref oA0, .ref oA1, .ref oA2, .ref oA3, .ref oA4, .int o_elementCount, .int o_documentCount, .int o_deepest])), (oA0, .inl (cI, 60, .inl o_types)), (oA1, .inl (cI, 60, .inl o_names)), (oA2, .inl (cI, 60, .inl o_contents)), (oA3, .inl (cI, 60, .inl o_holders)), (oA4, .inl (cI, 60, .inl o_inners)), (iA, .inr (3, [.ref iA0, .ref iA1, .ref iA2, .int i_count])), (iA0, .inl (cI, 12, .inl i_kinds)), (iA1, .inl (cJ, 96, .inr (.inl i_values))), (iA2, .inl (cI, 96, .inl i_partners))] := hD
    unfold fF_fill_7 at h
    have t37 : ∀ (v2 : Int32) (i_count : Int32) (i_kinds : (Nat → Int32)), ∀ (k : Nat) (a : Int32 × (Nat → Int64) × (Nat → Int32)), fF_fill_37l N f_meant d_classCount d_propertyCount d_parents d_owners d_letters d_sorts b_count b_row o_elementCount o_documentCount o_types o_names o_contents o_holders o_inners v2 i_count i_kinds k a = some r → ∀ (ls : Array Slot) (H : Heap) (locs : List Loc), lv_has ls 4 [(0, .ref fA), (1, .ref iA), (2, .int v2), (3, .int a.1)] → va_P D cs [(fA, .inr (2, [.ref dA, .ref bA, .ref oA, .ref fA0, .ref fA1])), (fA0, .inl (cI, 30, .inl f_wanted)), (fA1, .inl (cI, 30, .inl f_meant)), (dA, .inr (1, [.ref dA0, .ref dA1, .ref dA2, .ref dA3, .ref dA4, .int d_classCount, .int d_propertyCount])), (dA0, .inl (cI, 6, .inl d_parents)), (dA1, .inl (cI, 8, .inl d_owners)), (dA2, .inl (cI, 8, .inl d_letters)), (dA3, .inl (cI, 8, .inl d_sorts)), (dA4, .inl (cI, 8, .inl d_targets)), (bA, .inr (0, [.ref bA0, .int b_count])), (bA0, .inl (cI, 120, .inl b_row)), (oA, .inr (4, [.ref bA, .ref oA0, .ref oA1, .ref oA2, .ref oA3, .ref oA4, .int o_elementCount, .int o_documentCount, .int o_deepest])), (oA0, .inl (cI, 60, .inl o_types)), (oA1, .inl (cI, 60, .inl o_names)), (oA2, .inl (cI, 60, .inl o_contents)), (oA3, .inl (cI, 60, .inl o_holders)), (oA4, .inl (cI, 60, .inl o_inners)), (iA, .inr (3, [.ref iA0, .ref iA1, .ref iA2, .int i_count])), (iA0, .inl (cI, 12, .inl i_kinds)), (iA1, .inl (cJ, 96, .inr (.inl a.2.1))), (iA2, .inl (cI, 96, .inl a.2.2))] H → va_D A [(fA, .inr (2, [.ref dA, .ref bA, .ref oA, .ref fA0, .ref fA1])), (fA0, .inl (cI, 30, .inl f_wanted)), (fA1, .inl (cI, 30, .inl f_meant)), (dA, .inr (1, [.ref dA0, .ref dA1, .ref dA2, .ref dA3, .ref dA4, .int d_classCount, .int d_propertyCount])), (dA0, .inl (cI, 6, .inl d_parents)), (dA1, .inl (cI, 8, .inl d_owners)), (dA2, .inl (cI, 8, .inl d_letters)), (dA3, .inl (cI, 8, .inl d_sorts)), (dA4, .inl (cI, 8, .inl d_targets)), (bA, .inr (0, [.ref bA0, .int b_count])), (bA0, .inl (cI, 120, .inl b_row)), (oA, .inr (4, [.ref bA, .ref oA0, .ref oA1, .ref oA2, .ref oA3, .ref oA4, .int o_elementCount, .int o_documentCount, .int o_deepest])), (oA0, .inl (cI, 60, .inl o_types)), (oA1, .inl (cI, 60, .inl o_names)), (oA2, .inl (cI, 60, .inl o_contents)), (oA3, .inl (cI, 60, .inl o_holders)), (oA4, .inl (cI, 60, .inl o_inners)), (iA, .inr (3, [.ref iA0, .ref iA1, .ref iA2, .int i_count])), (iA0, .inl (cI, 12, .inl i_kinds)), (iA1, .inl (cJ, 96, .inr (.inl a.2.1))), (iA2, .inl (cI, 96, .inl a.2.2))] → va_S A s.heap H locs → W p l e (rL 5) s m ([.ref fA, .ref iA] : List Value).toArray below meth c H locs 0 0 (MQ below (fun _ st oc t => (oc = .returned (some (.int r.1)) ∧ va_P D cs [(fA, .inr (2, [.ref dA, .ref bA, .ref oA, .ref fA0, .ref fA1])), (fA0, .inl (cI, 30, .inl f_wanted)), (fA1, .inl (cI, 30, .inl f_meant)), (dA, .inr (1, [.ref dA0, .ref dA1, .ref dA2, .ref dA3, .ref dA4, .int d_classCount, .int d_propertyCount])), (dA0, .inl (cI, 6, .inl d_parents)), (dA1, .inl (cI, 8, .inl d_owners)), (dA2, .inl (cI, 8, .inl d_letters)), (dA3, .inl (cI, 8, .inl d_sorts)), (dA4, .inl (cI, 8, .inl d_targets)), (bA, .inr (0, [.ref bA0, .int b_count])), (bA0, .inl (cI, 120, .inl b_row)), (oA, .inr (4, [.ref bA, .ref oA0, .ref oA1, .ref oA2, .ref oA3, .ref oA4, .int o_elementCount, .int o_documentCount, .int o_deepest])), (oA0, .inl (cI, 60, .inl o_types)), (oA1, .inl (cI, 60, .inl o_names)), (oA2, .inl (cI, 60, .inl o_contents)), (oA3, .inl (cI, 60, .inl o_holders)), (oA4, .inl (cI, 60, .inl o_inners)), (iA, .inr (3, [.ref iA0, .ref iA1, .ref iA2, .int r.2.1])), (iA0, .inl (cI, 12, .inl r.2.2.1)), (iA1, .inl (cJ, 96, .inr (.inl r.2.2.2.1))), (iA2, .inl (cI, 96, .inl r.2.2.2.2))] t.heap) ∧ va_F A st t) ([.ref fA, .ref iA] : List Value).toArray s 0 0 A) (F0 m 37 ls []) := by
      intro v2 i_count i_kinds
      unfold fF_fill_37l
      refine lp_some ?_
      intro rc37 hrc37 a h
      obtain ⟨v3, i_values, i_partners⟩ := a
      intro ls H locs hl hP hD hS
      have h : fF_fill_37 N f_meant d_classCount d_propertyCount d_parents d_owners d_letters d_sorts b_count b_row o_elementCount o_documentCount o_types o_names o_contents o_holders o_inners v2 i_count i_kinds rc37 v3 i_values i_partners = some r := h
      have hl : lv_has ls 4 [(0, .ref fA), (1, .ref iA), (2, .int v2), (3, .int v3)] := hl
      have hP : va_P D cs [(fA, .inr (2, [.ref dA, .ref bA, .ref oA, .ref fA0, .ref fA1])), (fA0, .inl (cI, 30, .inl f_wanted)), (fA1, .inl (cI, 30, .inl f_meant)), (dA, .inr (1, [.ref dA0, .ref dA1, .ref dA2, .ref dA3, .ref dA4, .int d_classCount, .int d_propertyCount])), (dA0, .inl (cI, 6, .inl d_parents)), (dA1, .inl (cI, 8, .inl d_owners)), (dA2, .inl (cI, 8, .inl d_letters)), (dA3, .inl (cI, 8, .inl d_sorts)), (dA4, .inl (cI, 8, .inl d_targets)), (bA, .inr (0, [.ref bA0, .int b_count])), (bA0, .inl (cI, 120, .inl b_row)), (oA, .inr (4, [.ref bA, .ref oA0, .ref oA1, .ref oA2, .ref oA3, .ref oA4, .int o_elementCount, .int o_documentCount, .int o_deepest])), (oA0, .inl (cI, 60, .inl o_types)), (oA1, .inl (cI, 60, .inl o_names)), (oA2, .inl (cI, 60, .inl o_contents)), (oA3, .inl (cI, 60, .inl o_holders)), (oA4, .inl (cI, 60, .inl o_inners)), (iA, .inr (3, [.ref iA0, .ref iA1, .ref iA2, .int i_count])), (iA0, .inl (cI, 12, .inl i_kinds)), (iA1, .inl (cJ, 96, .inr (.inl i_values))), (iA2, .inl (cI, 96, .inl i_partners))] H := hP
      have hD : va_D A [(fA, .inr (2, [.ref dA, .ref bA, .ref oA, .ref fA0, .ref fA1])), (fA0, .inl (cI, 30, .inl f_wanted)), (fA1, .inl (cI, 30, .inl f_meant)), (dA, .inr (1, [.ref dA0, .ref dA1, .ref dA2, .ref dA3, .ref dA4, .int d_classCount, .int d_propertyCount])), (dA0, .inl (cI, 6, .inl d_parents)), (dA1, .inl (cI, 8, .inl d_owners)), (dA2, .inl (cI, 8, .inl d_letters)), (dA3, .inl (cI, 8, .inl d_sorts)), (dA4, .inl (cI, 8, .inl d_targets)), (bA, .inr (0, [.ref bA0, .int b_count])), (bA0, .inl (cI, 120, .inl b_row)), (oA, .inr (4, [.ref bA, .ref oA0, .ref oA1, .ref oA2, .ref oA3, .ref oA4, .int o_elementCount, .int o_documentCount, .int o_deepest])), (oA0, .inl (cI, 60, .inl o_types)), (oA1, .inl (cI, 60, .inl o_names)), (oA2, .inl (cI, 60, .inl o_contents)), (oA3, .inl (cI, 60, .inl o_holders)), (oA4, .inl (cI, 60, .inl o_inners)), (iA, .inr (3, [.ref iA0, .ref iA1, .ref iA2, .int i_count])), (iA0, .inl (cI, 12, .inl i_kinds)), (iA1, .inl (cJ, 96, .inr (.inl i_values))), (iA2, .inl (cI, 96, .inl i_partners))] := hD
      unfold fF_fill_37 at h
      refine lv_iload_n hx hb dF_fill_37 rfl (lv_at hl 3 rfl) ?_
      refine lv_aload_n hx hb dF_fill_38 rfl (lv_at hl 0 rfl) ?_
      refine gf S hK hP 0 2 2 u_zF w_203 rfl rfl (by decide) rfl dF_fill_39 ?_
      refine gfN S hN hK hP 11 4 6 (host := "PropertyDocuments") u_zO n_10 rfl rfl (by decide) rfl dF_fill_42 ?_
      refine lv_icmp_ge (tgt := 72) hx hb dF_fill_45 (by decide) (fun h45 => ?_) (fun h45 => ?_)
      · have h := g_t h h45
        refine lv_iload_n hx hb dF_fill_72 rfl (lv_at hl 2 rfl) ?_
        cases h
        exact mu_i S hr hlocks hP hS dF_fill_73 rfl rfl
      · have h := g_f h h45
        refine lv_aload_n hx hb dF_fill_48 rfl (lv_at hl 0 rfl) ?_
        refine gf S hK hP 0 2 2 u_zF w_203 rfl rfl (by decide) rfl dF_fill_49 ?_
        refine lv_iload_n hx hb dF_fill_52 rfl (lv_at hl 3 rfl) ?_
        obtain ⟨u53, e53, h⟩ := g_bind h
        refine pu_v S hN hK hP (rest := []) (cO_isMark l D cI cJ oA oA0 oA1 oA2 oA3 oA4 bA bA0 v3 o_elementCount o_documentCount o_deepest o_types o_names o_contents o_holders o_inners b_count b_row u53 e53) k_F_50 [11, 12, 13, 14, 15, 16, 9, 10] rfl 4 rfl rfl ⟨rfl, rfl⟩ ⟨Nat.le_of_ble_eq_true rfl, Nat.le_of_ble_eq_true rfl⟩ rfl hl.1 (Nat.le_of_ble_eq_true rfl) ⟨Nat.le_refl _, Nat.le_refl _⟩ dF_fill_53 rfl ?_
        refine b_ifne (tgt := 66) hx hb dF_fill_56 (by decide) (fun h56 => ?_) (fun h56 => ?_)
        · have h := g_t h h56
          refine lv_iinc (k := 3) (v := v3 + (1 : Int32)) (lv' := [(3, .int (v3 + (1 : Int32))), (0, .ref fA), (1, .ref iA), (2, .int v2)]) hx hb dF_fill_66 hl rfl (congrArg (v3 + ·) (by decide : Int32.ofInt (1) = (1 : Int32))) (Nat.le_of_ble_eq_true rfl) rfl (fun ls hl => ?_)
          refine lv_goto (tgt := 37) hx hb dF_fill_69 (by decide) ?_
          exact hrc37 (v3 + (1 : Int32), i_values, i_partners) h _ _ _ (lv_sub hl [1, 2, 3, 0] rfl) hP hD hS
        · have h := g_f h h56
          refine lv_aload_n hx hb dF_fill_59 rfl (lv_at hl 0 rfl) ?_
          refine lv_aload_n hx hb dF_fill_60 rfl (lv_at hl 1 rfl) ?_
          refine lv_iload_n hx hb dF_fill_61 rfl (lv_at hl 2 rfl) ?_
          refine lv_iload_n hx hb dF_fill_62 rfl (lv_at hl 3 rfl) ?_
          obtain ⟨u63, e63, h⟩ := g_bind h
          refine mu_v S hN hK hP hD hS hA (rest := []) (cF_fillProperty l D cI cJ fA fA0 fA1 dA dA0 dA1 dA2 dA3 dA4 bA bA0 oA oA0 oA1 oA2 oA3 oA4 iA iA0 iA1 iA2 N v2 v3 f_wanted f_meant d_classCount d_propertyCount d_parents d_owners d_letters d_sorts d_targets b_count b_row o_elementCount o_documentCount o_deepest o_types o_names o_contents o_holders o_inners i_count i_kinds i_values i_partners u63 e63) k_F_107 [0, 1, 2, 3, 4, 5, 6, 7, 8, 9, 10, 11, 12, 13, 14, 15, 16, 17, 18, 19, 20] [(some 0), (some 1), (some 2), (some 3), (some 4), (some 5), (some 6), (some 7), (some 8), (some 9), (some 10), (some 11), (some 12), (some 13), (some 14), (some 15), (some 16), (some 17), (some 18), (some 19), (some 20)] [(fA, .inr (2, [.ref dA, .ref bA, .ref oA, .ref fA0, .ref fA1])), (fA0, .inl (cI, 30, .inl f_wanted)), (fA1, .inl (cI, 30, .inl f_meant)), (dA, .inr (1, [.ref dA0, .ref dA1, .ref dA2, .ref dA3, .ref dA4, .int d_classCount, .int d_propertyCount])), (dA0, .inl (cI, 6, .inl d_parents)), (dA1, .inl (cI, 8, .inl d_owners)), (dA2, .inl (cI, 8, .inl d_letters)), (dA3, .inl (cI, 8, .inl d_sorts)), (dA4, .inl (cI, 8, .inl d_targets)), (bA, .inr (0, [.ref bA0, .int b_count])), (bA0, .inl (cI, 120, .inl b_row)), (oA, .inr (4, [.ref bA, .ref oA0, .ref oA1, .ref oA2, .ref oA3, .ref oA4, .int o_elementCount, .int o_documentCount, .int o_deepest])), (oA0, .inl (cI, 60, .inl o_types)), (oA1, .inl (cI, 60, .inl o_names)), (oA2, .inl (cI, 60, .inl o_contents)), (oA3, .inl (cI, 60, .inl o_holders)), (oA4, .inl (cI, 60, .inl o_inners)), (iA, .inr (3, [.ref iA0, .ref iA1, .ref iA2, .int i_count])), (iA0, .inl (cI, 12, .inl i_kinds)), (iA1, .inl (cJ, 96, .inr (.inl u63.1))), (iA2, .inl (cI, 96, .inl u63.2))] rfl rfl rfl ⟨rfl, rfl, rfl, rfl, rfl, rfl, rfl, rfl, rfl, rfl, rfl, rfl, rfl, rfl, rfl, rfl, rfl, rfl, rfl, rfl, rfl, trivial⟩ (by decide +kernel) 2 rfl rfl ⟨rfl, rfl⟩ ⟨Nat.le_of_ble_eq_true rfl, Nat.le_of_ble_eq_true rfl⟩ rfl hl.1 (Nat.le_of_ble_eq_true rfl) ⟨Nat.le_refl _, Nat.le_refl _⟩ dF_fill_63 rfl (fun H locs hP hD hS => ?_)
          refine lv_iinc (k := 3) (v := v3 + (1 : Int32)) (lv' := [(3, .int (v3 + (1 : Int32))), (0, .ref fA), (1, .ref iA), (2, .int v2)]) hx hb dF_fill_66 hl rfl (congrArg (v3 + ·) (by decide : Int32.ofInt (1) = (1 : Int32))) (Nat.le_of_ble_eq_true rfl) rfl (fun ls hl => ?_)
          refine lv_goto (tgt := 37) hx hb dF_fill_69 (by decide) ?_
          exact hrc37 (v3 + (1 : Int32), u63.1, u63.2) h _ _ _ (lv_sub hl [1, 2, 3, 0] rfl) hP hD hS
    refine lv_iload_n hx hb dF_fill_7 rfl (lv_at hl 3 rfl) ?_
    refine lv_aload_n hx hb dF_fill_8 rfl (lv_at hl 0 rfl) ?_
    refine gf S hK hP 0 2 2 u_zF w_203 rfl rfl (by decide) rfl dF_fill_9 ?_
    refine gfN S hN hK hP 11 4 7 (host := "PropertyDocuments") u_zO n_12 rfl rfl (by decide) rfl dF_fill_12 ?_
    refine lv_icmp_ge (tgt := 35) hx hb dF_fill_15 (by decide) (fun h15 => ?_) (fun h15 => ?_)
    · have h := g_t h h15
      refine lv_iconst (v := (0 : Int32)) hx hb dF_fill_35 (by decide) ?_
      refine lv_istore_n (lv' := [(3, .int (0 : Int32)), (0, .ref fA), (1, .ref iA), (2, .int v2)]) hx hb dF_fill_36 rfl hl (Nat.le_of_ble_eq_true rfl) rfl (fun ls hl => ?_)
      exact t37 v2 i_count i_kinds N ((0 : Int32), i_values, i_partners) h _ _ _ (lv_sub hl [1, 2, 3, 0] rfl) hP hD hS
    · have h := g_f h h15
      refine lv_aload_n hx hb dF_fill_18 rfl (lv_at hl 1 rfl) ?_
      refine lv_aload_n hx hb dF_fill_19 rfl (lv_at hl 0 rfl) ?_
      refine gf S hK hP 0 2 4 u_zF w_205 rfl rfl (by decide) rfl dF_fill_20 ?_
      refine lv_iload_n hx hb dF_fill_23 rfl (lv_at hl 3 rfl) ?_
      obtain ⟨b24, h⟩ := g_ok h
      refine va_iald hx hb hK hP 2 0 rfl rfl b24 dF_fill_24 ?_
      obtain ⟨u25, e25, h⟩ := g_bind h
      refine mu_v S hN hK hP hD hS hA (rest := []) (cI_add l D cI cJ iA iA0 iA1 iA2 N (f_meant v3.toNatClampNeg) i_count i_kinds i_values i_partners u25 e25) k_F_104 [17, 18, 19, 20] [none, none, none, none, none, none, none, none, none, none, none, none, none, none, none, none, none, (some 0), (some 1), (some 2), (some 3)] [(fA, .inr (2, [.ref dA, .ref bA, .ref oA, .ref fA0, .ref fA1])), (fA0, .inl (cI, 30, .inl f_wanted)), (fA1, .inl (cI, 30, .inl f_meant)), (dA, .inr (1, [.ref dA0, .ref dA1, .ref dA2, .ref dA3, .ref dA4, .int d_classCount, .int d_propertyCount])), (dA0, .inl (cI, 6, .inl d_parents)), (dA1, .inl (cI, 8, .inl d_owners)), (dA2, .inl (cI, 8, .inl d_letters)), (dA3, .inl (cI, 8, .inl d_sorts)), (dA4, .inl (cI, 8, .inl d_targets)), (bA, .inr (0, [.ref bA0, .int b_count])), (bA0, .inl (cI, 120, .inl b_row)), (oA, .inr (4, [.ref bA, .ref oA0, .ref oA1, .ref oA2, .ref oA3, .ref oA4, .int o_elementCount, .int o_documentCount, .int o_deepest])), (oA0, .inl (cI, 60, .inl o_types)), (oA1, .inl (cI, 60, .inl o_names)), (oA2, .inl (cI, 60, .inl o_contents)), (oA3, .inl (cI, 60, .inl o_holders)), (oA4, .inl (cI, 60, .inl o_inners)), (iA, .inr (3, [.ref iA0, .ref iA1, .ref iA2, .int u25.2.1])), (iA0, .inl (cI, 12, .inl u25.2.2.1)), (iA1, .inl (cJ, 96, .inr (.inl u25.2.2.2.1))), (iA2, .inl (cI, 96, .inl u25.2.2.2.2))] rfl rfl rfl ⟨rfl, rfl, rfl, rfl, rfl, rfl, rfl, rfl, rfl, rfl, rfl, rfl, rfl, rfl, rfl, rfl, rfl, rfl, rfl, rfl, rfl, trivial⟩ (by decide +kernel) 3 rfl rfl ⟨rfl, rfl⟩ ⟨Nat.le_of_ble_eq_true rfl, Nat.le_of_ble_eq_true rfl⟩ rfl hl.1 (Nat.le_of_ble_eq_true rfl) ⟨Nat.le_refl _, Nat.le_refl _⟩ dF_fill_25 rfl (fun H locs hP hD hS => ?_)
      refine lv_pop hx hb dF_fill_28 rfl ?_
      refine lv_iinc (k := 3) (v := v3 + (1 : Int32)) (lv' := [(3, .int (v3 + (1 : Int32))), (0, .ref fA), (1, .ref iA), (2, .int v2)]) hx hb dF_fill_29 hl rfl (congrArg (v3 + ·) (by decide : Int32.ofInt (1) = (1 : Int32))) (Nat.le_of_ble_eq_true rfl) rfl (fun ls hl => ?_)
      refine lv_goto (tgt := 7) hx hb dF_fill_32 (by decide) ?_
      exact hrc7 (v3 + (1 : Int32), u25.2.1, u25.2.2.1, u25.2.2.2.1, u25.2.2.2.2) h _ _ _ (lv_sub hl [1, 2, 3, 0] rfl) hP hD hS
  refine lv_aload_n hx hb dF_fill_0 rfl (lv_at hl 1 rfl) ?_
  refine gfN S hN hK hP 17 3 3 (host := "PropertyDocuments") u_zI n_3 rfl rfl (by decide) rfl dF_fill_1 ?_
  refine lv_istore_n (lv' := [(2, .int i_count), (0, .ref fA), (1, .ref iA)]) hx hb dF_fill_4 rfl hl (Nat.le_of_ble_eq_true rfl) rfl (fun ls hl => ?_)
  refine lv_iconst (v := (0 : Int32)) hx hb dF_fill_5 (by decide) ?_
  refine lv_istore_n (lv' := [(3, .int (0 : Int32)), (2, .int i_count), (0, .ref fA), (1, .ref iA)]) hx hb dF_fill_6 rfl hl (Nat.le_of_ble_eq_true rfl) rfl (fun ls hl => ?_)
  exact t7 i_count N ((0 : Int32), i_count, i_kinds, i_values, i_partners) h _ _ _ (lv_sub hl [2, 3, 1, 0] rfl) hP hD hS
def fF_markedClass (N : Nat) (v1 : Int32) (b_count : Int32) (b_row : (Nat → Int32)) (o_elementCount : Int32) (o_types : (Nat → Int32)) (o_contents : (Nat → Int32)) : Option (Int32) :=
  (fO_content v1 o_elementCount o_contents).bind fun u5 => ((fO_type v1 o_elementCount o_types).bind fun u14 => (if u14 = (2 : Int32) then ((fB_intAt N u5 b_count b_row).bind fun u26 => (if u26 = (2 : Int32) then ((fB_at (u5 + (4 : Int32)) b_count b_row).bind fun u50 => (some (u50 - (65 : Int32)))) else (some ((-1 : Int32))))) else (some ((-1 : Int32)))))
set_option maxHeartbeats 4000000 in
set_option maxRecDepth 100000 in
theorem cF_markedClass (l : Launch) (D : va_G) (cI cJ : ClassId) (fA fA0 fA1 dA dA0 dA1 dA2 dA3 dA4 bA bA0 oA oA0 oA1 oA2 oA3 oA4 iA iA0 iA1 iA2 : Nat) (N : Nat) (v1 : Int32) (f_wanted : (Nat → Int32)) (f_meant : (Nat → Int32)) (d_classCount : Int32) (d_propertyCount : Int32) (d_parents : (Nat → Int32)) (d_owners : (Nat → Int32)) (d_letters : (Nat → Int32)) (d_sorts : (Nat → Int32)) (d_targets : (Nat → Int32)) (b_count : Int32) (b_row : (Nat → Int32)) (o_elementCount : Int32) (o_documentCount : Int32) (o_deepest : Int32) (o_types : (Nat → Int32)) (o_names : (Nat → Int32)) (o_contents : (Nat → Int32)) (o_holders : (Nat → Int32)) (o_inners : (Nat → Int32)) (i_count : Int32) (i_kinds : (Nat → Int32)) (i_values : (Nat → Int64)) (i_partners : (Nat → Int32)) (r : Int32) (h : fF_markedClass N v1 b_count b_row o_elementCount o_types o_contents = some r) : Pu l yF_markedClass bF_markedClass 4 (some .int) (rL 2) [.ref fA, .int v1] D cI cJ [(fA, .inr (2, [.ref dA, .ref bA, .ref oA, .ref fA0, .ref fA1])), (fA0, .inl (cI, 30, .inl f_wanted)), (fA1, .inl (cI, 30, .inl f_meant)), (dA, .inr (1, [.ref dA0, .ref dA1, .ref dA2, .ref dA3, .ref dA4, .int d_classCount, .int d_propertyCount])), (dA0, .inl (cI, 6, .inl d_parents)), (dA1, .inl (cI, 8, .inl d_owners)), (dA2, .inl (cI, 8, .inl d_letters)), (dA3, .inl (cI, 8, .inl d_sorts)), (dA4, .inl (cI, 8, .inl d_targets)), (bA, .inr (0, [.ref bA0, .int b_count])), (bA0, .inl (cI, 120, .inl b_row)), (oA, .inr (4, [.ref bA, .ref oA0, .ref oA1, .ref oA2, .ref oA3, .ref oA4, .int o_elementCount, .int o_documentCount, .int o_deepest])), (oA0, .inl (cI, 60, .inl o_types)), (oA1, .inl (cI, 60, .inl o_names)), (oA2, .inl (cI, 60, .inl o_contents)), (oA3, .inl (cI, 60, .inl o_holders)), (oA4, .inl (cI, 60, .inl o_inners)), (iA, .inr (3, [.ref iA0, .ref iA1, .ref iA2, .int i_count])), (iA0, .inl (cI, 12, .inl i_kinds)), (iA1, .inl (cJ, 96, .inr (.inl i_values))), (iA2, .inl (cI, 96, .inl i_partners))] (.int r) := by
  refine pu_of (by decide) (Nat.le_of_ble_eq_true rfl) ?_
  intro p e s m below meth c ls S hr hlocks hN hK hP hl
  have hx := S.1
  have hb := S.2.1
  have hl : lv_has ls 4 [(0, .ref fA), (1, .int v1)] := hl
  unfold fF_markedClass at h
  refine lv_aload_n hx hb dF_markedClass_0 rfl (lv_at hl 0 rfl) ?_
  refine gf S hK hP 0 2 2 u_zF w_203 rfl rfl (by decide) rfl dF_markedClass_1 ?_
  refine lv_iload_n hx hb dF_markedClass_4 rfl (lv_at hl 1 rfl) ?_
  obtain ⟨u5, e5, h⟩ := g_bind h
  refine pu_v S hN hK hP (rest := []) (cO_content l D cI cJ oA oA0 oA1 oA2 oA3 oA4 bA bA0 v1 o_elementCount o_documentCount o_deepest o_types o_names o_contents o_holders o_inners b_count b_row u5 e5) k_F_62 [11, 12, 13, 14, 15, 16, 9, 10] rfl 4 rfl rfl ⟨rfl, rfl⟩ ⟨Nat.le_of_ble_eq_true rfl, Nat.le_of_ble_eq_true rfl⟩ rfl hl.1 (Nat.le_of_ble_eq_true rfl) ⟨Nat.le_refl _, Nat.le_refl _⟩ dF_markedClass_5 rfl ?_
  refine lv_istore_n (lv' := [(2, .int u5), (0, .ref fA), (1, .int v1)]) hx hb dF_markedClass_8 rfl hl (Nat.le_of_ble_eq_true rfl) rfl (fun ls hl => ?_)
  refine lv_aload_n hx hb dF_markedClass_9 rfl (lv_at hl 1 rfl) ?_
  refine gf S hK hP 0 2 2 u_zF w_203 rfl rfl (by decide) rfl dF_markedClass_10 ?_
  refine lv_iload_n hx hb dF_markedClass_13 rfl (lv_at hl 2 rfl) ?_
  obtain ⟨u14, e14, h⟩ := g_bind h
  refine pu_v S hN hK hP (rest := []) (cO_type l D cI cJ oA oA0 oA1 oA2 oA3 oA4 bA bA0 v1 o_elementCount o_documentCount o_deepest o_types o_names o_contents o_holders o_inners b_count b_row u14 e14) k_F_65 [11, 12, 13, 14, 15, 16, 9, 10] rfl 4 rfl rfl ⟨rfl, rfl⟩ ⟨Nat.le_of_ble_eq_true rfl, Nat.le_of_ble_eq_true rfl⟩ rfl hl.1 (Nat.le_of_ble_eq_true rfl) ⟨Nat.le_refl _, Nat.le_refl _⟩ dF_markedClass_14 rfl ?_
  refine lv_iconst (v := (2 : Int32)) hx hb dF_markedClass_17 (by decide) ?_
  refine lv_icmp_ne (tgt := 37) hx hb dF_markedClass_18 (by decide) (fun h18 => ?_) (fun h18 => ?_)
  · have h := g_f h h18
    refine lv_iconst (v := (0 : Int32)) hx hb dF_markedClass_37 (by decide) ?_
    refine lv_istore_n (lv' := [(3, .int (0 : Int32)), (2, .int u5), (0, .ref fA), (1, .int v1)]) hx hb dF_markedClass_38 rfl hl (Nat.le_of_ble_eq_true rfl) rfl (fun ls hl => ?_)
    refine lv_iload_n hx hb dF_markedClass_39 rfl (lv_at hl 0 rfl) ?_
    refine lv_if_eq (tgt := 59) hx hb dF_markedClass_40 (by decide) (fun h40 => ?_) (fun h40 => ?_)
    · refine lv_iconst (v := (-1 : Int32)) hx hb dF_markedClass_59 (by decide) ?_
      cases h
      exact pu_i S hr hlocks dF_markedClass_60 rfl
    · exact absurd h40 (by decide)
  · have h := g_t h h18
    refine lv_aload_n hx hb dF_markedClass_21 rfl (lv_at hl 1 rfl) ?_
    refine gf S hK hP 0 2 1 u_zF w_202 rfl rfl (by decide) rfl dF_markedClass_22 ?_
    refine lv_iload_n hx hb dF_markedClass_25 rfl (lv_at hl 0 rfl) ?_
    obtain ⟨u26, e26, h⟩ := g_bind h
    refine pu_v S hN hK hP (rest := []) (cB_intAt l D cI cJ bA bA0 N u5 b_count b_row u26 e26) k_F_68 [9, 10] rfl 0 rfl rfl ⟨rfl, rfl⟩ ⟨Nat.le_of_ble_eq_true rfl, Nat.le_of_ble_eq_true rfl⟩ rfl hl.1 (Nat.le_of_ble_eq_true rfl) ⟨Nat.le_refl _, Nat.le_refl _⟩ dF_markedClass_26 rfl ?_
    refine lv_iconst (v := (2 : Int32)) hx hb dF_markedClass_29 (by decide) ?_
    refine lv_icmp_ne (tgt := 37) hx hb dF_markedClass_30 (by decide) (fun h30 => ?_) (fun h30 => ?_)
    · have h := g_f h h30
      refine lv_iconst (v := (0 : Int32)) hx hb dF_markedClass_37 (by decide) ?_
      refine lv_istore_n (lv' := [(3, .int (0 : Int32)), (2, .int u5), (0, .ref fA), (1, .int v1)]) hx hb dF_markedClass_38 rfl hl (Nat.le_of_ble_eq_true rfl) rfl (fun ls hl => ?_)
      refine lv_iload_n hx hb dF_markedClass_39 rfl (lv_at hl 0 rfl) ?_
      refine lv_if_eq (tgt := 59) hx hb dF_markedClass_40 (by decide) (fun h40 => ?_) (fun h40 => ?_)
      · refine lv_iconst (v := (-1 : Int32)) hx hb dF_markedClass_59 (by decide) ?_
        cases h
        exact pu_i S hr hlocks dF_markedClass_60 rfl
      · exact absurd h40 (by decide)
    · have h := g_t h h30
      refine lv_iconst (v := (1 : Int32)) hx hb dF_markedClass_33 (by decide) ?_
      refine lv_goto (tgt := 38) hx hb dF_markedClass_34 (by decide) ?_
      refine lv_istore_n (lv' := [(3, .int (1 : Int32)), (2, .int u5), (0, .ref fA), (1, .int v1)]) hx hb dF_markedClass_38 rfl hl (Nat.le_of_ble_eq_true rfl) rfl (fun ls hl => ?_)
      refine lv_iload_n hx hb dF_markedClass_39 rfl (lv_at hl 0 rfl) ?_
      refine lv_if_eq (tgt := 59) hx hb dF_markedClass_40 (by decide) (fun h40 => ?_) (fun h40 => ?_)
      · exact absurd h40 (by decide)
      · refine lv_aload_n hx hb dF_markedClass_43 rfl (lv_at hl 2 rfl) ?_
        refine gf S hK hP 0 2 1 u_zF w_202 rfl rfl (by decide) rfl dF_markedClass_44 ?_
        refine lv_iload_n hx hb dF_markedClass_47 rfl (lv_at hl 1 rfl) ?_
        refine lv_iconst (v := (4 : Int32)) hx hb dF_markedClass_48 (by decide) ?_
        refine lv_iadd hx hb dF_markedClass_49 ?_
        obtain ⟨u50, e50, h⟩ := g_bind h
        refine pu_v S hN hK hP (rest := []) (cB_at l D cI cJ bA bA0 (u5 + (4 : Int32)) b_count b_row u50 e50) k_F_73 [9, 10] rfl 0 rfl rfl ⟨rfl, rfl⟩ ⟨Nat.le_of_ble_eq_true rfl, Nat.le_of_ble_eq_true rfl⟩ rfl hl.1 (Nat.le_of_ble_eq_true rfl) ⟨Nat.le_refl _, Nat.le_refl _⟩ dF_markedClass_50 rfl ?_
        refine lv_bipush (v := (65 : Int32)) hx hb dF_markedClass_53 (by decide) ?_
        refine lv_isub hx hb dF_markedClass_55 ?_
        refine lv_goto (tgt := 60) hx hb dF_markedClass_56 (by decide) ?_
        cases h
        exact pu_i S hr hlocks dF_markedClass_60 rfl
def fF_findMeant_12 (N : Nat) (v1 : Int32) (f_wanted : (Nat → Int32)) (d_classCount : Int32) (d_parents : (Nat → Int32)) (b_count : Int32) (b_row : (Nat → Int32)) (o_elementCount : Int32) (o_types : (Nat → Int32)) (o_names : (Nat → Int32)) (o_contents : (Nat → Int32)) (o_holders : (Nat → Int32)) (rc12 : Int32 × Int32 × Int32 → Option (Int32)) (v2 : Int32) (v3 : Int32) (v4 : Int32) : Option (Int32) :=
  if o_elementCount ≤ v4 then (if (1 : Int32) < v3 then (some ((-1 : Int32))) else (if ok v1 30 = true then ((fD_isKindOf N v2 (f_wanted v1.toNatClampNeg) d_classCount d_parents).bind fun u81 => (if u81 = true then (some (v2)) else (some ((-1 : Int32))))) else none)) else ((fO_holder v4 o_elementCount o_holders).bind fun u30 => (if u30 = v1 then ((fO_isMark v4 o_elementCount o_names b_count b_row).bind fun u43 => (if u43 = true then ((fF_markedClass N v4 b_count b_row o_elementCount o_types o_contents).bind fun u52 => (rc12 (u52, v3 + (1 : Int32), v4 + (1 : Int32)))) else (rc12 (v2, v3, v4 + (1 : Int32))))) else (rc12 (v2, v3, v4 + (1 : Int32)))))
def fF_findMeant_12l (N : Nat) (v1 : Int32) (f_wanted : (Nat → Int32)) (d_classCount : Int32) (d_parents : (Nat → Int32)) (b_count : Int32) (b_row : (Nat → Int32)) (o_elementCount : Int32) (o_types : (Nat → Int32)) (o_names : (Nat → Int32)) (o_contents : (Nat → Int32)) (o_holders : (Nat → Int32)) : Nat → Int32 × Int32 × Int32 → Option (Int32) := lp (fun rc a => fF_findMeant_12 N v1 f_wanted d_classCount d_parents b_count b_row o_elementCount o_types o_names o_contents o_holders rc a.1 a.2.1 a.2.2)
def fF_findMeant (N : Nat) (v1 : Int32) (f_wanted : (Nat → Int32)) (d_classCount : Int32) (d_parents : (Nat → Int32)) (b_count : Int32) (b_row : (Nat → Int32)) (o_elementCount : Int32) (o_types : (Nat → Int32)) (o_names : (Nat → Int32)) (o_contents : (Nat → Int32)) (o_holders : (Nat → Int32)) : Option (Int32) :=
  if ok v1 30 = true then (fF_findMeant_12l N v1 f_wanted d_classCount d_parents b_count b_row o_elementCount o_types o_names o_contents o_holders N (f_wanted v1.toNatClampNeg, (0 : Int32), (0 : Int32))) else none
set_option maxHeartbeats 4000000 in
set_option maxRecDepth 100000 in
theorem cF_findMeant (l : Launch) (D : va_G) (cI cJ : ClassId) (fA fA0 fA1 dA dA0 dA1 dA2 dA3 dA4 bA bA0 oA oA0 oA1 oA2 oA3 oA4 iA iA0 iA1 iA2 : Nat) (N : Nat) (v1 : Int32) (f_wanted : (Nat → Int32)) (f_meant : (Nat → Int32)) (d_classCount : Int32) (d_propertyCount : Int32) (d_parents : (Nat → Int32)) (d_owners : (Nat → Int32)) (d_letters : (Nat → Int32)) (d_sorts : (Nat → Int32)) (d_targets : (Nat → Int32)) (b_count : Int32) (b_row : (Nat → Int32)) (o_elementCount : Int32) (o_documentCount : Int32) (o_deepest : Int32) (o_types : (Nat → Int32)) (o_names : (Nat → Int32)) (o_contents : (Nat → Int32)) (o_holders : (Nat → Int32)) (o_inners : (Nat → Int32)) (i_count : Int32) (i_kinds : (Nat → Int32)) (i_values : (Nat → Int64)) (i_partners : (Nat → Int32)) (r : Int32) (h : fF_findMeant N v1 f_wanted d_classCount d_parents b_count b_row o_elementCount o_types o_names o_contents o_holders = some r) : Pu l yF_findMeant bF_findMeant 5 (some .int) (rL 3) [.ref fA, .int v1] D cI cJ [(fA, .inr (2, [.ref dA, .ref bA, .ref oA, .ref fA0, .ref fA1])), (fA0, .inl (cI, 30, .inl f_wanted)), (fA1, .inl (cI, 30, .inl f_meant)), (dA, .inr (1, [.ref dA0, .ref dA1, .ref dA2, .ref dA3, .ref dA4, .int d_classCount, .int d_propertyCount])), (dA0, .inl (cI, 6, .inl d_parents)), (dA1, .inl (cI, 8, .inl d_owners)), (dA2, .inl (cI, 8, .inl d_letters)), (dA3, .inl (cI, 8, .inl d_sorts)), (dA4, .inl (cI, 8, .inl d_targets)), (bA, .inr (0, [.ref bA0, .int b_count])), (bA0, .inl (cI, 120, .inl b_row)), (oA, .inr (4, [.ref bA, .ref oA0, .ref oA1, .ref oA2, .ref oA3, .ref oA4, .int o_elementCount, .int o_documentCount, .int o_deepest])), (oA0, .inl (cI, 60, .inl o_types)), (oA1, .inl (cI, 60, .inl o_names)), (oA2, .inl (cI, 60, .inl o_contents)), (oA3, .inl (cI, 60, .inl o_holders)), (oA4, .inl (cI, 60, .inl o_inners)), (iA, .inr (3, [.ref iA0, .ref iA1, .ref iA2, .int i_count])), (iA0, .inl (cI, 12, .inl i_kinds)), (iA1, .inl (cJ, 96, .inr (.inl i_values))), (iA2, .inl (cI, 96, .inl i_partners))] (.int r) := by
  refine pu_of (by decide) (Nat.le_of_ble_eq_true rfl) ?_
  intro p e s m below meth c ls S hr hlocks hN hK hP hl
  have hx := S.1
  have hb := S.2.1
  have hl : lv_has ls 5 [(0, .ref fA), (1, .int v1)] := hl
  unfold fF_findMeant at h
  have t12 : ∀ (k : Nat) (a : Int32 × Int32 × Int32), fF_findMeant_12l N v1 f_wanted d_classCount d_parents b_count b_row o_elementCount o_types o_names o_contents o_holders k a = some r → ∀ (ls : Array Slot), lv_has ls 5 [(0, .ref fA), (1, .int v1), (2, .int a.1), (3, .int a.2.1), (4, .int a.2.2)] → W p l e (rL 3) s m ([.ref fA, .int v1] : List Value).toArray below meth c s.heap [] 0 0 (MQ below (fun _ st oc t => oc = .returned (some (.int r)) ∧ t.heap = st.heap) ([.ref fA, .int v1] : List Value).toArray s 0 0 (fun _ => False)) (F0 m 12 ls []) := by
    unfold fF_findMeant_12l
    refine lp_some ?_
    intro rc12 hrc12 a h
    obtain ⟨v2, v3, v4⟩ := a
    intro ls hl
    have h : fF_findMeant_12 N v1 f_wanted d_classCount d_parents b_count b_row o_elementCount o_types o_names o_contents o_holders rc12 v2 v3 v4 = some r := h
    have hl : lv_has ls 5 [(0, .ref fA), (1, .int v1), (2, .int v2), (3, .int v3), (4, .int v4)] := hl
    unfold fF_findMeant_12 at h
    refine lv_iload hx hb dF_findMeant_12 (lv_at hl 4 rfl) ?_
    refine lv_aload_n hx hb dF_findMeant_14 rfl (lv_at hl 0 rfl) ?_
    refine gf S hK hP 0 2 2 u_zF w_203 rfl rfl (by decide) rfl dF_findMeant_15 ?_
    refine gfN S hN hK hP 11 4 6 (host := "PropertyDocuments") u_zO n_10 rfl rfl (by decide) rfl dF_findMeant_18 ?_
    refine lv_icmp_ge (tgt := 65) hx hb dF_findMeant_21 (by decide) (fun h21 => ?_) (fun h21 => ?_)
    · have h := g_t h h21
      refine lv_iload_n hx hb dF_findMeant_65 rfl (lv_at hl 3 rfl) ?_
      refine lv_iconst (v := (1 : Int32)) hx hb dF_findMeant_66 (by decide) ?_
      refine lv_icmp_gt (tgt := 91) hx hb dF_findMeant_67 (by decide) (fun h67 => ?_) (fun h67 => ?_)
      · have h := g_t h h67
        refine lv_iconst (v := (-1 : Int32)) hx hb dF_findMeant_91 (by decide) ?_
        cases h
        exact pu_i S hr hlocks dF_findMeant_92 rfl
      · have h := g_f h h67
        refine lv_aload_n hx hb dF_findMeant_70 rfl (lv_at hl 0 rfl) ?_
        refine gf S hK hP 0 2 0 u_zF w_201 rfl rfl (by decide) rfl dF_findMeant_71 ?_
        refine lv_iload_n hx hb dF_findMeant_74 rfl (lv_at hl 2 rfl) ?_
        refine lv_aload_n hx hb dF_findMeant_75 rfl (lv_at hl 0 rfl) ?_
        refine gf S hK hP 0 2 3 u_zF w_204 rfl rfl (by decide) rfl dF_findMeant_76 ?_
        refine lv_iload_n hx hb dF_findMeant_79 rfl (lv_at hl 1 rfl) ?_
        obtain ⟨b80, h⟩ := g_ok h
        refine va_iald hx hb hK hP 1 0 rfl rfl b80 dF_findMeant_80 ?_
        obtain ⟨u81, e81, h⟩ := g_bind h
        refine pu_v S hN hK hP (rest := []) (cD_isKindOf l D cI cJ dA dA0 dA1 dA2 dA3 dA4 N v2 (f_wanted v1.toNatClampNeg) d_classCount d_propertyCount d_parents d_owners d_letters d_sorts d_targets u81 e81) k_F_56 [3, 4, 5, 6, 7, 8] rfl 1 rfl rfl ⟨rfl, rfl⟩ ⟨Nat.le_of_ble_eq_true rfl, Nat.le_of_ble_eq_true rfl⟩ rfl hl.1 (Nat.le_of_ble_eq_true rfl) ⟨Nat.le_refl _, Nat.le_refl _⟩ dF_findMeant_81 rfl ?_
        refine b_ifeq (tgt := 91) hx hb dF_findMeant_84 (by decide) (fun h84 => ?_) (fun h84 => ?_)
        · have h := g_f h h84
          refine lv_iconst (v := (-1 : Int32)) hx hb dF_findMeant_91 (by decide) ?_
          cases h
          exact pu_i S hr hlocks dF_findMeant_92 rfl
        · have h := g_t h h84
          refine lv_iload_n hx hb dF_findMeant_87 rfl (lv_at hl 2 rfl) ?_
          refine lv_goto (tgt := 92) hx hb dF_findMeant_88 (by decide) ?_
          cases h
          exact pu_i S hr hlocks dF_findMeant_92 rfl
    · have h := g_f h h21
      refine lv_aload_n hx hb dF_findMeant_24 rfl (lv_at hl 0 rfl) ?_
      refine gf S hK hP 0 2 2 u_zF w_203 rfl rfl (by decide) rfl dF_findMeant_25 ?_
      refine lv_iload hx hb dF_findMeant_28 (lv_at hl 4 rfl) ?_
      obtain ⟨u30, e30, h⟩ := g_bind h
      refine pu_v S hN hK hP (rest := []) (cO_holder l D cI cJ oA oA0 oA1 oA2 oA3 oA4 bA bA0 v4 o_elementCount o_documentCount o_deepest o_types o_names o_contents o_holders o_inners b_count b_row u30 e30) k_F_47 [11, 12, 13, 14, 15, 16, 9, 10] rfl 4 rfl rfl ⟨rfl, rfl⟩ ⟨Nat.le_of_ble_eq_true rfl, Nat.le_of_ble_eq_true rfl⟩ rfl hl.1 (Nat.le_of_ble_eq_true rfl) ⟨Nat.le_refl _, Nat.le_refl _⟩ dF_findMeant_30 rfl ?_
      refine lv_iload_n hx hb dF_findMeant_33 rfl (lv_at hl 1 rfl) ?_
      refine lv_icmp_ne (tgt := 59) hx hb dF_findMeant_34 (by decide) (fun h34 => ?_) (fun h34 => ?_)
      · have h := g_f h h34
        refine lv_iinc (k := 4) (v := v4 + (1 : Int32)) (lv' := [(4, .int (v4 + (1 : Int32))), (0, .ref fA), (1, .int v1), (2, .int v2), (3, .int v3)]) hx hb dF_findMeant_59 hl rfl (congrArg (v4 + ·) (by decide : Int32.ofInt (1) = (1 : Int32))) (Nat.le_of_ble_eq_true rfl) rfl (fun ls hl => ?_)
        refine lv_goto (tgt := 12) hx hb dF_findMeant_62 (by decide) ?_
        exact hrc12 (v2, v3, v4 + (1 : Int32)) h _ (lv_sub hl [1, 2, 3, 4, 0] rfl)
      · have h := g_t h h34
        refine lv_aload_n hx hb dF_findMeant_37 rfl (lv_at hl 0 rfl) ?_
        refine gf S hK hP 0 2 2 u_zF w_203 rfl rfl (by decide) rfl dF_findMeant_38 ?_
        refine lv_iload hx hb dF_findMeant_41 (lv_at hl 4 rfl) ?_
        obtain ⟨u43, e43, h⟩ := g_bind h
        refine pu_v S hN hK hP (rest := []) (cO_isMark l D cI cJ oA oA0 oA1 oA2 oA3 oA4 bA bA0 v4 o_elementCount o_documentCount o_deepest o_types o_names o_contents o_holders o_inners b_count b_row u43 e43) k_F_50 [11, 12, 13, 14, 15, 16, 9, 10] rfl 4 rfl rfl ⟨rfl, rfl⟩ ⟨Nat.le_of_ble_eq_true rfl, Nat.le_of_ble_eq_true rfl⟩ rfl hl.1 (Nat.le_of_ble_eq_true rfl) ⟨Nat.le_refl _, Nat.le_refl _⟩ dF_findMeant_43 rfl ?_
        refine b_ifeq (tgt := 59) hx hb dF_findMeant_46 (by decide) (fun h46 => ?_) (fun h46 => ?_)
        · have h := g_f h h46
          refine lv_iinc (k := 4) (v := v4 + (1 : Int32)) (lv' := [(4, .int (v4 + (1 : Int32))), (0, .ref fA), (1, .int v1), (2, .int v2), (3, .int v3)]) hx hb dF_findMeant_59 hl rfl (congrArg (v4 + ·) (by decide : Int32.ofInt (1) = (1 : Int32))) (Nat.le_of_ble_eq_true rfl) rfl (fun ls hl => ?_)
          refine lv_goto (tgt := 12) hx hb dF_findMeant_62 (by decide) ?_
          exact hrc12 (v2, v3, v4 + (1 : Int32)) h _ (lv_sub hl [1, 2, 3, 4, 0] rfl)
        · have h := g_t h h46
          refine lv_aload_n hx hb dF_findMeant_49 rfl (lv_at hl 0 rfl) ?_
          refine lv_iload hx hb dF_findMeant_50 (lv_at hl 4 rfl) ?_
          obtain ⟨u52, e52, h⟩ := g_bind h
          refine pu_v S hN hK hP (rest := []) (cF_markedClass l D cI cJ fA fA0 fA1 dA dA0 dA1 dA2 dA3 dA4 bA bA0 oA oA0 oA1 oA2 oA3 oA4 iA iA0 iA1 iA2 N v4 f_wanted f_meant d_classCount d_propertyCount d_parents d_owners d_letters d_sorts d_targets b_count b_row o_elementCount o_documentCount o_deepest o_types o_names o_contents o_holders o_inners i_count i_kinds i_values i_partners u52 e52) k_F_53 [0, 1, 2, 3, 4, 5, 6, 7, 8, 9, 10, 11, 12, 13, 14, 15, 16, 17, 18, 19, 20] rfl 2 rfl rfl ⟨rfl, rfl⟩ ⟨Nat.le_of_ble_eq_true rfl, Nat.le_of_ble_eq_true rfl⟩ rfl hl.1 (Nat.le_of_ble_eq_true rfl) ⟨Nat.le_refl _, Nat.le_refl _⟩ dF_findMeant_52 rfl ?_
          refine lv_istore_n (lv' := [(2, .int u52), (0, .ref fA), (1, .int v1), (3, .int v3), (4, .int v4)]) hx hb dF_findMeant_55 rfl hl (Nat.le_of_ble_eq_true rfl) rfl (fun ls hl => ?_)
          refine lv_iinc (k := 3) (v := v3 + (1 : Int32)) (lv' := [(3, .int (v3 + (1 : Int32))), (2, .int u52), (0, .ref fA), (1, .int v1), (4, .int v4)]) hx hb dF_findMeant_56 hl rfl (congrArg (v3 + ·) (by decide : Int32.ofInt (1) = (1 : Int32))) (Nat.le_of_ble_eq_true rfl) rfl (fun ls hl => ?_)
          refine lv_iinc (k := 4) (v := v4 + (1 : Int32)) (lv' := [(4, .int (v4 + (1 : Int32))), (3, .int (v3 + (1 : Int32))), (2, .int u52), (0, .ref fA), (1, .int v1)]) hx hb dF_findMeant_59 hl rfl (congrArg (v4 + ·) (by decide : Int32.ofInt (1) = (1 : Int32))) (Nat.le_of_ble_eq_true rfl) rfl (fun ls hl => ?_)
          refine lv_goto (tgt := 12) hx hb dF_findMeant_62 (by decide) ?_
          exact hrc12 (u52, v3 + (1 : Int32), v4 + (1 : Int32)) h _ (lv_sub hl [3, 4, 2, 1, 0] rfl)
  refine lv_aload_n hx hb dF_findMeant_0 rfl (lv_at hl 0 rfl) ?_
  refine gf S hK hP 0 2 3 u_zF w_204 rfl rfl (by decide) rfl dF_findMeant_1 ?_
  refine lv_iload_n hx hb dF_findMeant_4 rfl (lv_at hl 1 rfl) ?_
  obtain ⟨b5, h⟩ := g_ok h
  refine va_iald hx hb hK hP 1 0 rfl rfl b5 dF_findMeant_5 ?_
  refine lv_istore_n (lv' := [(2, .int (f_wanted v1.toNatClampNeg)), (0, .ref fA), (1, .int v1)]) hx hb dF_findMeant_6 rfl hl (Nat.le_of_ble_eq_true rfl) rfl (fun ls hl => ?_)
  refine lv_iconst (v := (0 : Int32)) hx hb dF_findMeant_7 (by decide) ?_
  refine lv_istore_n (lv' := [(3, .int (0 : Int32)), (2, .int (f_wanted v1.toNatClampNeg)), (0, .ref fA), (1, .int v1)]) hx hb dF_findMeant_8 rfl hl (Nat.le_of_ble_eq_true rfl) rfl (fun ls hl => ?_)
  refine lv_iconst (v := (0 : Int32)) hx hb dF_findMeant_9 (by decide) ?_
  refine lv_istore (lv' := [(4, .int (0 : Int32)), (3, .int (0 : Int32)), (2, .int (f_wanted v1.toNatClampNeg)), (0, .ref fA), (1, .int v1)]) hx hb dF_findMeant_10 hl (Nat.le_of_ble_eq_true rfl) rfl (fun ls hl => ?_)
  exact t12 N (f_wanted v1.toNatClampNeg, (0 : Int32), (0 : Int32)) h _ (lv_sub hl [3, 4, 2, 1, 0] rfl)
def fF_fits_11 (N : Nat) (v1 : Int32) (d_classCount : Int32) (d_propertyCount : Int32) (d_parents : (Nat → Int32)) (d_owners : (Nat → Int32)) (d_letters : (Nat → Int32)) (d_sorts : (Nat → Int32)) (d_targets : (Nat → Int32)) (b_count : Int32) (b_row : (Nat → Int32)) (o_elementCount : Int32) (o_documentCount : Int32) (o_types : (Nat → Int32)) (o_names : (Nat → Int32)) (o_contents : (Nat → Int32)) (o_holders : (Nat → Int32)) (o_inners : (Nat → Int32)) (rc11 : Bool × Int32 × (Nat → Int32) × (Nat → Int32) → Option (Bool × (Nat → Int32) × (Nat → Int32))) (v2 : Bool) (v3 : Int32) (f_wanted : (Nat → Int32)) (f_meant : (Nat → Int32)) : Option (Bool × (Nat → Int32) × (Nat → Int32)) :=
  if o_documentCount ≤ v3 then (some (v2, f_wanted, f_meant)) else (if v2 = true then ((fF_findMeant N v3 f_wanted d_classCount d_parents b_count b_row o_elementCount o_types o_names o_contents o_holders).bind fun u33 => (if ok v3 30 = true then (if ok v3 30 = true then (if ((upd f_meant v3.toNatClampNeg u33) v3.toNatClampNeg) = (-1 : Int32) then (rc11 (false, v3 + (1 : Int32), f_wanted, upd f_meant v3.toNatClampNeg u33)) else ((fF_elementsFit N v3 f_wanted (upd f_meant v3.toNatClampNeg u33) d_classCount d_propertyCount d_parents d_owners d_letters d_sorts d_targets b_count b_row o_elementCount o_types o_names o_holders o_inners).bind fun u49 => (if u49.1 = true then (rc11 (true, v3 + (1 : Int32), u49.2, upd f_meant v3.toNatClampNeg u33)) else (rc11 (false, v3 + (1 : Int32), u49.2, upd f_meant v3.toNatClampNeg u33))))) else none) else none)) else (some (v2, f_wanted, f_meant)))
def fF_fits_11l (N : Nat) (v1 : Int32) (d_classCount : Int32) (d_propertyCount : Int32) (d_parents : (Nat → Int32)) (d_owners : (Nat → Int32)) (d_letters : (Nat → Int32)) (d_sorts : (Nat → Int32)) (d_targets : (Nat → Int32)) (b_count : Int32) (b_row : (Nat → Int32)) (o_elementCount : Int32) (o_documentCount : Int32) (o_types : (Nat → Int32)) (o_names : (Nat → Int32)) (o_contents : (Nat → Int32)) (o_holders : (Nat → Int32)) (o_inners : (Nat → Int32)) : Nat → Bool × Int32 × (Nat → Int32) × (Nat → Int32) → Option (Bool × (Nat → Int32) × (Nat → Int32)) := lp (fun rc a => fF_fits_11 N v1 d_classCount d_propertyCount d_parents d_owners d_letters d_sorts d_targets b_count b_row o_elementCount o_documentCount o_types o_names o_contents o_holders o_inners rc a.1 a.2.1 a.2.2.1 a.2.2.2)
def fF_fits (N : Nat) (v1 : Int32) (f_wanted : (Nat → Int32)) (f_meant : (Nat → Int32)) (d_classCount : Int32) (d_propertyCount : Int32) (d_parents : (Nat → Int32)) (d_owners : (Nat → Int32)) (d_letters : (Nat → Int32)) (d_sorts : (Nat → Int32)) (d_targets : (Nat → Int32)) (b_count : Int32) (b_row : (Nat → Int32)) (o_elementCount : Int32) (o_documentCount : Int32) (o_types : (Nat → Int32)) (o_names : (Nat → Int32)) (o_contents : (Nat → Int32)) (o_holders : (Nat → Int32)) (o_inners : (Nat → Int32)) : Option (Bool × (Nat → Int32) × (Nat → Int32)) :=
  if ok (0 : Int32) 30 = true then (fF_fits_11l N v1 d_classCount d_propertyCount d_parents d_owners d_letters d_sorts d_targets b_count b_row o_elementCount o_documentCount o_types o_names o_contents o_holders o_inners N (true, (0 : Int32), upd f_wanted (0 : Int32).toNatClampNeg v1, f_meant)) else none
set_option maxHeartbeats 4000000 in
set_option maxRecDepth 100000 in
theorem cF_fits (l : Launch) (D : va_G) (cI cJ : ClassId) (fA fA0 fA1 dA dA0 dA1 dA2 dA3 dA4 bA bA0 oA oA0 oA1 oA2 oA3 oA4 iA iA0 iA1 iA2 : Nat) (N : Nat) (v1 : Int32) (f_wanted : (Nat → Int32)) (f_meant : (Nat → Int32)) (d_classCount : Int32) (d_propertyCount : Int32) (d_parents : (Nat → Int32)) (d_owners : (Nat → Int32)) (d_letters : (Nat → Int32)) (d_sorts : (Nat → Int32)) (d_targets : (Nat → Int32)) (b_count : Int32) (b_row : (Nat → Int32)) (o_elementCount : Int32) (o_documentCount : Int32) (o_deepest : Int32) (o_types : (Nat → Int32)) (o_names : (Nat → Int32)) (o_contents : (Nat → Int32)) (o_holders : (Nat → Int32)) (o_inners : (Nat → Int32)) (i_count : Int32) (i_kinds : (Nat → Int32)) (i_values : (Nat → Int64)) (i_partners : (Nat → Int32)) (r : Bool × (Nat → Int32) × (Nat → Int32)) (h : fF_fits N v1 f_wanted f_meant d_classCount d_propertyCount d_parents d_owners d_letters d_sorts d_targets b_count b_row o_elementCount o_documentCount o_types o_names o_contents o_holders o_inners = some r) : Mu l yF_fits bF_fits 4 (some .boolean) (rL 5) [.ref fA, .int v1] D cI cJ [(fA, .inr (2, [.ref dA, .ref bA, .ref oA, .ref fA0, .ref fA1])), (fA0, .inl (cI, 30, .inl f_wanted)), (fA1, .inl (cI, 30, .inl f_meant)), (dA, .inr (1, [.ref dA0, .ref dA1, .ref dA2, .ref dA3, .ref dA4, .int d_classCount, .int d_propertyCount])), (dA0, .inl (cI, 6, .inl d_parents)), (dA1, .inl (cI, 8, .inl d_owners)), (dA2, .inl (cI, 8, .inl d_letters)), (dA3, .inl (cI, 8, .inl d_sorts)), (dA4, .inl (cI, 8, .inl d_targets)), (bA, .inr (0, [.ref bA0, .int b_count])), (bA0, .inl (cI, 120, .inl b_row)), (oA, .inr (4, [.ref bA, .ref oA0, .ref oA1, .ref oA2, .ref oA3, .ref oA4, .int o_elementCount, .int o_documentCount, .int o_deepest])), (oA0, .inl (cI, 60, .inl o_types)), (oA1, .inl (cI, 60, .inl o_names)), (oA2, .inl (cI, 60, .inl o_contents)), (oA3, .inl (cI, 60, .inl o_holders)), (oA4, .inl (cI, 60, .inl o_inners)), (iA, .inr (3, [.ref iA0, .ref iA1, .ref iA2, .int i_count])), (iA0, .inl (cI, 12, .inl i_kinds)), (iA1, .inl (cJ, 96, .inr (.inl i_values))), (iA2, .inl (cI, 96, .inl i_partners))] (some (.int (bI r.1))) [(fA, .inr (2, [.ref dA, .ref bA, .ref oA, .ref fA0, .ref fA1])), (fA0, .inl (cI, 30, .inl r.2.1)), (fA1, .inl (cI, 30, .inl r.2.2)), (dA, .inr (1, [.ref dA0, .ref dA1, .ref dA2, .ref dA3, .ref dA4, .int d_classCount, .int d_propertyCount])), (dA0, .inl (cI, 6, .inl d_parents)), (dA1, .inl (cI, 8, .inl d_owners)), (dA2, .inl (cI, 8, .inl d_letters)), (dA3, .inl (cI, 8, .inl d_sorts)), (dA4, .inl (cI, 8, .inl d_targets)), (bA, .inr (0, [.ref bA0, .int b_count])), (bA0, .inl (cI, 120, .inl b_row)), (oA, .inr (4, [.ref bA, .ref oA0, .ref oA1, .ref oA2, .ref oA3, .ref oA4, .int o_elementCount, .int o_documentCount, .int o_deepest])), (oA0, .inl (cI, 60, .inl o_types)), (oA1, .inl (cI, 60, .inl o_names)), (oA2, .inl (cI, 60, .inl o_contents)), (oA3, .inl (cI, 60, .inl o_holders)), (oA4, .inl (cI, 60, .inl o_inners)), (iA, .inr (3, [.ref iA0, .ref iA1, .ref iA2, .int i_count])), (iA0, .inl (cI, 12, .inl i_kinds)), (iA1, .inl (cJ, 96, .inr (.inl i_values))), (iA2, .inl (cI, 96, .inl i_partners))] := by
  refine mu_of (by decide) (Nat.le_of_ble_eq_true rfl) ?_
  intro p e s m below meth c ls A S hr hlocks hN hK hP hD hA hl
  have hS : va_S A s.heap s.heap [] := va_S.rf
  have hx := S.1
  have hb := S.2.1
  have hl : lv_has ls 4 [(0, .ref fA), (1, .int v1)] := hl
  unfold fF_fits at h
  have t11 : ∀ (k : Nat) (a : Bool × Int32 × (Nat → Int32) × (Nat → Int32)), fF_fits_11l N v1 d_classCount d_propertyCount d_parents d_owners d_letters d_sorts d_targets b_count b_row o_elementCount o_documentCount o_types o_names o_contents o_holders o_inners k a = some r → ∀ (ls : Array Slot) (H : Heap) (locs : List Loc), lv_has ls 4 [(0, .ref fA), (2, .int (bI a.1)), (3, .int a.2.1)] → va_P D cs [(fA, .inr (2, [.ref dA, .ref bA, .ref oA, .ref fA0, .ref fA1])), (fA0, .inl (cI, 30, .inl a.2.2.1)), (fA1, .inl (cI, 30, .inl a.2.2.2)), (dA, .inr (1, [.ref dA0, .ref dA1, .ref dA2, .ref dA3, .ref dA4, .int d_classCount, .int d_propertyCount])), (dA0, .inl (cI, 6, .inl d_parents)), (dA1, .inl (cI, 8, .inl d_owners)), (dA2, .inl (cI, 8, .inl d_letters)), (dA3, .inl (cI, 8, .inl d_sorts)), (dA4, .inl (cI, 8, .inl d_targets)), (bA, .inr (0, [.ref bA0, .int b_count])), (bA0, .inl (cI, 120, .inl b_row)), (oA, .inr (4, [.ref bA, .ref oA0, .ref oA1, .ref oA2, .ref oA3, .ref oA4, .int o_elementCount, .int o_documentCount, .int o_deepest])), (oA0, .inl (cI, 60, .inl o_types)), (oA1, .inl (cI, 60, .inl o_names)), (oA2, .inl (cI, 60, .inl o_contents)), (oA3, .inl (cI, 60, .inl o_holders)), (oA4, .inl (cI, 60, .inl o_inners)), (iA, .inr (3, [.ref iA0, .ref iA1, .ref iA2, .int i_count])), (iA0, .inl (cI, 12, .inl i_kinds)), (iA1, .inl (cJ, 96, .inr (.inl i_values))), (iA2, .inl (cI, 96, .inl i_partners))] H → va_D A [(fA, .inr (2, [.ref dA, .ref bA, .ref oA, .ref fA0, .ref fA1])), (fA0, .inl (cI, 30, .inl a.2.2.1)), (fA1, .inl (cI, 30, .inl a.2.2.2)), (dA, .inr (1, [.ref dA0, .ref dA1, .ref dA2, .ref dA3, .ref dA4, .int d_classCount, .int d_propertyCount])), (dA0, .inl (cI, 6, .inl d_parents)), (dA1, .inl (cI, 8, .inl d_owners)), (dA2, .inl (cI, 8, .inl d_letters)), (dA3, .inl (cI, 8, .inl d_sorts)), (dA4, .inl (cI, 8, .inl d_targets)), (bA, .inr (0, [.ref bA0, .int b_count])), (bA0, .inl (cI, 120, .inl b_row)), (oA, .inr (4, [.ref bA, .ref oA0, .ref oA1, .ref oA2, .ref oA3, .ref oA4, .int o_elementCount, .int o_documentCount, .int o_deepest])), (oA0, .inl (cI, 60, .inl o_types)), (oA1, .inl (cI, 60, .inl o_names)), (oA2, .inl (cI, 60, .inl o_contents)), (oA3, .inl (cI, 60, .inl o_holders)), (oA4, .inl (cI, 60, .inl o_inners)), (iA, .inr (3, [.ref iA0, .ref iA1, .ref iA2, .int i_count])), (iA0, .inl (cI, 12, .inl i_kinds)), (iA1, .inl (cJ, 96, .inr (.inl i_values))), (iA2, .inl (cI, 96, .inl i_partners))] → va_S A s.heap H locs → W p l e (rL 5) s m ([.ref fA, .int v1] : List Value).toArray below meth c H locs 0 0 (MQ below (fun _ st oc t => (oc = .returned (some (.int (bI r.1))) ∧ va_P D cs [(fA, .inr (2, [.ref dA, .ref bA, .ref oA, .ref fA0, .ref fA1])), (fA0, .inl (cI, 30, .inl r.2.1)), (fA1, .inl (cI, 30, .inl r.2.2)), (dA, .inr (1, [.ref dA0, .ref dA1, .ref dA2, .ref dA3, .ref dA4, .int d_classCount, .int d_propertyCount])), (dA0, .inl (cI, 6, .inl d_parents)), (dA1, .inl (cI, 8, .inl d_owners)), (dA2, .inl (cI, 8, .inl d_letters)), (dA3, .inl (cI, 8, .inl d_sorts)), (dA4, .inl (cI, 8, .inl d_targets)), (bA, .inr (0, [.ref bA0, .int b_count])), (bA0, .inl (cI, 120, .inl b_row)), (oA, .inr (4, [.ref bA, .ref oA0, .ref oA1, .ref oA2, .ref oA3, .ref oA4, .int o_elementCount, .int o_documentCount, .int o_deepest])), (oA0, .inl (cI, 60, .inl o_types)), (oA1, .inl (cI, 60, .inl o_names)), (oA2, .inl (cI, 60, .inl o_contents)), (oA3, .inl (cI, 60, .inl o_holders)), (oA4, .inl (cI, 60, .inl o_inners)), (iA, .inr (3, [.ref iA0, .ref iA1, .ref iA2, .int i_count])), (iA0, .inl (cI, 12, .inl i_kinds)), (iA1, .inl (cJ, 96, .inr (.inl i_values))), (iA2, .inl (cI, 96, .inl i_partners))] t.heap) ∧ va_F A st t) ([.ref fA, .int v1] : List Value).toArray s 0 0 A) (F0 m 11 ls []) := by
    unfold fF_fits_11l
    refine lp_some ?_
    intro rc11 hrc11 a h
    obtain ⟨v2, v3, f_wanted, f_meant⟩ := a
    intro ls H locs hl hP hD hS
    have h : fF_fits_11 N v1 d_classCount d_propertyCount d_parents d_owners d_letters d_sorts d_targets b_count b_row o_elementCount o_documentCount o_types o_names o_contents o_holders o_inners rc11 v2 v3 f_wanted f_meant = some r := h
    have hl : lv_has ls 4 [(0, .ref fA), (2, .int (bI v2)), (3, .int v3)] := hl
    have hP : va_P D cs [(fA, .inr (2, [.ref dA, .ref bA, .ref oA, .ref fA0, .ref fA1])), (fA0, .inl (cI, 30, .inl f_wanted)), (fA1, .inl (cI, 30, .inl f_meant)), (dA, .inr (1, [.ref dA0, .ref dA1, .ref dA2, .ref dA3, .ref dA4, .int d_classCount, .int d_propertyCount])), (dA0, .inl (cI, 6, .inl d_parents)), (dA1, .inl (cI, 8, .inl d_owners)), (dA2, .inl (cI, 8, .inl d_letters)), (dA3, .inl (cI, 8, .inl d_sorts)), (dA4, .inl (cI, 8, .inl d_targets)), (bA, .inr (0, [.ref bA0, .int b_count])), (bA0, .inl (cI, 120, .inl b_row)), (oA, .inr (4, [.ref bA, .ref oA0, .ref oA1, .ref oA2, .ref oA3, .ref oA4, .int o_elementCount, .int o_documentCount, .int o_deepest])), (oA0, .inl (cI, 60, .inl o_types)), (oA1, .inl (cI, 60, .inl o_names)), (oA2, .inl (cI, 60, .inl o_contents)), (oA3, .inl (cI, 60, .inl o_holders)), (oA4, .inl (cI, 60, .inl o_inners)), (iA, .inr (3, [.ref iA0, .ref iA1, .ref iA2, .int i_count])), (iA0, .inl (cI, 12, .inl i_kinds)), (iA1, .inl (cJ, 96, .inr (.inl i_values))), (iA2, .inl (cI, 96, .inl i_partners))] H := hP
    have hD : va_D A [(fA, .inr (2, [.ref dA, .ref bA, .ref oA, .ref fA0, .ref fA1])), (fA0, .inl (cI, 30, .inl f_wanted)), (fA1, .inl (cI, 30, .inl f_meant)), (dA, .inr (1, [.ref dA0, .ref dA1, .ref dA2, .ref dA3, .ref dA4, .int d_classCount, .int d_propertyCount])), (dA0, .inl (cI, 6, .inl d_parents)), (dA1, .inl (cI, 8, .inl d_owners)), (dA2, .inl (cI, 8, .inl d_letters)), (dA3, .inl (cI, 8, .inl d_sorts)), (dA4, .inl (cI, 8, .inl d_targets)), (bA, .inr (0, [.ref bA0, .int b_count])), (bA0, .inl (cI, 120, .inl b_row)), (oA, .inr (4, [.ref bA, .ref oA0, .ref oA1, .ref oA2, .ref oA3, .ref oA4, .int o_elementCount, .int o_documentCount, .int o_deepest])), (oA0, .inl (cI, 60, .inl o_types)), (oA1, .inl (cI, 60, .inl o_names)), (oA2, .inl (cI, 60, .inl o_contents)), (oA3, .inl (cI, 60, .inl o_holders)), (oA4, .inl (cI, 60, .inl o_inners)), (iA, .inr (3, [.ref iA0, .ref iA1, .ref iA2, .int i_count])), (iA0, .inl (cI, 12, .inl i_kinds)), (iA1, .inl (cJ, 96, .inr (.inl i_values))), (iA2, .inl (cI, 96, .inl i_partners))] := hD
    unfold fF_fits_11 at h
    refine lv_iload_n hx hb dF_fits_11 rfl (lv_at hl 2 rfl) ?_
    refine lv_aload_n hx hb dF_fits_12 rfl (lv_at hl 0 rfl) ?_
    refine gf S hK hP 0 2 2 u_zF w_203 rfl rfl (by decide) rfl dF_fits_13 ?_
    refine gfN S hN hK hP 11 4 7 (host := "PropertyDocuments") u_zO n_12 rfl rfl (by decide) rfl dF_fits_16 ?_
    refine lv_icmp_ge (tgt := 67) hx hb dF_fits_19 (by decide) (fun h19 => ?_) (fun h19 => ?_)
    · have h := g_t h h19
      refine lv_iload_n hx hb dF_fits_67 rfl (lv_at hl 1 rfl) ?_
      cases h
      exact mu_z S hr hlocks hP hS dF_fits_68 rfl rfl
    · have h := g_f h h19
      refine lv_iload_n hx hb dF_fits_22 rfl (lv_at hl 1 rfl) ?_
      refine b_ifeq (tgt := 67) hx hb dF_fits_23 (by decide) (fun h23 => ?_) (fun h23 => ?_)
      · have h := g_f h h23
        refine lv_iload_n hx hb dF_fits_67 rfl (lv_at hl 1 rfl) ?_
        cases h
        exact mu_z S hr hlocks hP hS dF_fits_68 rfl rfl
      · have h := g_t h h23
        refine lv_aload_n hx hb dF_fits_26 rfl (lv_at hl 0 rfl) ?_
        refine gf S hK hP 0 2 4 u_zF w_205 rfl rfl (by decide) rfl dF_fits_27 ?_
        refine lv_iload_n hx hb dF_fits_30 rfl (lv_at hl 2 rfl) ?_
        refine lv_aload_n hx hb dF_fits_31 rfl (lv_at hl 0 rfl) ?_
        refine lv_iload_n hx hb dF_fits_32 rfl (lv_at hl 2 rfl) ?_
        obtain ⟨u33, e33, h⟩ := g_bind h
        refine pu_v S hN hK hP (rest := [.int v3, .ref fA1]) (cF_findMeant l D cI cJ fA fA0 fA1 dA dA0 dA1 dA2 dA3 dA4 bA bA0 oA oA0 oA1 oA2 oA3 oA4 iA iA0 iA1 iA2 N v3 f_wanted f_meant d_classCount d_propertyCount d_parents d_owners d_letters d_sorts d_targets b_count b_row o_elementCount o_documentCount o_deepest o_types o_names o_contents o_holders o_inners i_count i_kinds i_values i_partners u33 e33) k_F_36 [0, 1, 2, 3, 4, 5, 6, 7, 8, 9, 10, 11, 12, 13, 14, 15, 16, 17, 18, 19, 20] rfl 2 rfl rfl ⟨rfl, rfl⟩ ⟨Nat.le_of_ble_eq_true rfl, Nat.le_of_ble_eq_true rfl⟩ rfl hl.1 (Nat.le_of_ble_eq_true rfl) ⟨Nat.le_refl _, Nat.le_refl _⟩ dF_fits_33 rfl ?_
        obtain ⟨b36, h⟩ := g_ok h
        refine va_iast hx hb hK hP hD hS 2 0 rfl rfl b36 dF_fits_36 (fun H locs hP hD hS => ?_)
        have hP : va_P D cs [(fA, .inr (2, [.ref dA, .ref bA, .ref oA, .ref fA0, .ref fA1])), (fA0, .inl (cI, 30, .inl f_wanted)), (fA1, .inl (cI, 30, .inl (upd f_meant v3.toNatClampNeg u33))), (dA, .inr (1, [.ref dA0, .ref dA1, .ref dA2, .ref dA3, .ref dA4, .int d_classCount, .int d_propertyCount])), (dA0, .inl (cI, 6, .inl d_parents)), (dA1, .inl (cI, 8, .inl d_owners)), (dA2, .inl (cI, 8, .inl d_letters)), (dA3, .inl (cI, 8, .inl d_sorts)), (dA4, .inl (cI, 8, .inl d_targets)), (bA, .inr (0, [.ref bA0, .int b_count])), (bA0, .inl (cI, 120, .inl b_row)), (oA, .inr (4, [.ref bA, .ref oA0, .ref oA1, .ref oA2, .ref oA3, .ref oA4, .int o_elementCount, .int o_documentCount, .int o_deepest])), (oA0, .inl (cI, 60, .inl o_types)), (oA1, .inl (cI, 60, .inl o_names)), (oA2, .inl (cI, 60, .inl o_contents)), (oA3, .inl (cI, 60, .inl o_holders)), (oA4, .inl (cI, 60, .inl o_inners)), (iA, .inr (3, [.ref iA0, .ref iA1, .ref iA2, .int i_count])), (iA0, .inl (cI, 12, .inl i_kinds)), (iA1, .inl (cJ, 96, .inr (.inl i_values))), (iA2, .inl (cI, 96, .inl i_partners))] H := hP
        have hD : va_D A [(fA, .inr (2, [.ref dA, .ref bA, .ref oA, .ref fA0, .ref fA1])), (fA0, .inl (cI, 30, .inl f_wanted)), (fA1, .inl (cI, 30, .inl (upd f_meant v3.toNatClampNeg u33))), (dA, .inr (1, [.ref dA0, .ref dA1, .ref dA2, .ref dA3, .ref dA4, .int d_classCount, .int d_propertyCount])), (dA0, .inl (cI, 6, .inl d_parents)), (dA1, .inl (cI, 8, .inl d_owners)), (dA2, .inl (cI, 8, .inl d_letters)), (dA3, .inl (cI, 8, .inl d_sorts)), (dA4, .inl (cI, 8, .inl d_targets)), (bA, .inr (0, [.ref bA0, .int b_count])), (bA0, .inl (cI, 120, .inl b_row)), (oA, .inr (4, [.ref bA, .ref oA0, .ref oA1, .ref oA2, .ref oA3, .ref oA4, .int o_elementCount, .int o_documentCount, .int o_deepest])), (oA0, .inl (cI, 60, .inl o_types)), (oA1, .inl (cI, 60, .inl o_names)), (oA2, .inl (cI, 60, .inl o_contents)), (oA3, .inl (cI, 60, .inl o_holders)), (oA4, .inl (cI, 60, .inl o_inners)), (iA, .inr (3, [.ref iA0, .ref iA1, .ref iA2, .int i_count])), (iA0, .inl (cI, 12, .inl i_kinds)), (iA1, .inl (cJ, 96, .inr (.inl i_values))), (iA2, .inl (cI, 96, .inl i_partners))] := hD
        refine lv_aload_n hx hb dF_fits_37 rfl (lv_at hl 0 rfl) ?_
        refine gf S hK hP 0 2 4 u_zF w_205 rfl rfl (by decide) rfl dF_fits_38 ?_
        refine lv_iload_n hx hb dF_fits_41 rfl (lv_at hl 2 rfl) ?_
        obtain ⟨b42, h⟩ := g_ok h
        refine va_iald hx hb hK hP 2 0 rfl rfl b42 dF_fits_42 ?_
        refine lv_iconst (v := (-1 : Int32)) hx hb dF_fits_43 (by decide) ?_
        refine lv_icmp_eq (tgt := 59) hx hb dF_fits_44 (by decide) (fun h44 => ?_) (fun h44 => ?_)
        · have h := g_t h h44
          refine lv_iconst (v := (0 : Int32)) hx hb dF_fits_59 (by decide) ?_
          refine lv_istore_n (lv' := [(2, .int (bI false)), (0, .ref fA), (3, .int v3)]) hx hb dF_fits_60 rfl hl (Nat.le_of_ble_eq_true rfl) rfl (fun ls hl => ?_)
          refine lv_iinc (k := 2) (v := v3 + (1 : Int32)) (lv' := [(3, .int (v3 + (1 : Int32))), (2, .int (bI false)), (0, .ref fA)]) hx hb dF_fits_61 hl rfl (congrArg (v3 + ·) (by decide : Int32.ofInt (1) = (1 : Int32))) (Nat.le_of_ble_eq_true rfl) rfl (fun ls hl => ?_)
          refine lv_goto (tgt := 11) hx hb dF_fits_64 (by decide) ?_
          exact hrc11 (false, v3 + (1 : Int32), f_wanted, upd f_meant v3.toNatClampNeg u33) h _ _ _ (lv_sub hl [2, 1, 0] rfl) hP hD hS
        · have h := g_f h h44
          refine lv_aload_n hx hb dF_fits_47 rfl (lv_at hl 0 rfl) ?_
          refine lv_iload_n hx hb dF_fits_48 rfl (lv_at hl 2 rfl) ?_
          obtain ⟨u49, e49, h⟩ := g_bind h
          refine mu_v S hN hK hP hD hS hA (rest := []) (cF_elementsFit l D cI cJ fA fA0 fA1 dA dA0 dA1 dA2 dA3 dA4 bA bA0 oA oA0 oA1 oA2 oA3 oA4 iA iA0 iA1 iA2 N v3 f_wanted (upd f_meant v3.toNatClampNeg u33) d_classCount d_propertyCount d_parents d_owners d_letters d_sorts d_targets b_count b_row o_elementCount o_documentCount o_deepest o_types o_names o_contents o_holders o_inners i_count i_kinds i_values i_partners u49 e49) k_F_40 [0, 1, 2, 3, 4, 5, 6, 7, 8, 9, 10, 11, 12, 13, 14, 15, 16, 17, 18, 19, 20] [(some 0), (some 1), (some 2), (some 3), (some 4), (some 5), (some 6), (some 7), (some 8), (some 9), (some 10), (some 11), (some 12), (some 13), (some 14), (some 15), (some 16), (some 17), (some 18), (some 19), (some 20)] [(fA, .inr (2, [.ref dA, .ref bA, .ref oA, .ref fA0, .ref fA1])), (fA0, .inl (cI, 30, .inl u49.2)), (fA1, .inl (cI, 30, .inl (upd f_meant v3.toNatClampNeg u33))), (dA, .inr (1, [.ref dA0, .ref dA1, .ref dA2, .ref dA3, .ref dA4, .int d_classCount, .int d_propertyCount])), (dA0, .inl (cI, 6, .inl d_parents)), (dA1, .inl (cI, 8, .inl d_owners)), (dA2, .inl (cI, 8, .inl d_letters)), (dA3, .inl (cI, 8, .inl d_sorts)), (dA4, .inl (cI, 8, .inl d_targets)), (bA, .inr (0, [.ref bA0, .int b_count])), (bA0, .inl (cI, 120, .inl b_row)), (oA, .inr (4, [.ref bA, .ref oA0, .ref oA1, .ref oA2, .ref oA3, .ref oA4, .int o_elementCount, .int o_documentCount, .int o_deepest])), (oA0, .inl (cI, 60, .inl o_types)), (oA1, .inl (cI, 60, .inl o_names)), (oA2, .inl (cI, 60, .inl o_contents)), (oA3, .inl (cI, 60, .inl o_holders)), (oA4, .inl (cI, 60, .inl o_inners)), (iA, .inr (3, [.ref iA0, .ref iA1, .ref iA2, .int i_count])), (iA0, .inl (cI, 12, .inl i_kinds)), (iA1, .inl (cJ, 96, .inr (.inl i_values))), (iA2, .inl (cI, 96, .inl i_partners))] rfl rfl rfl ⟨rfl, rfl, rfl, rfl, rfl, rfl, rfl, rfl, rfl, rfl, rfl, rfl, rfl, rfl, rfl, rfl, rfl, rfl, rfl, rfl, rfl, trivial⟩ (by decide +kernel) 2 rfl rfl ⟨rfl, rfl⟩ ⟨Nat.le_of_ble_eq_true rfl, Nat.le_of_ble_eq_true rfl⟩ rfl hl.1 (Nat.le_of_ble_eq_true rfl) ⟨Nat.le_refl _, Nat.le_refl _⟩ dF_fits_49 rfl (fun H locs hP hD hS => ?_)
          refine b_ifeq (tgt := 59) hx hb dF_fits_52 (by decide) (fun h52 => ?_) (fun h52 => ?_)
          · have h := g_f h h52
            refine lv_iconst (v := (0 : Int32)) hx hb dF_fits_59 (by decide) ?_
            refine lv_istore_n (lv' := [(2, .int (bI false)), (0, .ref fA), (3, .int v3)]) hx hb dF_fits_60 rfl hl (Nat.le_of_ble_eq_true rfl) rfl (fun ls hl => ?_)
            refine lv_iinc (k := 2) (v := v3 + (1 : Int32)) (lv' := [(3, .int (v3 + (1 : Int32))), (2, .int (bI false)), (0, .ref fA)]) hx hb dF_fits_61 hl rfl (congrArg (v3 + ·) (by decide : Int32.ofInt (1) = (1 : Int32))) (Nat.le_of_ble_eq_true rfl) rfl (fun ls hl => ?_)
            refine lv_goto (tgt := 11) hx hb dF_fits_64 (by decide) ?_
            exact hrc11 (false, v3 + (1 : Int32), u49.2, upd f_meant v3.toNatClampNeg u33) h _ _ _ (lv_sub hl [2, 1, 0] rfl) hP hD hS
          · have h := g_t h h52
            refine lv_iconst (v := (1 : Int32)) hx hb dF_fits_55 (by decide) ?_
            refine lv_goto (tgt := 60) hx hb dF_fits_56 (by decide) ?_
            refine lv_istore_n (lv' := [(2, .int (bI true)), (0, .ref fA), (3, .int v3)]) hx hb dF_fits_60 rfl hl (Nat.le_of_ble_eq_true rfl) rfl (fun ls hl => ?_)
            refine lv_iinc (k := 2) (v := v3 + (1 : Int32)) (lv' := [(3, .int (v3 + (1 : Int32))), (2, .int (bI true)), (0, .ref fA)]) hx hb dF_fits_61 hl rfl (congrArg (v3 + ·) (by decide : Int32.ofInt (1) = (1 : Int32))) (Nat.le_of_ble_eq_true rfl) rfl (fun ls hl => ?_)
            refine lv_goto (tgt := 11) hx hb dF_fits_64 (by decide) ?_
            exact hrc11 (true, v3 + (1 : Int32), u49.2, upd f_meant v3.toNatClampNeg u33) h _ _ _ (lv_sub hl [2, 1, 0] rfl) hP hD hS
  refine lv_aload_n hx hb dF_fits_0 rfl (lv_at hl 0 rfl) ?_
  refine gf S hK hP 0 2 3 u_zF w_204 rfl rfl (by decide) rfl dF_fits_1 ?_
  refine lv_iconst (v := (0 : Int32)) hx hb dF_fits_4 (by decide) ?_
  refine lv_iload_n hx hb dF_fits_5 rfl (lv_at hl 1 rfl) ?_
  obtain ⟨b6, h⟩ := g_ok h
  refine va_iast hx hb hK hP hD hS 1 0 rfl rfl b6 dF_fits_6 (fun H locs hP hD hS => ?_)
  have hP : va_P D cs [(fA, .inr (2, [.ref dA, .ref bA, .ref oA, .ref fA0, .ref fA1])), (fA0, .inl (cI, 30, .inl (upd f_wanted (0 : Int32).toNatClampNeg v1))), (fA1, .inl (cI, 30, .inl f_meant)), (dA, .inr (1, [.ref dA0, .ref dA1, .ref dA2, .ref dA3, .ref dA4, .int d_classCount, .int d_propertyCount])), (dA0, .inl (cI, 6, .inl d_parents)), (dA1, .inl (cI, 8, .inl d_owners)), (dA2, .inl (cI, 8, .inl d_letters)), (dA3, .inl (cI, 8, .inl d_sorts)), (dA4, .inl (cI, 8, .inl d_targets)), (bA, .inr (0, [.ref bA0, .int b_count])), (bA0, .inl (cI, 120, .inl b_row)), (oA, .inr (4, [.ref bA, .ref oA0, .ref oA1, .ref oA2, .ref oA3, .ref oA4, .int o_elementCount, .int o_documentCount, .int o_deepest])), (oA0, .inl (cI, 60, .inl o_types)), (oA1, .inl (cI, 60, .inl o_names)), (oA2, .inl (cI, 60, .inl o_contents)), (oA3, .inl (cI, 60, .inl o_holders)), (oA4, .inl (cI, 60, .inl o_inners)), (iA, .inr (3, [.ref iA0, .ref iA1, .ref iA2, .int i_count])), (iA0, .inl (cI, 12, .inl i_kinds)), (iA1, .inl (cJ, 96, .inr (.inl i_values))), (iA2, .inl (cI, 96, .inl i_partners))] H := hP
  have hD : va_D A [(fA, .inr (2, [.ref dA, .ref bA, .ref oA, .ref fA0, .ref fA1])), (fA0, .inl (cI, 30, .inl (upd f_wanted (0 : Int32).toNatClampNeg v1))), (fA1, .inl (cI, 30, .inl f_meant)), (dA, .inr (1, [.ref dA0, .ref dA1, .ref dA2, .ref dA3, .ref dA4, .int d_classCount, .int d_propertyCount])), (dA0, .inl (cI, 6, .inl d_parents)), (dA1, .inl (cI, 8, .inl d_owners)), (dA2, .inl (cI, 8, .inl d_letters)), (dA3, .inl (cI, 8, .inl d_sorts)), (dA4, .inl (cI, 8, .inl d_targets)), (bA, .inr (0, [.ref bA0, .int b_count])), (bA0, .inl (cI, 120, .inl b_row)), (oA, .inr (4, [.ref bA, .ref oA0, .ref oA1, .ref oA2, .ref oA3, .ref oA4, .int o_elementCount, .int o_documentCount, .int o_deepest])), (oA0, .inl (cI, 60, .inl o_types)), (oA1, .inl (cI, 60, .inl o_names)), (oA2, .inl (cI, 60, .inl o_contents)), (oA3, .inl (cI, 60, .inl o_holders)), (oA4, .inl (cI, 60, .inl o_inners)), (iA, .inr (3, [.ref iA0, .ref iA1, .ref iA2, .int i_count])), (iA0, .inl (cI, 12, .inl i_kinds)), (iA1, .inl (cJ, 96, .inr (.inl i_values))), (iA2, .inl (cI, 96, .inl i_partners))] := hD
  refine lv_iconst (v := (1 : Int32)) hx hb dF_fits_7 (by decide) ?_
  refine lv_istore_n (lv' := [(2, .int (bI true)), (0, .ref fA), (1, .int v1)]) hx hb dF_fits_8 rfl hl (Nat.le_of_ble_eq_true rfl) rfl (fun ls hl => ?_)
  refine lv_iconst (v := (0 : Int32)) hx hb dF_fits_9 (by decide) ?_
  refine lv_istore_n (lv' := [(3, .int (0 : Int32)), (2, .int (bI true)), (0, .ref fA), (1, .int v1)]) hx hb dF_fits_10 rfl hl (Nat.le_of_ble_eq_true rfl) rfl (fun ls hl => ?_)
  exact t11 N (true, (0 : Int32), upd f_wanted (0 : Int32).toNatClampNeg v1, f_meant) h _ _ _ (lv_sub hl [2, 1, 0] rfl) hP hD hS
