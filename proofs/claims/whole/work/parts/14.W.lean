/-! contracts, laid by wip/gen/parts.py -/
def fW_writeMark (N : Nat) (v1 : Int32) (w_count : Int32) (w_row : (Nat → Int32)) : Option (Bool × Int32 × (Nat → Int32)) :=
  (fB_add (2 : Int32) w_count w_row).bind fun u5 => (if u5.1 = true then ((fB_add (95 : Int32) u5.2.1 u5.2.2).bind fun u17 => (if u17.1 = true then ((fB_add (116 : Int32) u17.2.1 u17.2.2).bind fun u29 => (if u29.1 = true then ((fB_add (0 : Int32) u29.2.1 u29.2.2).bind fun u40 => (if u40.1 = true then ((fB_addNumber N (2 : Int64) (4 : Int32) u40.2.1 u40.2.2).bind fun u54 => (if u54.1 = true then ((fB_add ((65 : Int32) + v1) u54.2.1 u54.2.2).bind fun u68 => (if u68.1 = true then ((fB_add (0 : Int32) u68.2.1 u68.2.2).bind fun u79 => (if u79.1 = true then (some (true, u79.2.1, u79.2.2)) else (some (false, u79.2.1, u79.2.2)))) else (some (false, u68.2.1, u68.2.2)))) else (some (false, u54.2.1, u54.2.2)))) else (some (false, u40.2.1, u40.2.2)))) else (some (false, u29.2.1, u29.2.2)))) else (some (false, u17.2.1, u17.2.2)))) else (some (false, u5.2.1, u5.2.2)))
set_option maxHeartbeats 4000000 in
set_option maxRecDepth 100000 in
theorem cW_writeMark (l : Launch) (D : va_G) (cI cJ : ClassId) (xA dA dA0 dA1 dA2 dA3 dA4 iA iA0 iA1 iA2 wA wA0 : Nat) (N : Nat) (v1 : Int32) (d_classCount : Int32) (d_propertyCount : Int32) (d_parents : (Nat → Int32)) (d_owners : (Nat → Int32)) (d_letters : (Nat → Int32)) (d_sorts : (Nat → Int32)) (d_targets : (Nat → Int32)) (i_count : Int32) (i_kinds : (Nat → Int32)) (i_values : (Nat → Int64)) (i_partners : (Nat → Int32)) (w_count : Int32) (w_row : (Nat → Int32)) (r : Bool × Int32 × (Nat → Int32)) (h : fW_writeMark N v1 w_count w_row = some r) : Mu l yW_writeMark bW_writeMark 2 (some .boolean) (rL 2) [.ref xA, .int v1] D cI cJ [(xA, .inr (5, [.ref dA, .ref iA, .ref wA])), (dA, .inr (1, [.ref dA0, .ref dA1, .ref dA2, .ref dA3, .ref dA4, .int d_classCount, .int d_propertyCount])), (dA0, .inl (cI, 6, .inl d_parents)), (dA1, .inl (cI, 8, .inl d_owners)), (dA2, .inl (cI, 8, .inl d_letters)), (dA3, .inl (cI, 8, .inl d_sorts)), (dA4, .inl (cI, 8, .inl d_targets)), (iA, .inr (3, [.ref iA0, .ref iA1, .ref iA2, .int i_count])), (iA0, .inl (cI, 12, .inl i_kinds)), (iA1, .inl (cJ, 96, .inr (.inl i_values))), (iA2, .inl (cI, 96, .inl i_partners)), (wA, .inr (0, [.ref wA0, .int w_count])), (wA0, .inl (cI, 120, .inl w_row))] (some (.int (bI r.1))) [(xA, .inr (5, [.ref dA, .ref iA, .ref wA])), (dA, .inr (1, [.ref dA0, .ref dA1, .ref dA2, .ref dA3, .ref dA4, .int d_classCount, .int d_propertyCount])), (dA0, .inl (cI, 6, .inl d_parents)), (dA1, .inl (cI, 8, .inl d_owners)), (dA2, .inl (cI, 8, .inl d_letters)), (dA3, .inl (cI, 8, .inl d_sorts)), (dA4, .inl (cI, 8, .inl d_targets)), (iA, .inr (3, [.ref iA0, .ref iA1, .ref iA2, .int i_count])), (iA0, .inl (cI, 12, .inl i_kinds)), (iA1, .inl (cJ, 96, .inr (.inl i_values))), (iA2, .inl (cI, 96, .inl i_partners)), (wA, .inr (0, [.ref wA0, .int r.2.1])), (wA0, .inl (cI, 120, .inl r.2.2))] := by
  refine mu_of (by decide) (Nat.le_of_ble_eq_true rfl) ?_
  intro p e s m below meth c ls A S hr hlocks hN hK hP hD hA hl
  have hS : va_S A s.heap s.heap [] := va_S.rf
  have hx := S.1
  have hb := S.2.1
  have hl : lv_has ls 2 [(0, .ref xA), (1, .int v1)] := hl
  unfold fW_writeMark at h
  refine lv_aload_n hx hb dW_writeMark_0 rfl (lv_at hl 0 rfl) ?_
  refine gf S hK hP 0 5 2 u_zW w_147 rfl rfl (by decide) rfl dW_writeMark_1 ?_
  refine lv_iconst (v := (2 : Int32)) hx hb dW_writeMark_4 (by decide) ?_
  obtain ⟨u5, e5, h⟩ := g_bind h
  refine mu_v S hN hK hP hD hS hA (rest := []) (cB_add l D cI cJ wA wA0 (2 : Int32) w_count w_row u5 e5) k_W_57 [11, 12] [none, none, none, none, none, none, none, none, none, none, none, (some 0), (some 1)] [(xA, .inr (5, [.ref dA, .ref iA, .ref wA])), (dA, .inr (1, [.ref dA0, .ref dA1, .ref dA2, .ref dA3, .ref dA4, .int d_classCount, .int d_propertyCount])), (dA0, .inl (cI, 6, .inl d_parents)), (dA1, .inl (cI, 8, .inl d_owners)), (dA2, .inl (cI, 8, .inl d_letters)), (dA3, .inl (cI, 8, .inl d_sorts)), (dA4, .inl (cI, 8, .inl d_targets)), (iA, .inr (3, [.ref iA0, .ref iA1, .ref iA2, .int i_count])), (iA0, .inl (cI, 12, .inl i_kinds)), (iA1, .inl (cJ, 96, .inr (.inl i_values))), (iA2, .inl (cI, 96, .inl i_partners)), (wA, .inr (0, [.ref wA0, .int u5.2.1])), (wA0, .inl (cI, 120, .inl u5.2.2))] rfl rfl rfl ⟨rfl, rfl, rfl, rfl, rfl, rfl, rfl, rfl, rfl, rfl, rfl, rfl, rfl, trivial⟩ (by decide +kernel) 0 rfl rfl ⟨rfl, rfl⟩ ⟨Nat.le_of_ble_eq_true rfl, Nat.le_of_ble_eq_true rfl⟩ rfl hl.1 (Nat.le_of_ble_eq_true rfl) ⟨Nat.le_refl _, Nat.le_refl _⟩ dW_writeMark_5 rfl (fun H locs hP hD hS => ?_)
  refine b_ifeq (tgt := 89) hx hb dW_writeMark_8 (by decide) (fun h8 => ?_) (fun h8 => ?_)
  · have h := g_f h h8
    refine lv_iconst (v := (0 : Int32)) hx hb dW_writeMark_89 (by decide) ?_
    cases h
    exact mu_z S hr hlocks hP hS dW_writeMark_90 rfl rfl
  · have h := g_t h h8
    refine lv_aload_n hx hb dW_writeMark_11 rfl (lv_at hl 0 rfl) ?_
    refine gf S hK hP 0 5 2 u_zW w_147 rfl rfl (by decide) rfl dW_writeMark_12 ?_
    refine lv_bipush (v := (95 : Int32)) hx hb dW_writeMark_15 (by decide) ?_
    obtain ⟨u17, e17, h⟩ := g_bind h
    refine mu_v S hN hK hP hD hS hA (rest := []) (cB_add l D cI cJ wA wA0 (95 : Int32) u5.2.1 u5.2.2 u17 e17) k_W_57 [11, 12] [none, none, none, none, none, none, none, none, none, none, none, (some 0), (some 1)] [(xA, .inr (5, [.ref dA, .ref iA, .ref wA])), (dA, .inr (1, [.ref dA0, .ref dA1, .ref dA2, .ref dA3, .ref dA4, .int d_classCount, .int d_propertyCount])), (dA0, .inl (cI, 6, .inl d_parents)), (dA1, .inl (cI, 8, .inl d_owners)), (dA2, .inl (cI, 8, .inl d_letters)), (dA3, .inl (cI, 8, .inl d_sorts)), (dA4, .inl (cI, 8, .inl d_targets)), (iA, .inr (3, [.ref iA0, .ref iA1, .ref iA2, .int i_count])), (iA0, .inl (cI, 12, .inl i_kinds)), (iA1, .inl (cJ, 96, .inr (.inl i_values))), (iA2, .inl (cI, 96, .inl i_partners)), (wA, .inr (0, [.ref wA0, .int u17.2.1])), (wA0, .inl (cI, 120, .inl u17.2.2))] rfl rfl rfl ⟨rfl, rfl, rfl, rfl, rfl, rfl, rfl, rfl, rfl, rfl, rfl, rfl, rfl, trivial⟩ (by decide +kernel) 0 rfl rfl ⟨rfl, rfl⟩ ⟨Nat.le_of_ble_eq_true rfl, Nat.le_of_ble_eq_true rfl⟩ rfl hl.1 (Nat.le_of_ble_eq_true rfl) ⟨Nat.le_refl _, Nat.le_refl _⟩ dW_writeMark_17 rfl (fun H locs hP hD hS => ?_)
    refine b_ifeq (tgt := 89) hx hb dW_writeMark_20 (by decide) (fun h20 => ?_) (fun h20 => ?_)
    · have h := g_f h h20
      refine lv_iconst (v := (0 : Int32)) hx hb dW_writeMark_89 (by decide) ?_
      cases h
      exact mu_z S hr hlocks hP hS dW_writeMark_90 rfl rfl
    · have h := g_t h h20
      refine lv_aload_n hx hb dW_writeMark_23 rfl (lv_at hl 0 rfl) ?_
      refine gf S hK hP 0 5 2 u_zW w_147 rfl rfl (by decide) rfl dW_writeMark_24 ?_
      refine lv_bipush (v := (116 : Int32)) hx hb dW_writeMark_27 (by decide) ?_
      obtain ⟨u29, e29, h⟩ := g_bind h
      refine mu_v S hN hK hP hD hS hA (rest := []) (cB_add l D cI cJ wA wA0 (116 : Int32) u17.2.1 u17.2.2 u29 e29) k_W_57 [11, 12] [none, none, none, none, none, none, none, none, none, none, none, (some 0), (some 1)] [(xA, .inr (5, [.ref dA, .ref iA, .ref wA])), (dA, .inr (1, [.ref dA0, .ref dA1, .ref dA2, .ref dA3, .ref dA4, .int d_classCount, .int d_propertyCount])), (dA0, .inl (cI, 6, .inl d_parents)), (dA1, .inl (cI, 8, .inl d_owners)), (dA2, .inl (cI, 8, .inl d_letters)), (dA3, .inl (cI, 8, .inl d_sorts)), (dA4, .inl (cI, 8, .inl d_targets)), (iA, .inr (3, [.ref iA0, .ref iA1, .ref iA2, .int i_count])), (iA0, .inl (cI, 12, .inl i_kinds)), (iA1, .inl (cJ, 96, .inr (.inl i_values))), (iA2, .inl (cI, 96, .inl i_partners)), (wA, .inr (0, [.ref wA0, .int u29.2.1])), (wA0, .inl (cI, 120, .inl u29.2.2))] rfl rfl rfl ⟨rfl, rfl, rfl, rfl, rfl, rfl, rfl, rfl, rfl, rfl, rfl, rfl, rfl, trivial⟩ (by decide +kernel) 0 rfl rfl ⟨rfl, rfl⟩ ⟨Nat.le_of_ble_eq_true rfl, Nat.le_of_ble_eq_true rfl⟩ rfl hl.1 (Nat.le_of_ble_eq_true rfl) ⟨Nat.le_refl _, Nat.le_refl _⟩ dW_writeMark_29 rfl (fun H locs hP hD hS => ?_)
      refine b_ifeq (tgt := 89) hx hb dW_writeMark_32 (by decide) (fun h32 => ?_) (fun h32 => ?_)
      · have h := g_f h h32
        refine lv_iconst (v := (0 : Int32)) hx hb dW_writeMark_89 (by decide) ?_
        cases h
        exact mu_z S hr hlocks hP hS dW_writeMark_90 rfl rfl
      · have h := g_t h h32
        refine lv_aload_n hx hb dW_writeMark_35 rfl (lv_at hl 0 rfl) ?_
        refine gf S hK hP 0 5 2 u_zW w_147 rfl rfl (by decide) rfl dW_writeMark_36 ?_
        refine lv_iconst (v := (0 : Int32)) hx hb dW_writeMark_39 (by decide) ?_
        obtain ⟨u40, e40, h⟩ := g_bind h
        refine mu_v S hN hK hP hD hS hA (rest := []) (cB_add l D cI cJ wA wA0 (0 : Int32) u29.2.1 u29.2.2 u40 e40) k_W_57 [11, 12] [none, none, none, none, none, none, none, none, none, none, none, (some 0), (some 1)] [(xA, .inr (5, [.ref dA, .ref iA, .ref wA])), (dA, .inr (1, [.ref dA0, .ref dA1, .ref dA2, .ref dA3, .ref dA4, .int d_classCount, .int d_propertyCount])), (dA0, .inl (cI, 6, .inl d_parents)), (dA1, .inl (cI, 8, .inl d_owners)), (dA2, .inl (cI, 8, .inl d_letters)), (dA3, .inl (cI, 8, .inl d_sorts)), (dA4, .inl (cI, 8, .inl d_targets)), (iA, .inr (3, [.ref iA0, .ref iA1, .ref iA2, .int i_count])), (iA0, .inl (cI, 12, .inl i_kinds)), (iA1, .inl (cJ, 96, .inr (.inl i_values))), (iA2, .inl (cI, 96, .inl i_partners)), (wA, .inr (0, [.ref wA0, .int u40.2.1])), (wA0, .inl (cI, 120, .inl u40.2.2))] rfl rfl rfl ⟨rfl, rfl, rfl, rfl, rfl, rfl, rfl, rfl, rfl, rfl, rfl, rfl, rfl, trivial⟩ (by decide +kernel) 0 rfl rfl ⟨rfl, rfl⟩ ⟨Nat.le_of_ble_eq_true rfl, Nat.le_of_ble_eq_true rfl⟩ rfl hl.1 (Nat.le_of_ble_eq_true rfl) ⟨Nat.le_refl _, Nat.le_refl _⟩ dW_writeMark_40 rfl (fun H locs hP hD hS => ?_)
        refine b_ifeq (tgt := 89) hx hb dW_writeMark_43 (by decide) (fun h43 => ?_) (fun h43 => ?_)
        · have h := g_f h h43
          refine lv_iconst (v := (0 : Int32)) hx hb dW_writeMark_89 (by decide) ?_
          cases h
          exact mu_z S hr hlocks hP hS dW_writeMark_90 rfl rfl
        · have h := g_t h h43
          refine lv_aload_n hx hb dW_writeMark_46 rfl (lv_at hl 0 rfl) ?_
          refine gf S hK hP 0 5 2 u_zW w_147 rfl rfl (by decide) rfl dW_writeMark_47 ?_
          refine lv_ldc2 hx hb S.2.2.2.1 (S.2.2.2.2 _ w_394) dW_writeMark_50 ?_
          refine lv_iconst (v := (4 : Int32)) hx hb dW_writeMark_53 (by decide) ?_
          obtain ⟨u54, e54, h⟩ := g_bind h
          refine mu_v S hN hK hP hD hS hA (rest := []) (cB_addNumber l D cI cJ wA wA0 N (2 : Int64) (4 : Int32) u40.2.1 u40.2.2 u54 e54) k_W_40 [11, 12] [none, none, none, none, none, none, none, none, none, none, none, (some 0), (some 1)] [(xA, .inr (5, [.ref dA, .ref iA, .ref wA])), (dA, .inr (1, [.ref dA0, .ref dA1, .ref dA2, .ref dA3, .ref dA4, .int d_classCount, .int d_propertyCount])), (dA0, .inl (cI, 6, .inl d_parents)), (dA1, .inl (cI, 8, .inl d_owners)), (dA2, .inl (cI, 8, .inl d_letters)), (dA3, .inl (cI, 8, .inl d_sorts)), (dA4, .inl (cI, 8, .inl d_targets)), (iA, .inr (3, [.ref iA0, .ref iA1, .ref iA2, .int i_count])), (iA0, .inl (cI, 12, .inl i_kinds)), (iA1, .inl (cJ, 96, .inr (.inl i_values))), (iA2, .inl (cI, 96, .inl i_partners)), (wA, .inr (0, [.ref wA0, .int u54.2.1])), (wA0, .inl (cI, 120, .inl u54.2.2))] rfl rfl rfl ⟨rfl, rfl, rfl, rfl, rfl, rfl, rfl, rfl, rfl, rfl, rfl, rfl, rfl, trivial⟩ (by decide +kernel) 0 rfl rfl ⟨rfl, rfl⟩ ⟨Nat.le_of_ble_eq_true rfl, Nat.le_of_ble_eq_true rfl⟩ rfl hl.1 (Nat.le_of_ble_eq_true rfl) ⟨Nat.le_refl _, Nat.le_refl _⟩ dW_writeMark_54 rfl (fun H locs hP hD hS => ?_)
          refine b_ifeq (tgt := 89) hx hb dW_writeMark_57 (by decide) (fun h57 => ?_) (fun h57 => ?_)
          · have h := g_f h h57
            refine lv_iconst (v := (0 : Int32)) hx hb dW_writeMark_89 (by decide) ?_
            cases h
            exact mu_z S hr hlocks hP hS dW_writeMark_90 rfl rfl
          · have h := g_t h h57
            refine lv_aload_n hx hb dW_writeMark_60 rfl (lv_at hl 0 rfl) ?_
            refine gf S hK hP 0 5 2 u_zW w_147 rfl rfl (by decide) rfl dW_writeMark_61 ?_
            refine lv_bipush (v := (65 : Int32)) hx hb dW_writeMark_64 (by decide) ?_
            refine lv_iload_n hx hb dW_writeMark_66 rfl (lv_at hl 1 rfl) ?_
            refine lv_iadd hx hb dW_writeMark_67 ?_
            obtain ⟨u68, e68, h⟩ := g_bind h
            refine mu_v S hN hK hP hD hS hA (rest := []) (cB_add l D cI cJ wA wA0 ((65 : Int32) + v1) u54.2.1 u54.2.2 u68 e68) k_W_57 [11, 12] [none, none, none, none, none, none, none, none, none, none, none, (some 0), (some 1)] [(xA, .inr (5, [.ref dA, .ref iA, .ref wA])), (dA, .inr (1, [.ref dA0, .ref dA1, .ref dA2, .ref dA3, .ref dA4, .int d_classCount, .int d_propertyCount])), (dA0, .inl (cI, 6, .inl d_parents)), (dA1, .inl (cI, 8, .inl d_owners)), (dA2, .inl (cI, 8, .inl d_letters)), (dA3, .inl (cI, 8, .inl d_sorts)), (dA4, .inl (cI, 8, .inl d_targets)), (iA, .inr (3, [.ref iA0, .ref iA1, .ref iA2, .int i_count])), (iA0, .inl (cI, 12, .inl i_kinds)), (iA1, .inl (cJ, 96, .inr (.inl i_values))), (iA2, .inl (cI, 96, .inl i_partners)), (wA, .inr (0, [.ref wA0, .int u68.2.1])), (wA0, .inl (cI, 120, .inl u68.2.2))] rfl rfl rfl ⟨rfl, rfl, rfl, rfl, rfl, rfl, rfl, rfl, rfl, rfl, rfl, rfl, rfl, trivial⟩ (by decide +kernel) 0 rfl rfl ⟨rfl, rfl⟩ ⟨Nat.le_of_ble_eq_true rfl, Nat.le_of_ble_eq_true rfl⟩ rfl hl.1 (Nat.le_of_ble_eq_true rfl) ⟨Nat.le_refl _, Nat.le_refl _⟩ dW_writeMark_68 rfl (fun H locs hP hD hS => ?_)
            refine b_ifeq (tgt := 89) hx hb dW_writeMark_71 (by decide) (fun h71 => ?_) (fun h71 => ?_)
            · have h := g_f h h71
              refine lv_iconst (v := (0 : Int32)) hx hb dW_writeMark_89 (by decide) ?_
              cases h
              exact mu_z S hr hlocks hP hS dW_writeMark_90 rfl rfl
            · have h := g_t h h71
              refine lv_aload_n hx hb dW_writeMark_74 rfl (lv_at hl 0 rfl) ?_
              refine gf S hK hP 0 5 2 u_zW w_147 rfl rfl (by decide) rfl dW_writeMark_75 ?_
              refine lv_iconst (v := (0 : Int32)) hx hb dW_writeMark_78 (by decide) ?_
              obtain ⟨u79, e79, h⟩ := g_bind h
              refine mu_v S hN hK hP hD hS hA (rest := []) (cB_add l D cI cJ wA wA0 (0 : Int32) u68.2.1 u68.2.2 u79 e79) k_W_57 [11, 12] [none, none, none, none, none, none, none, none, none, none, none, (some 0), (some 1)] [(xA, .inr (5, [.ref dA, .ref iA, .ref wA])), (dA, .inr (1, [.ref dA0, .ref dA1, .ref dA2, .ref dA3, .ref dA4, .int d_classCount, .int d_propertyCount])), (dA0, .inl (cI, 6, .inl d_parents)), (dA1, .inl (cI, 8, .inl d_owners)), (dA2, .inl (cI, 8, .inl d_letters)), (dA3, .inl (cI, 8, .inl d_sorts)), (dA4, .inl (cI, 8, .inl d_targets)), (iA, .inr (3, [.ref iA0, .ref iA1, .ref iA2, .int i_count])), (iA0, .inl (cI, 12, .inl i_kinds)), (iA1, .inl (cJ, 96, .inr (.inl i_values))), (iA2, .inl (cI, 96, .inl i_partners)), (wA, .inr (0, [.ref wA0, .int u79.2.1])), (wA0, .inl (cI, 120, .inl u79.2.2))] rfl rfl rfl ⟨rfl, rfl, rfl, rfl, rfl, rfl, rfl, rfl, rfl, rfl, rfl, rfl, rfl, trivial⟩ (by decide +kernel) 0 rfl rfl ⟨rfl, rfl⟩ ⟨Nat.le_of_ble_eq_true rfl, Nat.le_of_ble_eq_true rfl⟩ rfl hl.1 (Nat.le_of_ble_eq_true rfl) ⟨Nat.le_refl _, Nat.le_refl _⟩ dW_writeMark_79 rfl (fun H locs hP hD hS => ?_)
              refine b_ifeq (tgt := 89) hx hb dW_writeMark_82 (by decide) (fun h82 => ?_) (fun h82 => ?_)
              · have h := g_f h h82
                refine lv_iconst (v := (0 : Int32)) hx hb dW_writeMark_89 (by decide) ?_
                cases h
                exact mu_z S hr hlocks hP hS dW_writeMark_90 rfl rfl
              · have h := g_t h h82
                refine lv_iconst (v := (1 : Int32)) hx hb dW_writeMark_85 (by decide) ?_
                refine lv_goto (tgt := 90) hx hb dW_writeMark_86 (by decide) ?_
                cases h
                exact mu_z S hr hlocks hP hS dW_writeMark_90 rfl rfl
def fW_writeHead (v1 : Int32) (v2 : Int32) (w_count : Int32) (w_row : (Nat → Int32)) : Option (Bool × Int32 × (Nat → Int32)) :=
  (fB_add v1 w_count w_row).bind fun u5 => (if u5.1 = true then ((fB_add ((97 : Int32) + v2) u5.2.1 u5.2.2).bind fun u19 => (if u19.1 = true then ((fB_add (0 : Int32) u19.2.1 u19.2.2).bind fun u30 => (if u30.1 = true then (some (true, u30.2.1, u30.2.2)) else (some (false, u30.2.1, u30.2.2)))) else (some (false, u19.2.1, u19.2.2)))) else (some (false, u5.2.1, u5.2.2)))
set_option maxHeartbeats 4000000 in
set_option maxRecDepth 100000 in
theorem cW_writeHead (l : Launch) (D : va_G) (cI cJ : ClassId) (xA dA dA0 dA1 dA2 dA3 dA4 iA iA0 iA1 iA2 wA wA0 : Nat) (v1 : Int32) (v2 : Int32) (d_classCount : Int32) (d_propertyCount : Int32) (d_parents : (Nat → Int32)) (d_owners : (Nat → Int32)) (d_letters : (Nat → Int32)) (d_sorts : (Nat → Int32)) (d_targets : (Nat → Int32)) (i_count : Int32) (i_kinds : (Nat → Int32)) (i_values : (Nat → Int64)) (i_partners : (Nat → Int32)) (w_count : Int32) (w_row : (Nat → Int32)) (r : Bool × Int32 × (Nat → Int32)) (h : fW_writeHead v1 v2 w_count w_row = some r) : Mu l yW_writeHead bW_writeHead 3 (some .boolean) (rL 1) [.ref xA, .int v1, .int v2] D cI cJ [(xA, .inr (5, [.ref dA, .ref iA, .ref wA])), (dA, .inr (1, [.ref dA0, .ref dA1, .ref dA2, .ref dA3, .ref dA4, .int d_classCount, .int d_propertyCount])), (dA0, .inl (cI, 6, .inl d_parents)), (dA1, .inl (cI, 8, .inl d_owners)), (dA2, .inl (cI, 8, .inl d_letters)), (dA3, .inl (cI, 8, .inl d_sorts)), (dA4, .inl (cI, 8, .inl d_targets)), (iA, .inr (3, [.ref iA0, .ref iA1, .ref iA2, .int i_count])), (iA0, .inl (cI, 12, .inl i_kinds)), (iA1, .inl (cJ, 96, .inr (.inl i_values))), (iA2, .inl (cI, 96, .inl i_partners)), (wA, .inr (0, [.ref wA0, .int w_count])), (wA0, .inl (cI, 120, .inl w_row))] (some (.int (bI r.1))) [(xA, .inr (5, [.ref dA, .ref iA, .ref wA])), (dA, .inr (1, [.ref dA0, .ref dA1, .ref dA2, .ref dA3, .ref dA4, .int d_classCount, .int d_propertyCount])), (dA0, .inl (cI, 6, .inl d_parents)), (dA1, .inl (cI, 8, .inl d_owners)), (dA2, .inl (cI, 8, .inl d_letters)), (dA3, .inl (cI, 8, .inl d_sorts)), (dA4, .inl (cI, 8, .inl d_targets)), (iA, .inr (3, [.ref iA0, .ref iA1, .ref iA2, .int i_count])), (iA0, .inl (cI, 12, .inl i_kinds)), (iA1, .inl (cJ, 96, .inr (.inl i_values))), (iA2, .inl (cI, 96, .inl i_partners)), (wA, .inr (0, [.ref wA0, .int r.2.1])), (wA0, .inl (cI, 120, .inl r.2.2))] := by
  refine mu_of (by decide) (Nat.le_of_ble_eq_true rfl) ?_
  intro p e s m below meth c ls A S hr hlocks hN hK hP hD hA hl
  have hS : va_S A s.heap s.heap [] := va_S.rf
  have hx := S.1
  have hb := S.2.1
  have hl : lv_has ls 3 [(0, .ref xA), (1, .int v1), (2, .int v2)] := hl
  unfold fW_writeHead at h
  refine lv_aload_n hx hb dW_writeHead_0 rfl (lv_at hl 0 rfl) ?_
  refine gf S hK hP 0 5 2 u_zW w_147 rfl rfl (by decide) rfl dW_writeHead_1 ?_
  refine lv_iload_n hx hb dW_writeHead_4 rfl (lv_at hl 1 rfl) ?_
  obtain ⟨u5, e5, h⟩ := g_bind h
  refine mu_v S hN hK hP hD hS hA (rest := []) (cB_add l D cI cJ wA wA0 v1 w_count w_row u5 e5) k_W_57 [11, 12] [none, none, none, none, none, none, none, none, none, none, none, (some 0), (some 1)] [(xA, .inr (5, [.ref dA, .ref iA, .ref wA])), (dA, .inr (1, [.ref dA0, .ref dA1, .ref dA2, .ref dA3, .ref dA4, .int d_classCount, .int d_propertyCount])), (dA0, .inl (cI, 6, .inl d_parents)), (dA1, .inl (cI, 8, .inl d_owners)), (dA2, .inl (cI, 8, .inl d_letters)), (dA3, .inl (cI, 8, .inl d_sorts)), (dA4, .inl (cI, 8, .inl d_targets)), (iA, .inr (3, [.ref iA0, .ref iA1, .ref iA2, .int i_count])), (iA0, .inl (cI, 12, .inl i_kinds)), (iA1, .inl (cJ, 96, .inr (.inl i_values))), (iA2, .inl (cI, 96, .inl i_partners)), (wA, .inr (0, [.ref wA0, .int u5.2.1])), (wA0, .inl (cI, 120, .inl u5.2.2))] rfl rfl rfl ⟨rfl, rfl, rfl, rfl, rfl, rfl, rfl, rfl, rfl, rfl, rfl, rfl, rfl, trivial⟩ (by decide +kernel) 0 rfl rfl ⟨rfl, rfl⟩ ⟨Nat.le_of_ble_eq_true rfl, Nat.le_of_ble_eq_true rfl⟩ rfl hl.1 (Nat.le_of_ble_eq_true rfl) ⟨Nat.le_refl _, Nat.le_refl _⟩ dW_writeHead_5 rfl (fun H locs hP hD hS => ?_)
  refine b_ifeq (tgt := 40) hx hb dW_writeHead_8 (by decide) (fun h8 => ?_) (fun h8 => ?_)
  · have h := g_f h h8
    refine lv_iconst (v := (0 : Int32)) hx hb dW_writeHead_40 (by decide) ?_
    cases h
    exact mu_z S hr hlocks hP hS dW_writeHead_41 rfl rfl
  · have h := g_t h h8
    refine lv_aload_n hx hb dW_writeHead_11 rfl (lv_at hl 0 rfl) ?_
    refine gf S hK hP 0 5 2 u_zW w_147 rfl rfl (by decide) rfl dW_writeHead_12 ?_
    refine lv_bipush (v := (97 : Int32)) hx hb dW_writeHead_15 (by decide) ?_
    refine lv_iload_n hx hb dW_writeHead_17 rfl (lv_at hl 2 rfl) ?_
    refine lv_iadd hx hb dW_writeHead_18 ?_
    obtain ⟨u19, e19, h⟩ := g_bind h
    refine mu_v S hN hK hP hD hS hA (rest := []) (cB_add l D cI cJ wA wA0 ((97 : Int32) + v2) u5.2.1 u5.2.2 u19 e19) k_W_57 [11, 12] [none, none, none, none, none, none, none, none, none, none, none, (some 0), (some 1)] [(xA, .inr (5, [.ref dA, .ref iA, .ref wA])), (dA, .inr (1, [.ref dA0, .ref dA1, .ref dA2, .ref dA3, .ref dA4, .int d_classCount, .int d_propertyCount])), (dA0, .inl (cI, 6, .inl d_parents)), (dA1, .inl (cI, 8, .inl d_owners)), (dA2, .inl (cI, 8, .inl d_letters)), (dA3, .inl (cI, 8, .inl d_sorts)), (dA4, .inl (cI, 8, .inl d_targets)), (iA, .inr (3, [.ref iA0, .ref iA1, .ref iA2, .int i_count])), (iA0, .inl (cI, 12, .inl i_kinds)), (iA1, .inl (cJ, 96, .inr (.inl i_values))), (iA2, .inl (cI, 96, .inl i_partners)), (wA, .inr (0, [.ref wA0, .int u19.2.1])), (wA0, .inl (cI, 120, .inl u19.2.2))] rfl rfl rfl ⟨rfl, rfl, rfl, rfl, rfl, rfl, rfl, rfl, rfl, rfl, rfl, rfl, rfl, trivial⟩ (by decide +kernel) 0 rfl rfl ⟨rfl, rfl⟩ ⟨Nat.le_of_ble_eq_true rfl, Nat.le_of_ble_eq_true rfl⟩ rfl hl.1 (Nat.le_of_ble_eq_true rfl) ⟨Nat.le_refl _, Nat.le_refl _⟩ dW_writeHead_19 rfl (fun H locs hP hD hS => ?_)
    refine b_ifeq (tgt := 40) hx hb dW_writeHead_22 (by decide) (fun h22 => ?_) (fun h22 => ?_)
    · have h := g_f h h22
      refine lv_iconst (v := (0 : Int32)) hx hb dW_writeHead_40 (by decide) ?_
      cases h
      exact mu_z S hr hlocks hP hS dW_writeHead_41 rfl rfl
    · have h := g_t h h22
      refine lv_aload_n hx hb dW_writeHead_25 rfl (lv_at hl 0 rfl) ?_
      refine gf S hK hP 0 5 2 u_zW w_147 rfl rfl (by decide) rfl dW_writeHead_26 ?_
      refine lv_iconst (v := (0 : Int32)) hx hb dW_writeHead_29 (by decide) ?_
      obtain ⟨u30, e30, h⟩ := g_bind h
      refine mu_v S hN hK hP hD hS hA (rest := []) (cB_add l D cI cJ wA wA0 (0 : Int32) u19.2.1 u19.2.2 u30 e30) k_W_57 [11, 12] [none, none, none, none, none, none, none, none, none, none, none, (some 0), (some 1)] [(xA, .inr (5, [.ref dA, .ref iA, .ref wA])), (dA, .inr (1, [.ref dA0, .ref dA1, .ref dA2, .ref dA3, .ref dA4, .int d_classCount, .int d_propertyCount])), (dA0, .inl (cI, 6, .inl d_parents)), (dA1, .inl (cI, 8, .inl d_owners)), (dA2, .inl (cI, 8, .inl d_letters)), (dA3, .inl (cI, 8, .inl d_sorts)), (dA4, .inl (cI, 8, .inl d_targets)), (iA, .inr (3, [.ref iA0, .ref iA1, .ref iA2, .int i_count])), (iA0, .inl (cI, 12, .inl i_kinds)), (iA1, .inl (cJ, 96, .inr (.inl i_values))), (iA2, .inl (cI, 96, .inl i_partners)), (wA, .inr (0, [.ref wA0, .int u30.2.1])), (wA0, .inl (cI, 120, .inl u30.2.2))] rfl rfl rfl ⟨rfl, rfl, rfl, rfl, rfl, rfl, rfl, rfl, rfl, rfl, rfl, rfl, rfl, trivial⟩ (by decide +kernel) 0 rfl rfl ⟨rfl, rfl⟩ ⟨Nat.le_of_ble_eq_true rfl, Nat.le_of_ble_eq_true rfl⟩ rfl hl.1 (Nat.le_of_ble_eq_true rfl) ⟨Nat.le_refl _, Nat.le_refl _⟩ dW_writeHead_30 rfl (fun H locs hP hD hS => ?_)
      refine b_ifeq (tgt := 40) hx hb dW_writeHead_33 (by decide) (fun h33 => ?_) (fun h33 => ?_)
      · have h := g_f h h33
        refine lv_iconst (v := (0 : Int32)) hx hb dW_writeHead_40 (by decide) ?_
        cases h
        exact mu_z S hr hlocks hP hS dW_writeHead_41 rfl rfl
      · have h := g_t h h33
        refine lv_iconst (v := (1 : Int32)) hx hb dW_writeHead_36 (by decide) ?_
        refine lv_goto (tgt := 41) hx hb dW_writeHead_37 (by decide) ?_
        cases h
        exact mu_z S hr hlocks hP hS dW_writeHead_41 rfl rfl
def fW_writeLink (N : Nat) (rk : Int32 × Int32 × Int32 × Int32 × (Nat → Int32) → Option (Bool × Int32 × (Nat → Int32))) (v1 : Int32) (v2 : Int32) (v3 : Int32) (v4 : Int32) (d_classCount : Int32) (d_propertyCount : Int32) (d_parents : (Nat → Int32)) (d_owners : (Nat → Int32)) (d_letters : (Nat → Int32)) (d_sorts : (Nat → Int32)) (d_targets : (Nat → Int32)) (i_count : Int32) (i_kinds : (Nat → Int32)) (i_values : (Nat → Int64)) (i_partners : (Nat → Int32)) (w_count : Int32) (w_row : (Nat → Int32)) : Option (Bool × Int32 × (Nat → Int32)) :=
  if v2 = (-1 : Int32) then ((fW_writeHead (10 : Int32) v1 w_count w_row).bind fun u9 => (some (u9.1, u9.2.1, u9.2.2))) else ((fW_writeHead (3 : Int32) v1 w_count w_row).bind fun u16 => (if u16.1 = true then ((rk (v2, v3, v4 + (1 : Int32), u16.2.1, u16.2.2)).bind fun u29 => (if u29.1 = true then (some (true, u29.2.1, u29.2.2)) else (some (false, u29.2.1, u29.2.2)))) else (some (false, u16.2.1, u16.2.2))))
set_option maxHeartbeats 4000000 in
set_option maxRecDepth 100000 in
theorem cW_writeLink (l : Launch) (D : va_G) (cI cJ : ClassId) (xA dA dA0 dA1 dA2 dA3 dA4 iA iA0 iA1 iA2 wA wA0 : Nat) (N : Nat) (rk : Int32 × Int32 × Int32 × Int32 × (Nat → Int32) → Option (Bool × Int32 × (Nat → Int32))) (v1 : Int32) (v2 : Int32) (v3 : Int32) (v4 : Int32) (d_classCount : Int32) (d_propertyCount : Int32) (d_parents : (Nat → Int32)) (d_owners : (Nat → Int32)) (d_letters : (Nat → Int32)) (d_sorts : (Nat → Int32)) (d_targets : (Nat → Int32)) (i_count : Int32) (i_kinds : (Nat → Int32)) (i_values : (Nat → Int64)) (i_partners : (Nat → Int32)) (w_count : Int32) (w_row : (Nat → Int32)) (kk : Nat) (hrk : ∀ (v1 : Int32) (v2 : Int32) (v3 : Int32) (w_count : Int32) (w_row : (Nat → Int32)) (r : Bool × Int32 × (Nat → Int32)), rk (v1, v2, v3, w_count, w_row) = some r → Mu l yW_writeDocument bW_writeDocument 8 (some .boolean) (rL (kk + 10)) [.ref xA, .int v1, .int v2, .int v3] D cI cJ [(xA, .inr (5, [.ref dA, .ref iA, .ref wA])), (dA, .inr (1, [.ref dA0, .ref dA1, .ref dA2, .ref dA3, .ref dA4, .int d_classCount, .int d_propertyCount])), (dA0, .inl (cI, 6, .inl d_parents)), (dA1, .inl (cI, 8, .inl d_owners)), (dA2, .inl (cI, 8, .inl d_letters)), (dA3, .inl (cI, 8, .inl d_sorts)), (dA4, .inl (cI, 8, .inl d_targets)), (iA, .inr (3, [.ref iA0, .ref iA1, .ref iA2, .int i_count])), (iA0, .inl (cI, 12, .inl i_kinds)), (iA1, .inl (cJ, 96, .inr (.inl i_values))), (iA2, .inl (cI, 96, .inl i_partners)), (wA, .inr (0, [.ref wA0, .int w_count])), (wA0, .inl (cI, 120, .inl w_row))] (some (.int (bI r.1))) [(xA, .inr (5, [.ref dA, .ref iA, .ref wA])), (dA, .inr (1, [.ref dA0, .ref dA1, .ref dA2, .ref dA3, .ref dA4, .int d_classCount, .int d_propertyCount])), (dA0, .inl (cI, 6, .inl d_parents)), (dA1, .inl (cI, 8, .inl d_owners)), (dA2, .inl (cI, 8, .inl d_letters)), (dA3, .inl (cI, 8, .inl d_sorts)), (dA4, .inl (cI, 8, .inl d_targets)), (iA, .inr (3, [.ref iA0, .ref iA1, .ref iA2, .int i_count])), (iA0, .inl (cI, 12, .inl i_kinds)), (iA1, .inl (cJ, 96, .inr (.inl i_values))), (iA2, .inl (cI, 96, .inl i_partners)), (wA, .inr (0, [.ref wA0, .int r.2.1])), (wA0, .inl (cI, 120, .inl r.2.2))]) (r : Bool × Int32 × (Nat → Int32)) (h : fW_writeLink N rk v1 v2 v3 v4 d_classCount d_propertyCount d_parents d_owners d_letters d_sorts d_targets i_count i_kinds i_values i_partners w_count w_row = some r) : Mu l yW_writeLink bW_writeLink 5 (some .boolean) (rL (kk + 11)) [.ref xA, .int v1, .int v2, .int v3, .int v4] D cI cJ [(xA, .inr (5, [.ref dA, .ref iA, .ref wA])), (dA, .inr (1, [.ref dA0, .ref dA1, .ref dA2, .ref dA3, .ref dA4, .int d_classCount, .int d_propertyCount])), (dA0, .inl (cI, 6, .inl d_parents)), (dA1, .inl (cI, 8, .inl d_owners)), (dA2, .inl (cI, 8, .inl d_letters)), (dA3, .inl (cI, 8, .inl d_sorts)), (dA4, .inl (cI, 8, .inl d_targets)), (iA, .inr (3, [.ref iA0, .ref iA1, .ref iA2, .int i_count])), (iA0, .inl (cI, 12, .inl i_kinds)), (iA1, .inl (cJ, 96, .inr (.inl i_values))), (iA2, .inl (cI, 96, .inl i_partners)), (wA, .inr (0, [.ref wA0, .int w_count])), (wA0, .inl (cI, 120, .inl w_row))] (some (.int (bI r.1))) [(xA, .inr (5, [.ref dA, .ref iA, .ref wA])), (dA, .inr (1, [.ref dA0, .ref dA1, .ref dA2, .ref dA3, .ref dA4, .int d_classCount, .int d_propertyCount])), (dA0, .inl (cI, 6, .inl d_parents)), (dA1, .inl (cI, 8, .inl d_owners)), (dA2, .inl (cI, 8, .inl d_letters)), (dA3, .inl (cI, 8, .inl d_sorts)), (dA4, .inl (cI, 8, .inl d_targets)), (iA, .inr (3, [.ref iA0, .ref iA1, .ref iA2, .int i_count])), (iA0, .inl (cI, 12, .inl i_kinds)), (iA1, .inl (cJ, 96, .inr (.inl i_values))), (iA2, .inl (cI, 96, .inl i_partners)), (wA, .inr (0, [.ref wA0, .int r.2.1])), (wA0, .inl (cI, 120, .inl r.2.2))] := by
  refine mu_of (by decide) (Nat.le_of_ble_eq_true rfl) ?_
  intro p e s m below meth c ls A S hr hlocks hN hK hP hD hA hl
  have hS : va_S A s.heap s.heap [] := va_S.rf
  have hx := S.1
  have hb := S.2.1
  have hl : lv_has ls 5 [(0, .ref xA), (1, .int v1), (2, .int v2), (3, .int v3), (4, .int v4)] := hl
  unfold fW_writeLink at h
  refine lv_iload_n hx hb dW_writeLink_0 rfl (lv_at hl 2 rfl) ?_
  refine lv_iconst (v := (-1 : Int32)) hx hb dW_writeLink_1 (by decide) ?_
  refine lv_icmp_ne (tgt := 13) hx hb dW_writeLink_2 (by decide) (fun h2 => ?_) (fun h2 => ?_)
  · have h := g_f h h2
    refine lv_aload_n hx hb dW_writeLink_13 rfl (lv_at hl 0 rfl) ?_
    refine lv_iconst (v := (3 : Int32)) hx hb dW_writeLink_14 (by decide) ?_
    refine lv_iload_n hx hb dW_writeLink_15 rfl (lv_at hl 1 rfl) ?_
    obtain ⟨u16, e16, h⟩ := g_bind h
    refine mu_v S hN hK hP hD hS hA (rest := []) (cW_writeHead l D cI cJ xA dA dA0 dA1 dA2 dA3 dA4 iA iA0 iA1 iA2 wA wA0 (3 : Int32) v1 d_classCount d_propertyCount d_parents d_owners d_letters d_sorts d_targets i_count i_kinds i_values i_partners w_count w_row u16 e16) k_W_82 [0, 1, 2, 3, 4, 5, 6, 7, 8, 9, 10, 11, 12] [(some 0), (some 1), (some 2), (some 3), (some 4), (some 5), (some 6), (some 7), (some 8), (some 9), (some 10), (some 11), (some 12)] [(xA, .inr (5, [.ref dA, .ref iA, .ref wA])), (dA, .inr (1, [.ref dA0, .ref dA1, .ref dA2, .ref dA3, .ref dA4, .int d_classCount, .int d_propertyCount])), (dA0, .inl (cI, 6, .inl d_parents)), (dA1, .inl (cI, 8, .inl d_owners)), (dA2, .inl (cI, 8, .inl d_letters)), (dA3, .inl (cI, 8, .inl d_sorts)), (dA4, .inl (cI, 8, .inl d_targets)), (iA, .inr (3, [.ref iA0, .ref iA1, .ref iA2, .int i_count])), (iA0, .inl (cI, 12, .inl i_kinds)), (iA1, .inl (cJ, 96, .inr (.inl i_values))), (iA2, .inl (cI, 96, .inl i_partners)), (wA, .inr (0, [.ref wA0, .int u16.2.1])), (wA0, .inl (cI, 120, .inl u16.2.2))] rfl rfl rfl ⟨rfl, rfl, rfl, rfl, rfl, rfl, rfl, rfl, rfl, rfl, rfl, rfl, rfl, trivial⟩ (by decide +kernel) 5 rfl rfl ⟨rfl, rfl⟩ ⟨by simp only [rL]; omega, by simp only [rL]; omega⟩ rfl hl.1 (Nat.le_of_ble_eq_true rfl) ⟨Nat.le_refl _, Nat.le_refl _⟩ dW_writeLink_16 rfl (fun H locs hP hD hS => ?_)
    refine b_ifeq (tgt := 39) hx hb dW_writeLink_19 (by decide) (fun h19 => ?_) (fun h19 => ?_)
    · have h := g_f h h19
      refine lv_iconst (v := (0 : Int32)) hx hb dW_writeLink_39 (by decide) ?_
      cases h
      exact mu_z S hr hlocks hP hS dW_writeLink_40 rfl rfl
    · have h := g_t h h19
      refine lv_aload_n hx hb dW_writeLink_22 rfl (lv_at hl 0 rfl) ?_
      refine lv_iload_n hx hb dW_writeLink_23 rfl (lv_at hl 2 rfl) ?_
      refine lv_iload_n hx hb dW_writeLink_24 rfl (lv_at hl 3 rfl) ?_
      refine lv_iload hx hb dW_writeLink_25 (lv_at hl 4 rfl) ?_
      refine lv_iconst (v := (1 : Int32)) hx hb dW_writeLink_27 (by decide) ?_
      refine lv_iadd hx hb dW_writeLink_28 ?_
      obtain ⟨u29, e29, h⟩ := g_bind h
      refine mu_v S hN hK hP hD hS hA (rest := []) (hrk v2 v3 (v4 + (1 : Int32)) u16.2.1 u16.2.2 u29 e29) k_W_30 [0, 1, 2, 3, 4, 5, 6, 7, 8, 9, 10, 11, 12] [(some 0), (some 1), (some 2), (some 3), (some 4), (some 5), (some 6), (some 7), (some 8), (some 9), (some 10), (some 11), (some 12)] [(xA, .inr (5, [.ref dA, .ref iA, .ref wA])), (dA, .inr (1, [.ref dA0, .ref dA1, .ref dA2, .ref dA3, .ref dA4, .int d_classCount, .int d_propertyCount])), (dA0, .inl (cI, 6, .inl d_parents)), (dA1, .inl (cI, 8, .inl d_owners)), (dA2, .inl (cI, 8, .inl d_letters)), (dA3, .inl (cI, 8, .inl d_sorts)), (dA4, .inl (cI, 8, .inl d_targets)), (iA, .inr (3, [.ref iA0, .ref iA1, .ref iA2, .int i_count])), (iA0, .inl (cI, 12, .inl i_kinds)), (iA1, .inl (cJ, 96, .inr (.inl i_values))), (iA2, .inl (cI, 96, .inl i_partners)), (wA, .inr (0, [.ref wA0, .int u29.2.1])), (wA0, .inl (cI, 120, .inl u29.2.2))] rfl rfl rfl ⟨rfl, rfl, rfl, rfl, rfl, rfl, rfl, rfl, rfl, rfl, rfl, rfl, rfl, trivial⟩ (by decide +kernel) 5 rfl rfl ⟨rfl, rfl⟩ ⟨by simp only [rL]; omega, by simp only [rL]; omega⟩ rfl hl.1 (Nat.le_of_ble_eq_true rfl) ⟨Nat.le_refl _, Nat.le_refl _⟩ dW_writeLink_29 rfl (fun H locs hP hD hS => ?_)
      refine b_ifeq (tgt := 39) hx hb dW_writeLink_32 (by decide) (fun h32 => ?_) (fun h32 => ?_)
      · have h := g_f h h32
        refine lv_iconst (v := (0 : Int32)) hx hb dW_writeLink_39 (by decide) ?_
        cases h
        exact mu_z S hr hlocks hP hS dW_writeLink_40 rfl rfl
      · have h := g_t h h32
        refine lv_iconst (v := (1 : Int32)) hx hb dW_writeLink_35 (by decide) ?_
        refine lv_goto (tgt := 40) hx hb dW_writeLink_36 (by decide) ?_
        cases h
        exact mu_z S hr hlocks hP hS dW_writeLink_40 rfl rfl
  · have h := g_t h h2
    refine lv_aload_n hx hb dW_writeLink_5 rfl (lv_at hl 0 rfl) ?_
    refine lv_bipush (v := (10 : Int32)) hx hb dW_writeLink_6 (by decide) ?_
    refine lv_iload_n hx hb dW_writeLink_8 rfl (lv_at hl 1 rfl) ?_
    obtain ⟨u9, e9, h⟩ := g_bind h
    refine mu_v S hN hK hP hD hS hA (rest := []) (cW_writeHead l D cI cJ xA dA dA0 dA1 dA2 dA3 dA4 iA iA0 iA1 iA2 wA wA0 (10 : Int32) v1 d_classCount d_propertyCount d_parents d_owners d_letters d_sorts d_targets i_count i_kinds i_values i_partners w_count w_row u9 e9) k_W_82 [0, 1, 2, 3, 4, 5, 6, 7, 8, 9, 10, 11, 12] [(some 0), (some 1), (some 2), (some 3), (some 4), (some 5), (some 6), (some 7), (some 8), (some 9), (some 10), (some 11), (some 12)] [(xA, .inr (5, [.ref dA, .ref iA, .ref wA])), (dA, .inr (1, [.ref dA0, .ref dA1, .ref dA2, .ref dA3, .ref dA4, .int d_classCount, .int d_propertyCount])), (dA0, .inl (cI, 6, .inl d_parents)), (dA1, .inl (cI, 8, .inl d_owners)), (dA2, .inl (cI, 8, .inl d_letters)), (dA3, .inl (cI, 8, .inl d_sorts)), (dA4, .inl (cI, 8, .inl d_targets)), (iA, .inr (3, [.ref iA0, .ref iA1, .ref iA2, .int i_count])), (iA0, .inl (cI, 12, .inl i_kinds)), (iA1, .inl (cJ, 96, .inr (.inl i_values))), (iA2, .inl (cI, 96, .inl i_partners)), (wA, .inr (0, [.ref wA0, .int u9.2.1])), (wA0, .inl (cI, 120, .inl u9.2.2))] rfl rfl rfl ⟨rfl, rfl, rfl, rfl, rfl, rfl, rfl, rfl, rfl, rfl, rfl, rfl, rfl, trivial⟩ (by decide +kernel) 5 rfl rfl ⟨rfl, rfl⟩ ⟨by simp only [rL]; omega, by simp only [rL]; omega⟩ rfl hl.1 (Nat.le_of_ble_eq_true rfl) ⟨Nat.le_refl _, Nat.le_refl _⟩ dW_writeLink_9 rfl (fun H locs hP hD hS => ?_)
    cases h
    exact mu_z S hr hlocks hP hS dW_writeLink_12 rfl rfl
def fW_writeProperty (N : Nat) (rk : Int32 × Int32 × Int32 × Int32 × (Nat → Int32) → Option (Bool × Int32 × (Nat → Int32))) (v1 : Int32) (v2 : Int32) (v3 : Int32) (d_classCount : Int32) (d_propertyCount : Int32) (d_parents : (Nat → Int32)) (d_owners : (Nat → Int32)) (d_letters : (Nat → Int32)) (d_sorts : (Nat → Int32)) (d_targets : (Nat → Int32)) (i_count : Int32) (i_kinds : (Nat → Int32)) (i_values : (Nat → Int64)) (i_partners : (Nat → Int32)) (w_count : Int32) (w_row : (Nat → Int32)) : Option (Bool × Int32 × (Nat → Int32)) :=
  (fD_letter v2 d_propertyCount d_letters).bind fun u5 => ((fI_valueAt v1 v2 i_count i_values).bind fun u16 => ((fD_sort v2 d_propertyCount d_sorts).bind fun u26 => (if u26 = (0 : Int32) then ((fW_writeHead (16 : Int32) u5 w_count w_row).bind fun u61 => (if u61.1 = true then ((fB_addNumber N u16 (4 : Int32) u61.2.1 u61.2.2).bind fun u74 => (if u74.1 = true then (some (true, u74.2.1, u74.2.2)) else (some (false, u74.2.1, u74.2.2)))) else (some (false, u61.2.1, u61.2.2)))) else (if u26 = (1 : Int32) then ((fW_writeHead (18 : Int32) u5 w_count w_row).bind fun u91 => (if u91.1 = true then ((fB_addNumber N u16 (8 : Int32) u91.2.1 u91.2.2).bind fun u105 => (if u105.1 = true then (some (true, u105.2.1, u105.2.2)) else (some (false, u105.2.1, u105.2.2)))) else (some (false, u91.2.1, u91.2.2)))) else (if u26 = (2 : Int32) then ((fW_writeHead (8 : Int32) u5 w_count w_row).bind fun u122 => (if u122.1 = true then ((fB_addNumber N u16 (1 : Int32) u122.2.1 u122.2.2).bind fun u135 => (if u135.1 = true then (some (true, u135.2.1, u135.2.2)) else (some (false, u135.2.1, u135.2.2)))) else (some (false, u122.2.1, u122.2.2)))) else ((fI_partnerAt v1 v2 i_count i_partners).bind fun u153 => ((fD_target v2 d_propertyCount d_targets).bind fun u168 => ((fW_writeLink N rk u5 u153 u168 v3 d_classCount d_propertyCount d_parents d_owners d_letters d_sorts d_targets i_count i_kinds i_values i_partners w_count w_row).bind fun u172 => (some (u172.1, u172.2.1, u172.2.2))))))))))
set_option maxHeartbeats 4000000 in
set_option maxRecDepth 100000 in
theorem cW_writeProperty (l : Launch) (D : va_G) (cI cJ : ClassId) (xA dA dA0 dA1 dA2 dA3 dA4 iA iA0 iA1 iA2 wA wA0 : Nat) (N : Nat) (rk : Int32 × Int32 × Int32 × Int32 × (Nat → Int32) → Option (Bool × Int32 × (Nat → Int32))) (v1 : Int32) (v2 : Int32) (v3 : Int32) (d_classCount : Int32) (d_propertyCount : Int32) (d_parents : (Nat → Int32)) (d_owners : (Nat → Int32)) (d_letters : (Nat → Int32)) (d_sorts : (Nat → Int32)) (d_targets : (Nat → Int32)) (i_count : Int32) (i_kinds : (Nat → Int32)) (i_values : (Nat → Int64)) (i_partners : (Nat → Int32)) (w_count : Int32) (w_row : (Nat → Int32)) (kk : Nat) (hrk : ∀ (v1 : Int32) (v2 : Int32) (v3 : Int32) (w_count : Int32) (w_row : (Nat → Int32)) (r : Bool × Int32 × (Nat → Int32)), rk (v1, v2, v3, w_count, w_row) = some r → Mu l yW_writeDocument bW_writeDocument 8 (some .boolean) (rL (kk + 10)) [.ref xA, .int v1, .int v2, .int v3] D cI cJ [(xA, .inr (5, [.ref dA, .ref iA, .ref wA])), (dA, .inr (1, [.ref dA0, .ref dA1, .ref dA2, .ref dA3, .ref dA4, .int d_classCount, .int d_propertyCount])), (dA0, .inl (cI, 6, .inl d_parents)), (dA1, .inl (cI, 8, .inl d_owners)), (dA2, .inl (cI, 8, .inl d_letters)), (dA3, .inl (cI, 8, .inl d_sorts)), (dA4, .inl (cI, 8, .inl d_targets)), (iA, .inr (3, [.ref iA0, .ref iA1, .ref iA2, .int i_count])), (iA0, .inl (cI, 12, .inl i_kinds)), (iA1, .inl (cJ, 96, .inr (.inl i_values))), (iA2, .inl (cI, 96, .inl i_partners)), (wA, .inr (0, [.ref wA0, .int w_count])), (wA0, .inl (cI, 120, .inl w_row))] (some (.int (bI r.1))) [(xA, .inr (5, [.ref dA, .ref iA, .ref wA])), (dA, .inr (1, [.ref dA0, .ref dA1, .ref dA2, .ref dA3, .ref dA4, .int d_classCount, .int d_propertyCount])), (dA0, .inl (cI, 6, .inl d_parents)), (dA1, .inl (cI, 8, .inl d_owners)), (dA2, .inl (cI, 8, .inl d_letters)), (dA3, .inl (cI, 8, .inl d_sorts)), (dA4, .inl (cI, 8, .inl d_targets)), (iA, .inr (3, [.ref iA0, .ref iA1, .ref iA2, .int i_count])), (iA0, .inl (cI, 12, .inl i_kinds)), (iA1, .inl (cJ, 96, .inr (.inl i_values))), (iA2, .inl (cI, 96, .inl i_partners)), (wA, .inr (0, [.ref wA0, .int r.2.1])), (wA0, .inl (cI, 120, .inl r.2.2))]) (r : Bool × Int32 × (Nat → Int32)) (h : fW_writeProperty N rk v1 v2 v3 d_classCount d_propertyCount d_parents d_owners d_letters d_sorts d_targets i_count i_kinds i_values i_partners w_count w_row = some r) : Mu l yW_writeProperty bW_writeProperty 8 (some .boolean) (rL (kk + 12)) [.ref xA, .int v1, .int v2, .int v3] D cI cJ [(xA, .inr (5, [.ref dA, .ref iA, .ref wA])), (dA, .inr (1, [.ref dA0, .ref dA1, .ref dA2, .ref dA3, .ref dA4, .int d_classCount, .int d_propertyCount])), (dA0, .inl (cI, 6, .inl d_parents)), (dA1, .inl (cI, 8, .inl d_owners)), (dA2, .inl (cI, 8, .inl d_letters)), (dA3, .inl (cI, 8, .inl d_sorts)), (dA4, .inl (cI, 8, .inl d_targets)), (iA, .inr (3, [.ref iA0, .ref iA1, .ref iA2, .int i_count])), (iA0, .inl (cI, 12, .inl i_kinds)), (iA1, .inl (cJ, 96, .inr (.inl i_values))), (iA2, .inl (cI, 96, .inl i_partners)), (wA, .inr (0, [.ref wA0, .int w_count])), (wA0, .inl (cI, 120, .inl w_row))] (some (.int (bI r.1))) [(xA, .inr (5, [.ref dA, .ref iA, .ref wA])), (dA, .inr (1, [.ref dA0, .ref dA1, .ref dA2, .ref dA3, .ref dA4, .int d_classCount, .int d_propertyCount])), (dA0, .inl (cI, 6, .inl d_parents)), (dA1, .inl (cI, 8, .inl d_owners)), (dA2, .inl (cI, 8, .inl d_letters)), (dA3, .inl (cI, 8, .inl d_sorts)), (dA4, .inl (cI, 8, .inl d_targets)), (iA, .inr (3, [.ref iA0, .ref iA1, .ref iA2, .int i_count])), (iA0, .inl (cI, 12, .inl i_kinds)), (iA1, .inl (cJ, 96, .inr (.inl i_values))), (iA2, .inl (cI, 96, .inl i_partners)), (wA, .inr (0, [.ref wA0, .int r.2.1])), (wA0, .inl (cI, 120, .inl r.2.2))] := by
  refine mu_of (by decide) (Nat.le_of_ble_eq_true rfl) ?_
  intro p e s m below meth c ls A S hr hlocks hN hK hP hD hA hl
  have hS : va_S A s.heap s.heap [] := va_S.rf
  have hx := S.1
  have hb := S.2.1
  have hl : lv_has ls 8 [(0, .ref xA), (1, .int v1), (2, .int v2), (3, .int v3)] := hl
  unfold fW_writeProperty at h
  refine lv_aload_n hx hb dW_writeProperty_0 rfl (lv_at hl 0 rfl) ?_
  refine gf S hK hP 0 5 0 u_zW w_145 rfl rfl (by decide) rfl dW_writeProperty_1 ?_
  refine lv_iload_n hx hb dW_writeProperty_4 rfl (lv_at hl 2 rfl) ?_
  obtain ⟨u5, e5, h⟩ := g_bind h
  refine pu_v S hN hK hP (rest := []) (cD_letter l D cI cJ dA dA0 dA1 dA2 dA3 dA4 v2 d_classCount d_propertyCount d_parents d_owners d_letters d_sorts d_targets u5 e5) k_W_72 [1, 2, 3, 4, 5, 6] rfl 1 rfl rfl ⟨rfl, rfl⟩ ⟨by simp only [rL]; omega, by simp only [rL]; omega⟩ rfl hl.1 (Nat.le_of_ble_eq_true rfl) ⟨Nat.le_refl _, Nat.le_refl _⟩ dW_writeProperty_5 rfl ?_
  refine lv_istore (lv' := [(4, .int u5), (0, .ref xA), (1, .int v1), (2, .int v2), (3, .int v3)]) hx hb dW_writeProperty_8 hl (Nat.le_of_ble_eq_true rfl) rfl (fun ls hl => ?_)
  refine lv_aload_n hx hb dW_writeProperty_10 rfl (lv_at hl 1 rfl) ?_
  refine gf S hK hP 0 5 1 u_zW w_146 rfl rfl (by decide) rfl dW_writeProperty_11 ?_
  refine lv_iload_n hx hb dW_writeProperty_14 rfl (lv_at hl 2 rfl) ?_
  refine lv_iload_n hx hb dW_writeProperty_15 rfl (lv_at hl 3 rfl) ?_
  obtain ⟨u16, e16, h⟩ := g_bind h
  refine pu_v S hN hK hP (rest := []) (cI_valueAt l D cI cJ iA iA0 iA1 iA2 v1 v2 i_count i_kinds i_values i_partners u16 e16) k_W_75 [7, 8, 9, 10] rfl 3 rfl rfl ⟨rfl, rfl⟩ ⟨by simp only [rL]; omega, by simp only [rL]; omega⟩ rfl hl.1 (Nat.le_of_ble_eq_true rfl) ⟨Nat.le_refl _, Nat.le_refl _⟩ dW_writeProperty_16 rfl ?_
  refine lv_lstore (lv' := [(5, .long u16), (4, .int u5), (0, .ref xA), (1, .int v1), (2, .int v2), (3, .int v3)]) hx hb dW_writeProperty_19 hl (Nat.le_of_ble_eq_true rfl) rfl (fun ls hl => ?_)
  refine lv_aload_n hx hb dW_writeProperty_21 rfl (lv_at hl 2 rfl) ?_
  refine gf S hK hP 0 5 0 u_zW w_145 rfl rfl (by decide) rfl dW_writeProperty_22 ?_
  refine lv_iload_n hx hb dW_writeProperty_25 rfl (lv_at hl 4 rfl) ?_
  obtain ⟨u26, e26, h⟩ := g_bind h
  refine pu_v S hN hK hP (rest := []) (cD_sort l D cI cJ dA dA0 dA1 dA2 dA3 dA4 v2 d_classCount d_propertyCount d_parents d_owners d_letters d_sorts d_targets u26 e26) k_W_79 [1, 2, 3, 4, 5, 6] rfl 1 rfl rfl ⟨rfl, rfl⟩ ⟨by simp only [rL]; omega, by simp only [rL]; omega⟩ rfl hl.1 (Nat.le_of_ble_eq_true rfl) ⟨Nat.le_refl _, Nat.le_refl _⟩ dW_writeProperty_26 rfl ?_
  by_cases h29_0 : u26 = (0 : Int32)
  · have h := g_t h h29_0
    refine lv_tableIn (off := 27) (tgt := 56) hx hb dW_writeProperty_29 (by rw [h29_0]; decide) (by rw [h29_0]; decide) (by rw [h29_0]; rfl) (by decide) ?_
    refine lv_aload_n hx hb dW_writeProperty_56 rfl (lv_at hl 2 rfl) ?_
    refine lv_bipush (v := (16 : Int32)) hx hb dW_writeProperty_57 (by decide) ?_
    refine lv_iload hx hb dW_writeProperty_59 (lv_at hl 1 rfl) ?_
    obtain ⟨u61, e61, h⟩ := g_bind h
    refine mu_v S hN hK hP hD hS hA (rest := []) (cW_writeHead l D cI cJ xA dA dA0 dA1 dA2 dA3 dA4 iA iA0 iA1 iA2 wA wA0 (16 : Int32) u5 d_classCount d_propertyCount d_parents d_owners d_letters d_sorts d_targets i_count i_kinds i_values i_partners w_count w_row u61 e61) k_W_82 [0, 1, 2, 3, 4, 5, 6, 7, 8, 9, 10, 11, 12] [(some 0), (some 1), (some 2), (some 3), (some 4), (some 5), (some 6), (some 7), (some 8), (some 9), (some 10), (some 11), (some 12)] [(xA, .inr (5, [.ref dA, .ref iA, .ref wA])), (dA, .inr (1, [.ref dA0, .ref dA1, .ref dA2, .ref dA3, .ref dA4, .int d_classCount, .int d_propertyCount])), (dA0, .inl (cI, 6, .inl d_parents)), (dA1, .inl (cI, 8, .inl d_owners)), (dA2, .inl (cI, 8, .inl d_letters)), (dA3, .inl (cI, 8, .inl d_sorts)), (dA4, .inl (cI, 8, .inl d_targets)), (iA, .inr (3, [.ref iA0, .ref iA1, .ref iA2, .int i_count])), (iA0, .inl (cI, 12, .inl i_kinds)), (iA1, .inl (cJ, 96, .inr (.inl i_values))), (iA2, .inl (cI, 96, .inl i_partners)), (wA, .inr (0, [.ref wA0, .int u61.2.1])), (wA0, .inl (cI, 120, .inl u61.2.2))] rfl rfl rfl ⟨rfl, rfl, rfl, rfl, rfl, rfl, rfl, rfl, rfl, rfl, rfl, rfl, rfl, trivial⟩ (by decide +kernel) 5 rfl rfl ⟨rfl, rfl⟩ ⟨by simp only [rL]; omega, by simp only [rL]; omega⟩ rfl hl.1 (Nat.le_of_ble_eq_true rfl) ⟨Nat.le_refl _, Nat.le_refl _⟩ dW_writeProperty_61 rfl (fun H locs hP hD hS => ?_)
    refine b_ifeq (tgt := 84) hx hb dW_writeProperty_64 (by decide) (fun h64 => ?_) (fun h64 => ?_)
    · have h := g_f h h64
      refine lv_iconst (v := (0 : Int32)) hx hb dW_writeProperty_84 (by decide) ?_
      cases h
      exact mu_z S hr hlocks hP hS dW_writeProperty_85 rfl rfl
    · have h := g_t h h64
      refine lv_aload_n hx hb dW_writeProperty_67 rfl (lv_at hl 2 rfl) ?_
      refine gf S hK hP 0 5 2 u_zW w_147 rfl rfl (by decide) rfl dW_writeProperty_68 ?_
      refine lv_lload hx hb dW_writeProperty_71 (lv_at hl 0 rfl) ?_
      refine lv_iconst (v := (4 : Int32)) hx hb dW_writeProperty_73 (by decide) ?_
      obtain ⟨u74, e74, h⟩ := g_bind h
      refine mu_v S hN hK hP hD hS hA (rest := []) (cB_addNumber l D cI cJ wA wA0 N u16 (4 : Int32) u61.2.1 u61.2.2 u74 e74) k_W_40 [11, 12] [none, none, none, none, none, none, none, none, none, none, none, (some 0), (some 1)] [(xA, .inr (5, [.ref dA, .ref iA, .ref wA])), (dA, .inr (1, [.ref dA0, .ref dA1, .ref dA2, .ref dA3, .ref dA4, .int d_classCount, .int d_propertyCount])), (dA0, .inl (cI, 6, .inl d_parents)), (dA1, .inl (cI, 8, .inl d_owners)), (dA2, .inl (cI, 8, .inl d_letters)), (dA3, .inl (cI, 8, .inl d_sorts)), (dA4, .inl (cI, 8, .inl d_targets)), (iA, .inr (3, [.ref iA0, .ref iA1, .ref iA2, .int i_count])), (iA0, .inl (cI, 12, .inl i_kinds)), (iA1, .inl (cJ, 96, .inr (.inl i_values))), (iA2, .inl (cI, 96, .inl i_partners)), (wA, .inr (0, [.ref wA0, .int u74.2.1])), (wA0, .inl (cI, 120, .inl u74.2.2))] rfl rfl rfl ⟨rfl, rfl, rfl, rfl, rfl, rfl, rfl, rfl, rfl, rfl, rfl, rfl, rfl, trivial⟩ (by decide +kernel) 0 rfl rfl ⟨rfl, rfl⟩ ⟨by simp only [rL]; omega, by simp only [rL]; omega⟩ rfl hl.1 (Nat.le_of_ble_eq_true rfl) ⟨Nat.le_refl _, Nat.le_refl _⟩ dW_writeProperty_74 rfl (fun H locs hP hD hS => ?_)
      refine b_ifeq (tgt := 84) hx hb dW_writeProperty_77 (by decide) (fun h77 => ?_) (fun h77 => ?_)
      · have h := g_f h h77
        refine lv_iconst (v := (0 : Int32)) hx hb dW_writeProperty_84 (by decide) ?_
        cases h
        exact mu_z S hr hlocks hP hS dW_writeProperty_85 rfl rfl
      · have h := g_t h h77
        refine lv_iconst (v := (1 : Int32)) hx hb dW_writeProperty_80 (by decide) ?_
        refine lv_goto (tgt := 85) hx hb dW_writeProperty_81 (by decide) ?_
        cases h
        exact mu_z S hr hlocks hP hS dW_writeProperty_85 rfl rfl
  have h := g_f h h29_0
  by_cases h29_1 : u26 = (1 : Int32)
  · have h := g_t h h29_1
    refine lv_tableIn (off := 57) (tgt := 86) hx hb dW_writeProperty_29 (by rw [h29_1]; decide) (by rw [h29_1]; decide) (by rw [h29_1]; rfl) (by decide) ?_
    refine lv_aload_n hx hb dW_writeProperty_86 rfl (lv_at hl 2 rfl) ?_
    refine lv_bipush (v := (18 : Int32)) hx hb dW_writeProperty_87 (by decide) ?_
    refine lv_iload hx hb dW_writeProperty_89 (lv_at hl 1 rfl) ?_
    obtain ⟨u91, e91, h⟩ := g_bind h
    refine mu_v S hN hK hP hD hS hA (rest := []) (cW_writeHead l D cI cJ xA dA dA0 dA1 dA2 dA3 dA4 iA iA0 iA1 iA2 wA wA0 (18 : Int32) u5 d_classCount d_propertyCount d_parents d_owners d_letters d_sorts d_targets i_count i_kinds i_values i_partners w_count w_row u91 e91) k_W_82 [0, 1, 2, 3, 4, 5, 6, 7, 8, 9, 10, 11, 12] [(some 0), (some 1), (some 2), (some 3), (some 4), (some 5), (some 6), (some 7), (some 8), (some 9), (some 10), (some 11), (some 12)] [(xA, .inr (5, [.ref dA, .ref iA, .ref wA])), (dA, .inr (1, [.ref dA0, .ref dA1, .ref dA2, .ref dA3, .ref dA4, .int d_classCount, .int d_propertyCount])), (dA0, .inl (cI, 6, .inl d_parents)), (dA1, .inl (cI, 8, .inl d_owners)), (dA2, .inl (cI, 8, .inl d_letters)), (dA3, .inl (cI, 8, .inl d_sorts)), (dA4, .inl (cI, 8, .inl d_targets)), (iA, .inr (3, [.ref iA0, .ref iA1, .ref iA2, .int i_count])), (iA0, .inl (cI, 12, .inl i_kinds)), (iA1, .inl (cJ, 96, .inr (.inl i_values))), (iA2, .inl (cI, 96, .inl i_partners)), (wA, .inr (0, [.ref wA0, .int u91.2.1])), (wA0, .inl (cI, 120, .inl u91.2.2))] rfl rfl rfl ⟨rfl, rfl, rfl, rfl, rfl, rfl, rfl, rfl, rfl, rfl, rfl, rfl, rfl, trivial⟩ (by decide +kernel) 5 rfl rfl ⟨rfl, rfl⟩ ⟨by simp only [rL]; omega, by simp only [rL]; omega⟩ rfl hl.1 (Nat.le_of_ble_eq_true rfl) ⟨Nat.le_refl _, Nat.le_refl _⟩ dW_writeProperty_91 rfl (fun H locs hP hD hS => ?_)
    refine b_ifeq (tgt := 115) hx hb dW_writeProperty_94 (by decide) (fun h94 => ?_) (fun h94 => ?_)
    · have h := g_f h h94
      refine lv_iconst (v := (0 : Int32)) hx hb dW_writeProperty_115 (by decide) ?_
      cases h
      exact mu_z S hr hlocks hP hS dW_writeProperty_116 rfl rfl
    · have h := g_t h h94
      refine lv_aload_n hx hb dW_writeProperty_97 rfl (lv_at hl 2 rfl) ?_
      refine gf S hK hP 0 5 2 u_zW w_147 rfl rfl (by decide) rfl dW_writeProperty_98 ?_
      refine lv_lload hx hb dW_writeProperty_101 (lv_at hl 0 rfl) ?_
      refine lv_bipush (v := (8 : Int32)) hx hb dW_writeProperty_103 (by decide) ?_
      obtain ⟨u105, e105, h⟩ := g_bind h
      refine mu_v S hN hK hP hD hS hA (rest := []) (cB_addNumber l D cI cJ wA wA0 N u16 (8 : Int32) u91.2.1 u91.2.2 u105 e105) k_W_40 [11, 12] [none, none, none, none, none, none, none, none, none, none, none, (some 0), (some 1)] [(xA, .inr (5, [.ref dA, .ref iA, .ref wA])), (dA, .inr (1, [.ref dA0, .ref dA1, .ref dA2, .ref dA3, .ref dA4, .int d_classCount, .int d_propertyCount])), (dA0, .inl (cI, 6, .inl d_parents)), (dA1, .inl (cI, 8, .inl d_owners)), (dA2, .inl (cI, 8, .inl d_letters)), (dA3, .inl (cI, 8, .inl d_sorts)), (dA4, .inl (cI, 8, .inl d_targets)), (iA, .inr (3, [.ref iA0, .ref iA1, .ref iA2, .int i_count])), (iA0, .inl (cI, 12, .inl i_kinds)), (iA1, .inl (cJ, 96, .inr (.inl i_values))), (iA2, .inl (cI, 96, .inl i_partners)), (wA, .inr (0, [.ref wA0, .int u105.2.1])), (wA0, .inl (cI, 120, .inl u105.2.2))] rfl rfl rfl ⟨rfl, rfl, rfl, rfl, rfl, rfl, rfl, rfl, rfl, rfl, rfl, rfl, rfl, trivial⟩ (by decide +kernel) 0 rfl rfl ⟨rfl, rfl⟩ ⟨by simp only [rL]; omega, by simp only [rL]; omega⟩ rfl hl.1 (Nat.le_of_ble_eq_true rfl) ⟨Nat.le_refl _, Nat.le_refl _⟩ dW_writeProperty_105 rfl (fun H locs hP hD hS => ?_)
      refine b_ifeq (tgt := 115) hx hb dW_writeProperty_108 (by decide) (fun h108 => ?_) (fun h108 => ?_)
      · have h := g_f h h108
        refine lv_iconst (v := (0 : Int32)) hx hb dW_writeProperty_115 (by decide) ?_
        cases h
        exact mu_z S hr hlocks hP hS dW_writeProperty_116 rfl rfl
      · have h := g_t h h108
        refine lv_iconst (v := (1 : Int32)) hx hb dW_writeProperty_111 (by decide) ?_
        refine lv_goto (tgt := 116) hx hb dW_writeProperty_112 (by decide) ?_
        cases h
        exact mu_z S hr hlocks hP hS dW_writeProperty_116 rfl rfl
  have h := g_f h h29_1
  by_cases h29_2 : u26 = (2 : Int32)
  · have h := g_t h h29_2
    refine lv_tableIn (off := 88) (tgt := 117) hx hb dW_writeProperty_29 (by rw [h29_2]; decide) (by rw [h29_2]; decide) (by rw [h29_2]; rfl) (by decide) ?_
    refine lv_aload_n hx hb dW_writeProperty_117 rfl (lv_at hl 2 rfl) ?_
    refine lv_bipush (v := (8 : Int32)) hx hb dW_writeProperty_118 (by decide) ?_
    refine lv_iload hx hb dW_writeProperty_120 (lv_at hl 1 rfl) ?_
    obtain ⟨u122, e122, h⟩ := g_bind h
    refine mu_v S hN hK hP hD hS hA (rest := []) (cW_writeHead l D cI cJ xA dA dA0 dA1 dA2 dA3 dA4 iA iA0 iA1 iA2 wA wA0 (8 : Int32) u5 d_classCount d_propertyCount d_parents d_owners d_letters d_sorts d_targets i_count i_kinds i_values i_partners w_count w_row u122 e122) k_W_82 [0, 1, 2, 3, 4, 5, 6, 7, 8, 9, 10, 11, 12] [(some 0), (some 1), (some 2), (some 3), (some 4), (some 5), (some 6), (some 7), (some 8), (some 9), (some 10), (some 11), (some 12)] [(xA, .inr (5, [.ref dA, .ref iA, .ref wA])), (dA, .inr (1, [.ref dA0, .ref dA1, .ref dA2, .ref dA3, .ref dA4, .int d_classCount, .int d_propertyCount])), (dA0, .inl (cI, 6, .inl d_parents)), (dA1, .inl (cI, 8, .inl d_owners)), (dA2, .inl (cI, 8, .inl d_letters)), (dA3, .inl (cI, 8, .inl d_sorts)), (dA4, .inl (cI, 8, .inl d_targets)), (iA, .inr (3, [.ref iA0, .ref iA1, .ref iA2, .int i_count])), (iA0, .inl (cI, 12, .inl i_kinds)), (iA1, .inl (cJ, 96, .inr (.inl i_values))), (iA2, .inl (cI, 96, .inl i_partners)), (wA, .inr (0, [.ref wA0, .int u122.2.1])), (wA0, .inl (cI, 120, .inl u122.2.2))] rfl rfl rfl ⟨rfl, rfl, rfl, rfl, rfl, rfl, rfl, rfl, rfl, rfl, rfl, rfl, rfl, trivial⟩ (by decide +kernel) 5 rfl rfl ⟨rfl, rfl⟩ ⟨by simp only [rL]; omega, by simp only [rL]; omega⟩ rfl hl.1 (Nat.le_of_ble_eq_true rfl) ⟨Nat.le_refl _, Nat.le_refl _⟩ dW_writeProperty_122 rfl (fun H locs hP hD hS => ?_)
    refine b_ifeq (tgt := 145) hx hb dW_writeProperty_125 (by decide) (fun h125 => ?_) (fun h125 => ?_)
    · have h := g_f h h125
      refine lv_iconst (v := (0 : Int32)) hx hb dW_writeProperty_145 (by decide) ?_
      cases h
      exact mu_z S hr hlocks hP hS dW_writeProperty_146 rfl rfl
    · have h := g_t h h125
      refine lv_aload_n hx hb dW_writeProperty_128 rfl (lv_at hl 2 rfl) ?_
      refine gf S hK hP 0 5 2 u_zW w_147 rfl rfl (by decide) rfl dW_writeProperty_129 ?_
      refine lv_lload hx hb dW_writeProperty_132 (lv_at hl 0 rfl) ?_
      refine lv_iconst (v := (1 : Int32)) hx hb dW_writeProperty_134 (by decide) ?_
      obtain ⟨u135, e135, h⟩ := g_bind h
      refine mu_v S hN hK hP hD hS hA (rest := []) (cB_addNumber l D cI cJ wA wA0 N u16 (1 : Int32) u122.2.1 u122.2.2 u135 e135) k_W_40 [11, 12] [none, none, none, none, none, none, none, none, none, none, none, (some 0), (some 1)] [(xA, .inr (5, [.ref dA, .ref iA, .ref wA])), (dA, .inr (1, [.ref dA0, .ref dA1, .ref dA2, .ref dA3, .ref dA4, .int d_classCount, .int d_propertyCount])), (dA0, .inl (cI, 6, .inl d_parents)), (dA1, .inl (cI, 8, .inl d_owners)), (dA2, .inl (cI, 8, .inl d_letters)), (dA3, .inl (cI, 8, .inl d_sorts)), (dA4, .inl (cI, 8, .inl d_targets)), (iA, .inr (3, [.ref iA0, .ref iA1, .ref iA2, .int i_count])), (iA0, .inl (cI, 12, .inl i_kinds)), (iA1, .inl (cJ, 96, .inr (.inl i_values))), (iA2, .inl (cI, 96, .inl i_partners)), (wA, .inr (0, [.ref wA0, .int u135.2.1])), (wA0, .inl (cI, 120, .inl u135.2.2))] rfl rfl rfl ⟨rfl, rfl, rfl, rfl, rfl, rfl, rfl, rfl, rfl, rfl, rfl, rfl, rfl, trivial⟩ (by decide +kernel) 0 rfl rfl ⟨rfl, rfl⟩ ⟨by simp only [rL]; omega, by simp only [rL]; omega⟩ rfl hl.1 (Nat.le_of_ble_eq_true rfl) ⟨Nat.le_refl _, Nat.le_refl _⟩ dW_writeProperty_135 rfl (fun H locs hP hD hS => ?_)
      refine b_ifeq (tgt := 145) hx hb dW_writeProperty_138 (by decide) (fun h138 => ?_) (fun h138 => ?_)
      · have h := g_f h h138
        refine lv_iconst (v := (0 : Int32)) hx hb dW_writeProperty_145 (by decide) ?_
        cases h
        exact mu_z S hr hlocks hP hS dW_writeProperty_146 rfl rfl
      · have h := g_t h h138
        refine lv_iconst (v := (1 : Int32)) hx hb dW_writeProperty_141 (by decide) ?_
        refine lv_goto (tgt := 146) hx hb dW_writeProperty_142 (by decide) ?_
        cases h
        exact mu_z S hr hlocks hP hS dW_writeProperty_146 rfl rfl
  have h := g_f h h29_2
  refine lv_tableD (tgt := 147) hx hb dW_writeProperty_29 (fun q1 q2 => by have a0 := lv_neT h29_0 (a := 0) (by decide); have a1 := lv_neT h29_1 (a := 1) (by decide); have a2 := lv_neT h29_2 (a := 2) (by decide); exfalso; omega) (by decide) ?_
  refine lv_aload_n hx hb dW_writeProperty_147 rfl (lv_at hl 2 rfl) ?_
  refine gf S hK hP 0 5 1 u_zW w_146 rfl rfl (by decide) rfl dW_writeProperty_148 ?_
  refine lv_iload_n hx hb dW_writeProperty_151 rfl (lv_at hl 3 rfl) ?_
  refine lv_iload_n hx hb dW_writeProperty_152 rfl (lv_at hl 4 rfl) ?_
  obtain ⟨u153, e153, h⟩ := g_bind h
  refine pu_v S hN hK hP (rest := []) (cI_partnerAt l D cI cJ iA iA0 iA1 iA2 v1 v2 i_count i_kinds i_values i_partners u153 e153) k_W_85 [7, 8, 9, 10] rfl 3 rfl rfl ⟨rfl, rfl⟩ ⟨by simp only [rL]; omega, by simp only [rL]; omega⟩ rfl hl.1 (Nat.le_of_ble_eq_true rfl) ⟨Nat.le_refl _, Nat.le_refl _⟩ dW_writeProperty_153 rfl ?_
  refine lv_istore (lv' := [(7, .int u153), (5, .long u16), (4, .int u5), (0, .ref xA), (1, .int v1), (2, .int v2), (3, .int v3)]) hx hb dW_writeProperty_156 hl (Nat.le_of_ble_eq_true rfl) rfl (fun ls hl => ?_)
  refine lv_aload_n hx hb dW_writeProperty_158 rfl (lv_at hl 3 rfl) ?_
  refine lv_iload hx hb dW_writeProperty_159 (lv_at hl 2 rfl) ?_
  refine lv_iload hx hb dW_writeProperty_161 (lv_at hl 0 rfl) ?_
  refine lv_aload_n hx hb dW_writeProperty_163 rfl (lv_at hl 3 rfl) ?_
  refine gf S hK hP 0 5 0 u_zW w_145 rfl rfl (by decide) rfl dW_writeProperty_164 ?_
  refine lv_iload_n hx hb dW_writeProperty_167 rfl (lv_at hl 5 rfl) ?_
  obtain ⟨u168, e168, h⟩ := g_bind h
  refine pu_v S hN hK hP (rest := [.int u153, .int u5, .ref xA]) (cD_target l D cI cJ dA dA0 dA1 dA2 dA3 dA4 v2 d_classCount d_propertyCount d_parents d_owners d_letters d_sorts d_targets u168 e168) k_W_89 [1, 2, 3, 4, 5, 6] rfl 1 rfl rfl ⟨rfl, rfl⟩ ⟨by simp only [rL]; omega, by simp only [rL]; omega⟩ rfl hl.1 (Nat.le_of_ble_eq_true rfl) ⟨Nat.le_refl _, Nat.le_refl _⟩ dW_writeProperty_168 rfl ?_
  refine lv_iload_n hx hb dW_writeProperty_171 rfl (lv_at hl 6 rfl) ?_
  obtain ⟨u172, e172, h⟩ := g_bind h
  refine mu_v S hN hK hP hD hS hA (rest := []) (cW_writeLink l D cI cJ xA dA dA0 dA1 dA2 dA3 dA4 iA iA0 iA1 iA2 wA wA0 N rk u5 u153 u168 v3 d_classCount d_propertyCount d_parents d_owners d_letters d_sorts d_targets i_count i_kinds i_values i_partners w_count w_row kk hrk u172 e172) k_W_92 [0, 1, 2, 3, 4, 5, 6, 7, 8, 9, 10, 11, 12] [(some 0), (some 1), (some 2), (some 3), (some 4), (some 5), (some 6), (some 7), (some 8), (some 9), (some 10), (some 11), (some 12)] [(xA, .inr (5, [.ref dA, .ref iA, .ref wA])), (dA, .inr (1, [.ref dA0, .ref dA1, .ref dA2, .ref dA3, .ref dA4, .int d_classCount, .int d_propertyCount])), (dA0, .inl (cI, 6, .inl d_parents)), (dA1, .inl (cI, 8, .inl d_owners)), (dA2, .inl (cI, 8, .inl d_letters)), (dA3, .inl (cI, 8, .inl d_sorts)), (dA4, .inl (cI, 8, .inl d_targets)), (iA, .inr (3, [.ref iA0, .ref iA1, .ref iA2, .int i_count])), (iA0, .inl (cI, 12, .inl i_kinds)), (iA1, .inl (cJ, 96, .inr (.inl i_values))), (iA2, .inl (cI, 96, .inl i_partners)), (wA, .inr (0, [.ref wA0, .int u172.2.1])), (wA0, .inl (cI, 120, .inl u172.2.2))] rfl rfl rfl ⟨rfl, rfl, rfl, rfl, rfl, rfl, rfl, rfl, rfl, rfl, rfl, rfl, rfl, trivial⟩ (by decide +kernel) 5 rfl rfl ⟨rfl, rfl⟩ ⟨by simp only [rL]; omega, by simp only [rL]; omega⟩ rfl hl.1 (Nat.le_of_ble_eq_true rfl) ⟨Nat.le_refl _, Nat.le_refl _⟩ dW_writeProperty_172 rfl (fun H locs hP hD hS => ?_)
  cases h
  exact mu_z S hr hlocks hP hS dW_writeProperty_175 rfl rfl
def fW_writeOwnProperties_6 (N : Nat) (rk : Int32 × Int32 × Int32 × Int32 × (Nat → Int32) → Option (Bool × Int32 × (Nat → Int32))) (v1 : Int32) (v2 : Int32) (v3 : Int32) (d_classCount : Int32) (d_propertyCount : Int32) (d_parents : (Nat → Int32)) (d_owners : (Nat → Int32)) (d_letters : (Nat → Int32)) (d_sorts : (Nat → Int32)) (d_targets : (Nat → Int32)) (i_count : Int32) (i_kinds : (Nat → Int32)) (i_values : (Nat → Int64)) (i_partners : (Nat → Int32)) (rc6 : Bool × Int32 × Int32 × (Nat → Int32) → Option (Bool × Int32 × (Nat → Int32))) (v4 : Bool) (v5 : Int32) (w_count : Int32) (w_row : (Nat → Int32)) : Option (Bool × Int32 × (Nat → Int32)) :=
  if (8 : Int32) ≤ v5 then (some (v4, w_count, w_row)) else (if v4 = true then ((fD_isOwn v5 v2 d_propertyCount d_owners).bind fun u25 => (if u25 = true then ((fW_writeProperty N rk v1 v5 v3 d_classCount d_propertyCount d_parents d_owners d_letters d_sorts d_targets i_count i_kinds i_values i_partners w_count w_row).bind fun u36 => (if u36.1 = true then (rc6 (true, v5 + (1 : Int32), u36.2.1, u36.2.2)) else (rc6 (false, v5 + (1 : Int32), u36.2.1, u36.2.2)))) else (rc6 (true, v5 + (1 : Int32), w_count, w_row)))) else (some (v4, w_count, w_row)))
def fW_writeOwnProperties_6l (N : Nat) (rk : Int32 × Int32 × Int32 × Int32 × (Nat → Int32) → Option (Bool × Int32 × (Nat → Int32))) (v1 : Int32) (v2 : Int32) (v3 : Int32) (d_classCount : Int32) (d_propertyCount : Int32) (d_parents : (Nat → Int32)) (d_owners : (Nat → Int32)) (d_letters : (Nat → Int32)) (d_sorts : (Nat → Int32)) (d_targets : (Nat → Int32)) (i_count : Int32) (i_kinds : (Nat → Int32)) (i_values : (Nat → Int64)) (i_partners : (Nat → Int32)) : Nat → Bool × Int32 × Int32 × (Nat → Int32) → Option (Bool × Int32 × (Nat → Int32)) := lp (fun rc a => fW_writeOwnProperties_6 N rk v1 v2 v3 d_classCount d_propertyCount d_parents d_owners d_letters d_sorts d_targets i_count i_kinds i_values i_partners rc a.1 a.2.1 a.2.2.1 a.2.2.2)
def fW_writeOwnProperties (N : Nat) (rk : Int32 × Int32 × Int32 × Int32 × (Nat → Int32) → Option (Bool × Int32 × (Nat → Int32))) (v1 : Int32) (v2 : Int32) (v3 : Int32) (d_classCount : Int32) (d_propertyCount : Int32) (d_parents : (Nat → Int32)) (d_owners : (Nat → Int32)) (d_letters : (Nat → Int32)) (d_sorts : (Nat → Int32)) (d_targets : (Nat → Int32)) (i_count : Int32) (i_kinds : (Nat → Int32)) (i_values : (Nat → Int64)) (i_partners : (Nat → Int32)) (w_count : Int32) (w_row : (Nat → Int32)) : Option (Bool × Int32 × (Nat → Int32)) :=
  fW_writeOwnProperties_6l N rk v1 v2 v3 d_classCount d_propertyCount d_parents d_owners d_letters d_sorts d_targets i_count i_kinds i_values i_partners N (true, (0 : Int32), w_count, w_row)
set_option maxHeartbeats 4000000 in
set_option maxRecDepth 100000 in
theorem cW_writeOwnProperties (l : Launch) (D : va_G) (cI cJ : ClassId) (xA dA dA0 dA1 dA2 dA3 dA4 iA iA0 iA1 iA2 wA wA0 : Nat) (N : Nat) (rk : Int32 × Int32 × Int32 × Int32 × (Nat → Int32) → Option (Bool × Int32 × (Nat → Int32))) (v1 : Int32) (v2 : Int32) (v3 : Int32) (d_classCount : Int32) (d_propertyCount : Int32) (d_parents : (Nat → Int32)) (d_owners : (Nat → Int32)) (d_letters : (Nat → Int32)) (d_sorts : (Nat → Int32)) (d_targets : (Nat → Int32)) (i_count : Int32) (i_kinds : (Nat → Int32)) (i_values : (Nat → Int64)) (i_partners : (Nat → Int32)) (w_count : Int32) (w_row : (Nat → Int32)) (kk : Nat) (hrk : ∀ (v1 : Int32) (v2 : Int32) (v3 : Int32) (w_count : Int32) (w_row : (Nat → Int32)) (r : Bool × Int32 × (Nat → Int32)), rk (v1, v2, v3, w_count, w_row) = some r → Mu l yW_writeDocument bW_writeDocument 8 (some .boolean) (rL (kk + 10)) [.ref xA, .int v1, .int v2, .int v3] D cI cJ [(xA, .inr (5, [.ref dA, .ref iA, .ref wA])), (dA, .inr (1, [.ref dA0, .ref dA1, .ref dA2, .ref dA3, .ref dA4, .int d_classCount, .int d_propertyCount])), (dA0, .inl (cI, 6, .inl d_parents)), (dA1, .inl (cI, 8, .inl d_owners)), (dA2, .inl (cI, 8, .inl d_letters)), (dA3, .inl (cI, 8, .inl d_sorts)), (dA4, .inl (cI, 8, .inl d_targets)), (iA, .inr (3, [.ref iA0, .ref iA1, .ref iA2, .int i_count])), (iA0, .inl (cI, 12, .inl i_kinds)), (iA1, .inl (cJ, 96, .inr (.inl i_values))), (iA2, .inl (cI, 96, .inl i_partners)), (wA, .inr (0, [.ref wA0, .int w_count])), (wA0, .inl (cI, 120, .inl w_row))] (some (.int (bI r.1))) [(xA, .inr (5, [.ref dA, .ref iA, .ref wA])), (dA, .inr (1, [.ref dA0, .ref dA1, .ref dA2, .ref dA3, .ref dA4, .int d_classCount, .int d_propertyCount])), (dA0, .inl (cI, 6, .inl d_parents)), (dA1, .inl (cI, 8, .inl d_owners)), (dA2, .inl (cI, 8, .inl d_letters)), (dA3, .inl (cI, 8, .inl d_sorts)), (dA4, .inl (cI, 8, .inl d_targets)), (iA, .inr (3, [.ref iA0, .ref iA1, .ref iA2, .int i_count])), (iA0, .inl (cI, 12, .inl i_kinds)), (iA1, .inl (cJ, 96, .inr (.inl i_values))), (iA2, .inl (cI, 96, .inl i_partners)), (wA, .inr (0, [.ref wA0, .int r.2.1])), (wA0, .inl (cI, 120, .inl r.2.2))]) (r : Bool × Int32 × (Nat → Int32)) (h : fW_writeOwnProperties N rk v1 v2 v3 d_classCount d_propertyCount d_parents d_owners d_letters d_sorts d_targets i_count i_kinds i_values i_partners w_count w_row = some r) : Mu l yW_writeOwnProperties bW_writeOwnProperties 6 (some .boolean) (rL (kk + 13)) [.ref xA, .int v1, .int v2, .int v3] D cI cJ [(xA, .inr (5, [.ref dA, .ref iA, .ref wA])), (dA, .inr (1, [.ref dA0, .ref dA1, .ref dA2, .ref dA3, .ref dA4, .int d_classCount, .int d_propertyCount])), (dA0, .inl (cI, 6, .inl d_parents)), (dA1, .inl (cI, 8, .inl d_owners)), (dA2, .inl (cI, 8, .inl d_letters)), (dA3, .inl (cI, 8, .inl d_sorts)), (dA4, .inl (cI, 8, .inl d_targets)), (iA, .inr (3, [.ref iA0, .ref iA1, .ref iA2, .int i_count])), (iA0, .inl (cI, 12, .inl i_kinds)), (iA1, .inl (cJ, 96, .inr (.inl i_values))), (iA2, .inl (cI, 96, .inl i_partners)), (wA, .inr (0, [.ref wA0, .int w_count])), (wA0, .inl (cI, 120, .inl w_row))] (some (.int (bI r.1))) [(xA, .inr (5, [.ref dA, .ref iA, .ref wA])), (dA, .inr (1, [.ref dA0, .ref dA1, .ref dA2, .ref dA3, .ref dA4, .int d_classCount, .int d_propertyCount])), (dA0, .inl (cI, 6, .inl d_parents)), (dA1, .inl (cI, 8, .inl d_owners)), (dA2, .inl (cI, 8, .inl d_letters)), (dA3, .inl (cI, 8, .inl d_sorts)), (dA4, .inl (cI, 8, .inl d_targets)), (iA, .inr (3, [.ref iA0, .ref iA1, .ref iA2, .int i_count])), (iA0, .inl (cI, 12, .inl i_kinds)), (iA1, .inl (cJ, 96, .inr (.inl i_values))), (iA2, .inl (cI, 96, .inl i_partners)), (wA, .inr (0, [.ref wA0, .int r.2.1])), (wA0, .inl (cI, 120, .inl r.2.2))] := by
  refine mu_of (by decide) (Nat.le_of_ble_eq_true rfl) ?_
  intro p e s m below meth c ls A S hr hlocks hN hK hP hD hA hl
  have hS : va_S A s.heap s.heap [] := va_S.rf
  have hx := S.1
  have hb := S.2.1
  have hl : lv_has ls 6 [(0, .ref xA), (1, .int v1), (2, .int v2), (3, .int v3)] := hl
  unfold fW_writeOwnProperties at h
  have t6 : ∀ (k : Nat) (a : Bool × Int32 × Int32 × (Nat → Int32)), fW_writeOwnProperties_6l N rk v1 v2 v3 d_classCount d_propertyCount d_parents d_owners d_letters d_sorts d_targets i_count i_kinds i_values i_partners k a = some r → ∀ (ls : Array Slot) (H : Heap) (locs : List Loc), lv_has ls 6 [(0, .ref xA), (1, .int v1), (2, .int v2), (3, .int v3), (4, .int (bI a.1)), (5, .int a.2.1)] → va_P D cs [(xA, .inr (5, [.ref dA, .ref iA, .ref wA])), (dA, .inr (1, [.ref dA0, .ref dA1, .ref dA2, .ref dA3, .ref dA4, .int d_classCount, .int d_propertyCount])), (dA0, .inl (cI, 6, .inl d_parents)), (dA1, .inl (cI, 8, .inl d_owners)), (dA2, .inl (cI, 8, .inl d_letters)), (dA3, .inl (cI, 8, .inl d_sorts)), (dA4, .inl (cI, 8, .inl d_targets)), (iA, .inr (3, [.ref iA0, .ref iA1, .ref iA2, .int i_count])), (iA0, .inl (cI, 12, .inl i_kinds)), (iA1, .inl (cJ, 96, .inr (.inl i_values))), (iA2, .inl (cI, 96, .inl i_partners)), (wA, .inr (0, [.ref wA0, .int a.2.2.1])), (wA0, .inl (cI, 120, .inl a.2.2.2))] H → va_D A [(xA, .inr (5, [.ref dA, .ref iA, .ref wA])), (dA, .inr (1, [.ref dA0, .ref dA1, .ref dA2, .ref dA3, .ref dA4, .int d_classCount, .int d_propertyCount])), (dA0, .inl (cI, 6, .inl d_parents)), (dA1, .inl (cI, 8, .inl d_owners)), (dA2, .inl (cI, 8, .inl d_letters)), (dA3, .inl (cI, 8, .inl d_sorts)), (dA4, .inl (cI, 8, .inl d_targets)), (iA, .inr (3, [.ref iA0, .ref iA1, .ref iA2, .int i_count])), (iA0, .inl (cI, 12, .inl i_kinds)), (iA1, .inl (cJ, 96, .inr (.inl i_values))), (iA2, .inl (cI, 96, .inl i_partners)), (wA, .inr (0, [.ref wA0, .int a.2.2.1])), (wA0, .inl (cI, 120, .inl a.2.2.2))] → va_S A s.heap H locs → W p l e (rL (kk + 13)) s m ([.ref xA, .int v1, .int v2, .int v3] : List Value).toArray below meth c H locs 0 0 (MQ below (fun _ st oc t => (oc = .returned (some (.int (bI r.1))) ∧ va_P D cs [(xA, .inr (5, [.ref dA, .ref iA, .ref wA])), (dA, .inr (1, [.ref dA0, .ref dA1, .ref dA2, .ref dA3, .ref dA4, .int d_classCount, .int d_propertyCount])), (dA0, .inl (cI, 6, .inl d_parents)), (dA1, .inl (cI, 8, .inl d_owners)), (dA2, .inl (cI, 8, .inl d_letters)), (dA3, .inl (cI, 8, .inl d_sorts)), (dA4, .inl (cI, 8, .inl d_targets)), (iA, .inr (3, [.ref iA0, .ref iA1, .ref iA2, .int i_count])), (iA0, .inl (cI, 12, .inl i_kinds)), (iA1, .inl (cJ, 96, .inr (.inl i_values))), (iA2, .inl (cI, 96, .inl i_partners)), (wA, .inr (0, [.ref wA0, .int r.2.1])), (wA0, .inl (cI, 120, .inl r.2.2))] t.heap) ∧ va_F A st t) ([.ref xA, .int v1, .int v2, .int v3] : List Value).toArray s 0 0 A) (F0 m 6 ls []) := by
    unfold fW_writeOwnProperties_6l
    refine lp_some ?_
    intro rc6 hrc6 a h
    obtain ⟨v4, v5, w_count, w_row⟩ := a
    intro ls H locs hl hP hD hS
    have h : fW_writeOwnProperties_6 N rk v1 v2 v3 d_classCount d_propertyCount d_parents d_owners d_letters d_sorts d_targets i_count i_kinds i_values i_partners rc6 v4 v5 w_count w_row = some r := h
    have hl : lv_has ls 6 [(0, .ref xA), (1, .int v1), (2, .int v2), (3, .int v3), (4, .int (bI v4)), (5, .int v5)] := hl
    have hP : va_P D cs [(xA, .inr (5, [.ref dA, .ref iA, .ref wA])), (dA, .inr (1, [.ref dA0, .ref dA1, .ref dA2, .ref dA3, .ref dA4, .int d_classCount, .int d_propertyCount])), (dA0, .inl (cI, 6, .inl d_parents)), (dA1, .inl (cI, 8, .inl d_owners)), (dA2, .inl (cI, 8, .inl d_letters)), (dA3, .inl (cI, 8, .inl d_sorts)), (dA4, .inl (cI, 8, .inl d_targets)), (iA, .inr (3, [.ref iA0, .ref iA1, .ref iA2, .int i_count])), (iA0, .inl (cI, 12, .inl i_kinds)), (iA1, .inl (cJ, 96, .inr (.inl i_values))), (iA2, .inl (cI, 96, .inl i_partners)), (wA, .inr (0, [.ref wA0, .int w_count])), (wA0, .inl (cI, 120, .inl w_row))] H := hP
    have hD : va_D A [(xA, .inr (5, [.ref dA, .ref iA, .ref wA])), (dA, .inr (1, [.ref dA0, .ref dA1, .ref dA2, .ref dA3, .ref dA4, .int d_classCount, .int d_propertyCount])), (dA0, .inl (cI, 6, .inl d_parents)), (dA1, .inl (cI, 8, .inl d_owners)), (dA2, .inl (cI, 8, .inl d_letters)), (dA3, .inl (cI, 8, .inl d_sorts)), (dA4, .inl (cI, 8, .inl d_targets)), (iA, .inr (3, [.ref iA0, .ref iA1, .ref iA2, .int i_count])), (iA0, .inl (cI, 12, .inl i_kinds)), (iA1, .inl (cJ, 96, .inr (.inl i_values))), (iA2, .inl (cI, 96, .inl i_partners)), (wA, .inr (0, [.ref wA0, .int w_count])), (wA0, .inl (cI, 120, .inl w_row))] := hD
    unfold fW_writeOwnProperties_6 at h
    refine lv_iload hx hb dW_writeOwnProperties_6 (lv_at hl 5 rfl) ?_
    refine lv_bipush (v := (8 : Int32)) hx hb dW_writeOwnProperties_8 (by decide) ?_
    refine lv_icmp_ge (tgt := 55) hx hb dW_writeOwnProperties_10 (by decide) (fun h10 => ?_) (fun h10 => ?_)
    · have h := g_t h h10
      refine lv_iload hx hb dW_writeOwnProperties_55 (lv_at hl 4 rfl) ?_
      cases h
      exact mu_z S hr hlocks hP hS dW_writeOwnProperties_57 rfl rfl
    · have h := g_f h h10
      refine lv_iload hx hb dW_writeOwnProperties_13 (lv_at hl 4 rfl) ?_
      refine b_ifeq (tgt := 55) hx hb dW_writeOwnProperties_15 (by decide) (fun h15 => ?_) (fun h15 => ?_)
      · have h := g_f h h15
        refine lv_iload hx hb dW_writeOwnProperties_55 (lv_at hl 4 rfl) ?_
        cases h
        exact mu_z S hr hlocks hP hS dW_writeOwnProperties_57 rfl rfl
      · have h := g_t h h15
        refine lv_aload_n hx hb dW_writeOwnProperties_18 rfl (lv_at hl 0 rfl) ?_
        refine gf S hK hP 0 5 0 u_zW w_145 rfl rfl (by decide) rfl dW_writeOwnProperties_19 ?_
        refine lv_iload hx hb dW_writeOwnProperties_22 (lv_at hl 5 rfl) ?_
        refine lv_iload_n hx hb dW_writeOwnProperties_24 rfl (lv_at hl 2 rfl) ?_
        obtain ⟨u25, e25, h⟩ := g_bind h
        refine pu_v S hN hK hP (rest := []) (cD_isOwn l D cI cJ dA dA0 dA1 dA2 dA3 dA4 v5 v2 d_classCount d_propertyCount d_parents d_owners d_letters d_sorts d_targets u25 e25) k_W_66 [1, 2, 3, 4, 5, 6] rfl 1 rfl rfl ⟨rfl, rfl⟩ ⟨by simp only [rL]; omega, by simp only [rL]; omega⟩ rfl hl.1 (Nat.le_of_ble_eq_true rfl) ⟨Nat.le_refl _, Nat.le_refl _⟩ dW_writeOwnProperties_25 rfl ?_
        refine b_ifeq (tgt := 42) hx hb dW_writeOwnProperties_28 (by decide) (fun h28 => ?_) (fun h28 => ?_)
        · have h := g_f h h28
          refine lv_iconst (v := (1 : Int32)) hx hb dW_writeOwnProperties_42 (by decide) ?_
          refine lv_goto (tgt := 47) hx hb dW_writeOwnProperties_43 (by decide) ?_
          refine lv_istore (lv' := [(4, .int (bI true)), (0, .ref xA), (1, .int v1), (2, .int v2), (3, .int v3), (5, .int v5)]) hx hb dW_writeOwnProperties_47 hl (Nat.le_of_ble_eq_true rfl) rfl (fun ls hl => ?_)
          refine lv_iinc (k := 5) (v := v5 + (1 : Int32)) (lv' := [(5, .int (v5 + (1 : Int32))), (4, .int (bI true)), (0, .ref xA), (1, .int v1), (2, .int v2), (3, .int v3)]) hx hb dW_writeOwnProperties_49 hl rfl (congrArg (v5 + ·) (by decide : Int32.ofInt (1) = (1 : Int32))) (Nat.le_of_ble_eq_true rfl) rfl (fun ls hl => ?_)
          refine lv_goto (tgt := 6) hx hb dW_writeOwnProperties_52 (by decide) ?_
          exact hrc6 (true, v5 + (1 : Int32), w_count, w_row) h _ _ _ (lv_sub hl [2, 3, 4, 5, 1, 0] rfl) hP hD hS
        · have h := g_t h h28
          refine lv_aload_n hx hb dW_writeOwnProperties_31 rfl (lv_at hl 0 rfl) ?_
          refine lv_iload_n hx hb dW_writeOwnProperties_32 rfl (lv_at hl 1 rfl) ?_
          refine lv_iload hx hb dW_writeOwnProperties_33 (lv_at hl 5 rfl) ?_
          refine lv_iload_n hx hb dW_writeOwnProperties_35 rfl (lv_at hl 3 rfl) ?_
          obtain ⟨u36, e36, h⟩ := g_bind h
          refine mu_v S hN hK hP hD hS hA (rest := []) (cW_writeProperty l D cI cJ xA dA dA0 dA1 dA2 dA3 dA4 iA iA0 iA1 iA2 wA wA0 N rk v1 v5 v3 d_classCount d_propertyCount d_parents d_owners d_letters d_sorts d_targets i_count i_kinds i_values i_partners w_count w_row kk hrk u36 e36) k_W_69 [0, 1, 2, 3, 4, 5, 6, 7, 8, 9, 10, 11, 12] [(some 0), (some 1), (some 2), (some 3), (some 4), (some 5), (some 6), (some 7), (some 8), (some 9), (some 10), (some 11), (some 12)] [(xA, .inr (5, [.ref dA, .ref iA, .ref wA])), (dA, .inr (1, [.ref dA0, .ref dA1, .ref dA2, .ref dA3, .ref dA4, .int d_classCount, .int d_propertyCount])), (dA0, .inl (cI, 6, .inl d_parents)), (dA1, .inl (cI, 8, .inl d_owners)), (dA2, .inl (cI, 8, .inl d_letters)), (dA3, .inl (cI, 8, .inl d_sorts)), (dA4, .inl (cI, 8, .inl d_targets)), (iA, .inr (3, [.ref iA0, .ref iA1, .ref iA2, .int i_count])), (iA0, .inl (cI, 12, .inl i_kinds)), (iA1, .inl (cJ, 96, .inr (.inl i_values))), (iA2, .inl (cI, 96, .inl i_partners)), (wA, .inr (0, [.ref wA0, .int u36.2.1])), (wA0, .inl (cI, 120, .inl u36.2.2))] rfl rfl rfl ⟨rfl, rfl, rfl, rfl, rfl, rfl, rfl, rfl, rfl, rfl, rfl, rfl, rfl, trivial⟩ (by decide +kernel) 5 rfl rfl ⟨rfl, rfl⟩ ⟨by simp only [rL]; omega, by simp only [rL]; omega⟩ rfl hl.1 (Nat.le_of_ble_eq_true rfl) ⟨Nat.le_refl _, Nat.le_refl _⟩ dW_writeOwnProperties_36 rfl (fun H locs hP hD hS => ?_)
          refine b_ifeq (tgt := 46) hx hb dW_writeOwnProperties_39 (by decide) (fun h39 => ?_) (fun h39 => ?_)
          · have h := g_f h h39
            refine lv_iconst (v := (0 : Int32)) hx hb dW_writeOwnProperties_46 (by decide) ?_
            refine lv_istore (lv' := [(4, .int (bI false)), (0, .ref xA), (1, .int v1), (2, .int v2), (3, .int v3), (5, .int v5)]) hx hb dW_writeOwnProperties_47 hl (Nat.le_of_ble_eq_true rfl) rfl (fun ls hl => ?_)
            refine lv_iinc (k := 5) (v := v5 + (1 : Int32)) (lv' := [(5, .int (v5 + (1 : Int32))), (4, .int (bI false)), (0, .ref xA), (1, .int v1), (2, .int v2), (3, .int v3)]) hx hb dW_writeOwnProperties_49 hl rfl (congrArg (v5 + ·) (by decide : Int32.ofInt (1) = (1 : Int32))) (Nat.le_of_ble_eq_true rfl) rfl (fun ls hl => ?_)
            refine lv_goto (tgt := 6) hx hb dW_writeOwnProperties_52 (by decide) ?_
            exact hrc6 (false, v5 + (1 : Int32), u36.2.1, u36.2.2) h _ _ _ (lv_sub hl [2, 3, 4, 5, 1, 0] rfl) hP hD hS
          · have h := g_t h h39
            refine lv_iconst (v := (1 : Int32)) hx hb dW_writeOwnProperties_42 (by decide) ?_
            refine lv_goto (tgt := 47) hx hb dW_writeOwnProperties_43 (by decide) ?_
            refine lv_istore (lv' := [(4, .int (bI true)), (0, .ref xA), (1, .int v1), (2, .int v2), (3, .int v3), (5, .int v5)]) hx hb dW_writeOwnProperties_47 hl (Nat.le_of_ble_eq_true rfl) rfl (fun ls hl => ?_)
            refine lv_iinc (k := 5) (v := v5 + (1 : Int32)) (lv' := [(5, .int (v5 + (1 : Int32))), (4, .int (bI true)), (0, .ref xA), (1, .int v1), (2, .int v2), (3, .int v3)]) hx hb dW_writeOwnProperties_49 hl rfl (congrArg (v5 + ·) (by decide : Int32.ofInt (1) = (1 : Int32))) (Nat.le_of_ble_eq_true rfl) rfl (fun ls hl => ?_)
            refine lv_goto (tgt := 6) hx hb dW_writeOwnProperties_52 (by decide) ?_
            exact hrc6 (true, v5 + (1 : Int32), u36.2.1, u36.2.2) h _ _ _ (lv_sub hl [2, 3, 4, 5, 1, 0] rfl) hP hD hS
  refine lv_iconst (v := (1 : Int32)) hx hb dW_writeOwnProperties_0 (by decide) ?_
  refine lv_istore (lv' := [(4, .int (bI true)), (0, .ref xA), (1, .int v1), (2, .int v2), (3, .int v3)]) hx hb dW_writeOwnProperties_1 hl (Nat.le_of_ble_eq_true rfl) rfl (fun ls hl => ?_)
  refine lv_iconst (v := (0 : Int32)) hx hb dW_writeOwnProperties_3 (by decide) ?_
  refine lv_istore (lv' := [(5, .int (0 : Int32)), (4, .int (bI true)), (0, .ref xA), (1, .int v1), (2, .int v2), (3, .int v3)]) hx hb dW_writeOwnProperties_4 hl (Nat.le_of_ble_eq_true rfl) rfl (fun ls hl => ?_)
  exact t6 N (true, (0 : Int32), w_count, w_row) h _ _ _ (lv_sub hl [2, 3, 4, 5, 1, 0] rfl) hP hD hS
def fW_writeDocumentS_61 (N : Nat) (rk : Int32 × Int32 × Int32 × Int32 × (Nat → Int32) → Option (Bool × Int32 × (Nat → Int32))) (v1 : Int32) (v2 : Int32) (v3 : Int32) (d_classCount : Int32) (d_propertyCount : Int32) (d_parents : (Nat → Int32)) (d_owners : (Nat → Int32)) (d_letters : (Nat → Int32)) (d_sorts : (Nat → Int32)) (d_targets : (Nat → Int32)) (i_count : Int32) (i_kinds : (Nat → Int32)) (i_values : (Nat → Int64)) (i_partners : (Nat → Int32)) (v4 : Int32) (v5 : Int32) (rc61 : Bool × Int32 × Int32 × (Nat → Int32) → Option (Bool × Int32 × (Nat → Int32))) (v6 : Bool) (v7 : Int32) (w_count : Int32) (w_row : (Nat → Int32)) : Option (Bool × Int32 × (Nat → Int32)) :=
  if v5 < v7 then (if v6 = true then ((fB_add (0 : Int32) w_count w_row).bind fun u121 => (if u121.1 = true then ((fB_replaceNumber N v4 ((u121.2.1 - v4).toInt64) (4 : Int32) u121.2.1 u121.2.2).bind fun u147 => (some (true, u121.2.1, u147))) else (some (false, u121.2.1, u121.2.2)))) else (some (false, w_count, w_row))) else (if v6 = true then ((fD_isKindOf N v5 v7 d_classCount d_parents).bind fun u81 => (if u81 = true then ((fW_writeOwnProperties N rk v1 v7 v3 d_classCount d_propertyCount d_parents d_owners d_letters d_sorts d_targets i_count i_kinds i_values i_partners w_count w_row).bind fun u92 => (if u92.1 = true then (rc61 (true, v7 + (1 : Int32), u92.2.1, u92.2.2)) else (rc61 (false, v7 + (1 : Int32), u92.2.1, u92.2.2)))) else (rc61 (true, v7 + (1 : Int32), w_count, w_row)))) else (if v6 = true then ((fB_add (0 : Int32) w_count w_row).bind fun u121 => (if u121.1 = true then ((fB_replaceNumber N v4 ((u121.2.1 - v4).toInt64) (4 : Int32) u121.2.1 u121.2.2).bind fun u147 => (some (true, u121.2.1, u147))) else (some (false, u121.2.1, u121.2.2)))) else (some (false, w_count, w_row))))
def fW_writeDocumentS_61l (N : Nat) (rk : Int32 × Int32 × Int32 × Int32 × (Nat → Int32) → Option (Bool × Int32 × (Nat → Int32))) (v1 : Int32) (v2 : Int32) (v3 : Int32) (d_classCount : Int32) (d_propertyCount : Int32) (d_parents : (Nat → Int32)) (d_owners : (Nat → Int32)) (d_letters : (Nat → Int32)) (d_sorts : (Nat → Int32)) (d_targets : (Nat → Int32)) (i_count : Int32) (i_kinds : (Nat → Int32)) (i_values : (Nat → Int64)) (i_partners : (Nat → Int32)) (v4 : Int32) (v5 : Int32) : Nat → Bool × Int32 × Int32 × (Nat → Int32) → Option (Bool × Int32 × (Nat → Int32)) := lp (fun rc a => fW_writeDocumentS_61 N rk v1 v2 v3 d_classCount d_propertyCount d_parents d_owners d_letters d_sorts d_targets i_count i_kinds i_values i_partners v4 v5 rc a.1 a.2.1 a.2.2.1 a.2.2.2)
def fW_writeDocumentS (N : Nat) (rk : Int32 × Int32 × Int32 × Int32 × (Nat → Int32) → Option (Bool × Int32 × (Nat → Int32))) (v1 : Int32) (v2 : Int32) (v3 : Int32) (d_classCount : Int32) (d_propertyCount : Int32) (d_parents : (Nat → Int32)) (d_owners : (Nat → Int32)) (d_letters : (Nat → Int32)) (d_sorts : (Nat → Int32)) (d_targets : (Nat → Int32)) (i_count : Int32) (i_kinds : (Nat → Int32)) (i_values : (Nat → Int64)) (i_partners : (Nat → Int32)) (w_count : Int32) (w_row : (Nat → Int32)) : Option (Bool × Int32 × (Nat → Int32)) :=
  (fI_kind v1 i_count i_kinds).bind fun u14 => (if (5 : Int32) < v3 then (fW_writeDocumentS_61l N rk v1 v2 v3 d_classCount d_propertyCount d_parents d_owners d_letters d_sorts d_targets i_count i_kinds i_values i_partners w_count u14 N (false, (0 : Int32), w_count, w_row)) else ((fB_addNumber N (0 : Int64) (4 : Int32) w_count w_row).bind fun u30 => (if u30.1 = true then (if u14 = v2 then (fW_writeDocumentS_61l N rk v1 v2 v3 d_classCount d_propertyCount d_parents d_owners d_letters d_sorts d_targets i_count i_kinds i_values i_partners w_count u14 N (true, (0 : Int32), u30.2.1, u30.2.2)) else ((fW_writeMark N u14 u30.2.1 u30.2.2).bind fun u45 => (if u45.1 = true then (fW_writeDocumentS_61l N rk v1 v2 v3 d_classCount d_propertyCount d_parents d_owners d_letters d_sorts d_targets i_count i_kinds i_values i_partners w_count u14 N (true, (0 : Int32), u45.2.1, u45.2.2)) else (fW_writeDocumentS_61l N rk v1 v2 v3 d_classCount d_propertyCount d_parents d_owners d_letters d_sorts d_targets i_count i_kinds i_values i_partners w_count u14 N (false, (0 : Int32), u45.2.1, u45.2.2))))) else (fW_writeDocumentS_61l N rk v1 v2 v3 d_classCount d_propertyCount d_parents d_owners d_letters d_sorts d_targets i_count i_kinds i_values i_partners w_count u14 N (false, (0 : Int32), u30.2.1, u30.2.2)))))
set_option maxHeartbeats 4000000 in
set_option maxRecDepth 100000 in
theorem cW_writeDocumentS (l : Launch) (D : va_G) (cI cJ : ClassId) (xA dA dA0 dA1 dA2 dA3 dA4 iA iA0 iA1 iA2 wA wA0 : Nat) (N : Nat) (rk : Int32 × Int32 × Int32 × Int32 × (Nat → Int32) → Option (Bool × Int32 × (Nat → Int32))) (v1 : Int32) (v2 : Int32) (v3 : Int32) (d_classCount : Int32) (d_propertyCount : Int32) (d_parents : (Nat → Int32)) (d_owners : (Nat → Int32)) (d_letters : (Nat → Int32)) (d_sorts : (Nat → Int32)) (d_targets : (Nat → Int32)) (i_count : Int32) (i_kinds : (Nat → Int32)) (i_values : (Nat → Int64)) (i_partners : (Nat → Int32)) (w_count : Int32) (w_row : (Nat → Int32)) (kk : Nat) (hrk : ∀ (v1 : Int32) (v2 : Int32) (v3 : Int32) (w_count : Int32) (w_row : (Nat → Int32)) (r : Bool × Int32 × (Nat → Int32)), rk (v1, v2, v3, w_count, w_row) = some r → Mu l yW_writeDocument bW_writeDocument 8 (some .boolean) (rL (kk + 10)) [.ref xA, .int v1, .int v2, .int v3] D cI cJ [(xA, .inr (5, [.ref dA, .ref iA, .ref wA])), (dA, .inr (1, [.ref dA0, .ref dA1, .ref dA2, .ref dA3, .ref dA4, .int d_classCount, .int d_propertyCount])), (dA0, .inl (cI, 6, .inl d_parents)), (dA1, .inl (cI, 8, .inl d_owners)), (dA2, .inl (cI, 8, .inl d_letters)), (dA3, .inl (cI, 8, .inl d_sorts)), (dA4, .inl (cI, 8, .inl d_targets)), (iA, .inr (3, [.ref iA0, .ref iA1, .ref iA2, .int i_count])), (iA0, .inl (cI, 12, .inl i_kinds)), (iA1, .inl (cJ, 96, .inr (.inl i_values))), (iA2, .inl (cI, 96, .inl i_partners)), (wA, .inr (0, [.ref wA0, .int w_count])), (wA0, .inl (cI, 120, .inl w_row))] (some (.int (bI r.1))) [(xA, .inr (5, [.ref dA, .ref iA, .ref wA])), (dA, .inr (1, [.ref dA0, .ref dA1, .ref dA2, .ref dA3, .ref dA4, .int d_classCount, .int d_propertyCount])), (dA0, .inl (cI, 6, .inl d_parents)), (dA1, .inl (cI, 8, .inl d_owners)), (dA2, .inl (cI, 8, .inl d_letters)), (dA3, .inl (cI, 8, .inl d_sorts)), (dA4, .inl (cI, 8, .inl d_targets)), (iA, .inr (3, [.ref iA0, .ref iA1, .ref iA2, .int i_count])), (iA0, .inl (cI, 12, .inl i_kinds)), (iA1, .inl (cJ, 96, .inr (.inl i_values))), (iA2, .inl (cI, 96, .inl i_partners)), (wA, .inr (0, [.ref wA0, .int r.2.1])), (wA0, .inl (cI, 120, .inl r.2.2))]) (r : Bool × Int32 × (Nat → Int32)) (h : fW_writeDocumentS N rk v1 v2 v3 d_classCount d_propertyCount d_parents d_owners d_letters d_sorts d_targets i_count i_kinds i_values i_partners w_count w_row = some r) : Mu l yW_writeDocument bW_writeDocument 8 (some .boolean) (rL (kk + 14)) [.ref xA, .int v1, .int v2, .int v3] D cI cJ [(xA, .inr (5, [.ref dA, .ref iA, .ref wA])), (dA, .inr (1, [.ref dA0, .ref dA1, .ref dA2, .ref dA3, .ref dA4, .int d_classCount, .int d_propertyCount])), (dA0, .inl (cI, 6, .inl d_parents)), (dA1, .inl (cI, 8, .inl d_owners)), (dA2, .inl (cI, 8, .inl d_letters)), (dA3, .inl (cI, 8, .inl d_sorts)), (dA4, .inl (cI, 8, .inl d_targets)), (iA, .inr (3, [.ref iA0, .ref iA1, .ref iA2, .int i_count])), (iA0, .inl (cI, 12, .inl i_kinds)), (iA1, .inl (cJ, 96, .inr (.inl i_values))), (iA2, .inl (cI, 96, .inl i_partners)), (wA, .inr (0, [.ref wA0, .int w_count])), (wA0, .inl (cI, 120, .inl w_row))] (some (.int (bI r.1))) [(xA, .inr (5, [.ref dA, .ref iA, .ref wA])), (dA, .inr (1, [.ref dA0, .ref dA1, .ref dA2, .ref dA3, .ref dA4, .int d_classCount, .int d_propertyCount])), (dA0, .inl (cI, 6, .inl d_parents)), (dA1, .inl (cI, 8, .inl d_owners)), (dA2, .inl (cI, 8, .inl d_letters)), (dA3, .inl (cI, 8, .inl d_sorts)), (dA4, .inl (cI, 8, .inl d_targets)), (iA, .inr (3, [.ref iA0, .ref iA1, .ref iA2, .int i_count])), (iA0, .inl (cI, 12, .inl i_kinds)), (iA1, .inl (cJ, 96, .inr (.inl i_values))), (iA2, .inl (cI, 96, .inl i_partners)), (wA, .inr (0, [.ref wA0, .int r.2.1])), (wA0, .inl (cI, 120, .inl r.2.2))] := by
  refine mu_of (by decide) (Nat.le_of_ble_eq_true rfl) ?_
  intro p e s m below meth c ls A S hr hlocks hN hK hP hD hA hl
  have hS : va_S A s.heap s.heap [] := va_S.rf
  have hx := S.1
  have hb := S.2.1
  have hl : lv_has ls 8 [(0, .ref xA), (1, .int v1), (2, .int v2), (3, .int v3)] := hl
  unfold fW_writeDocumentS at h
  have t61 : ∀ (v4 : Int32) (v5 : Int32), ∀ (k : Nat) (a : Bool × Int32 × Int32 × (Nat → Int32)), fW_writeDocumentS_61l N rk v1 v2 v3 d_classCount d_propertyCount d_parents d_owners d_letters d_sorts d_targets i_count i_kinds i_values i_partners v4 v5 k a = some r → ∀ (ls : Array Slot) (H : Heap) (locs : List Loc), lv_has ls 8 [(0, .ref xA), (1, .int v1), (3, .int v3), (4, .int v4), (5, .int v5), (6, .int (bI a.1)), (7, .int a.2.1)] → va_P D cs [(xA, .inr (5, [.ref dA, .ref iA, .ref wA])), (dA, .inr (1, [.ref dA0, .ref dA1, .ref dA2, .ref dA3, .ref dA4, .int d_classCount, .int d_propertyCount])), (dA0, .inl (cI, 6, .inl d_parents)), (dA1, .inl (cI, 8, .inl d_owners)), (dA2, .inl (cI, 8, .inl d_letters)), (dA3, .inl (cI, 8, .inl d_sorts)), (dA4, .inl (cI, 8, .inl d_targets)), (iA, .inr (3, [.ref iA0, .ref iA1, .ref iA2, .int i_count])), (iA0, .inl (cI, 12, .inl i_kinds)), (iA1, .inl (cJ, 96, .inr (.inl i_values))), (iA2, .inl (cI, 96, .inl i_partners)), (wA, .inr (0, [.ref wA0, .int a.2.2.1])), (wA0, .inl (cI, 120, .inl a.2.2.2))] H → va_D A [(xA, .inr (5, [.ref dA, .ref iA, .ref wA])), (dA, .inr (1, [.ref dA0, .ref dA1, .ref dA2, .ref dA3, .ref dA4, .int d_classCount, .int d_propertyCount])), (dA0, .inl (cI, 6, .inl d_parents)), (dA1, .inl (cI, 8, .inl d_owners)), (dA2, .inl (cI, 8, .inl d_letters)), (dA3, .inl (cI, 8, .inl d_sorts)), (dA4, .inl (cI, 8, .inl d_targets)), (iA, .inr (3, [.ref iA0, .ref iA1, .ref iA2, .int i_count])), (iA0, .inl (cI, 12, .inl i_kinds)), (iA1, .inl (cJ, 96, .inr (.inl i_values))), (iA2, .inl (cI, 96, .inl i_partners)), (wA, .inr (0, [.ref wA0, .int a.2.2.1])), (wA0, .inl (cI, 120, .inl a.2.2.2))] → va_S A s.heap H locs → W p l e (rL (kk + 14)) s m ([.ref xA, .int v1, .int v2, .int v3] : List Value).toArray below meth c H locs 0 0 (MQ below (fun _ st oc t => (oc = .returned (some (.int (bI r.1))) ∧ va_P D cs [(xA, .inr (5, [.ref dA, .ref iA, .ref wA])), (dA, .inr (1, [.ref dA0, .ref dA1, .ref dA2, .ref dA3, .ref dA4, .int d_classCount, .int d_propertyCount])), (dA0, .inl (cI, 6, .inl d_parents)), (dA1, .inl (cI, 8, .inl d_owners)), (dA2, .inl (cI, 8, .inl d_letters)), (dA3, .inl (cI, 8, .inl d_sorts)), (dA4, .inl (cI, 8, .inl d_targets)), (iA, .inr (3, [.ref iA0, .ref iA1, .ref iA2, .int i_count])), (iA0, .inl (cI, 12, .inl i_kinds)), (iA1, .inl (cJ, 96, .inr (.inl i_values))), (iA2, .inl (cI, 96, .inl i_partners)), (wA, .inr (0, [.ref wA0, .int r.2.1])), (wA0, .inl (cI, 120, .inl r.2.2))] t.heap) ∧ va_F A st t) ([.ref xA, .int v1, .int v2, .int v3] : List Value).toArray s 0 0 A) (F0 m 61 ls []) := by
    intro v4 v5
    unfold fW_writeDocumentS_61l
    refine lp_some ?_
    intro rc61 hrc61 a h
    obtain ⟨v6, v7, w_count, w_row⟩ := a
    intro ls H locs hl hP hD hS
    have h : fW_writeDocumentS_61 N rk v1 v2 v3 d_classCount d_propertyCount d_parents d_owners d_letters d_sorts d_targets i_count i_kinds i_values i_partners v4 v5 rc61 v6 v7 w_count w_row = some r := h
    have hl : lv_has ls 8 [(0, .ref xA), (1, .int v1), (3, .int v3), (4, .int v4), (5, .int v5), (6, .int (bI v6)), (7, .int v7)] := hl
    have hP : va_P D cs [(xA, .inr (5, [.ref dA, .ref iA, .ref wA])), (dA, .inr (1, [.ref dA0, .ref dA1, .ref dA2, .ref dA3, .ref dA4, .int d_classCount, .int d_propertyCount])), (dA0, .inl (cI, 6, .inl d_parents)), (dA1, .inl (cI, 8, .inl d_owners)), (dA2, .inl (cI, 8, .inl d_letters)), (dA3, .inl (cI, 8, .inl d_sorts)), (dA4, .inl (cI, 8, .inl d_targets)), (iA, .inr (3, [.ref iA0, .ref iA1, .ref iA2, .int i_count])), (iA0, .inl (cI, 12, .inl i_kinds)), (iA1, .inl (cJ, 96, .inr (.inl i_values))), (iA2, .inl (cI, 96, .inl i_partners)), (wA, .inr (0, [.ref wA0, .int w_count])), (wA0, .inl (cI, 120, .inl w_row))] H := hP
    have hD : va_D A [(xA, .inr (5, [.ref dA, .ref iA, .ref wA])), (dA, .inr (1, [.ref dA0, .ref dA1, .ref dA2, .ref dA3, .ref dA4, .int d_classCount, .int d_propertyCount])), (dA0, .inl (cI, 6, .inl d_parents)), (dA1, .inl (cI, 8, .inl d_owners)), (dA2, .inl (cI, 8, .inl d_letters)), (dA3, .inl (cI, 8, .inl d_sorts)), (dA4, .inl (cI, 8, .inl d_targets)), (iA, .inr (3, [.ref iA0, .ref iA1, .ref iA2, .int i_count])), (iA0, .inl (cI, 12, .inl i_kinds)), (iA1, .inl (cJ, 96, .inr (.inl i_values))), (iA2, .inl (cI, 96, .inl i_partners)), (wA, .inr (0, [.ref wA0, .int w_count])), (wA0, .inl (cI, 120, .inl w_row))] := hD
    unfold fW_writeDocumentS_61 at h
    refine lv_iload hx hb dW_writeDocument_61 (lv_at hl 6 rfl) ?_
    refine lv_iload hx hb dW_writeDocument_63 (lv_at hl 4 rfl) ?_
    refine lv_icmp_gt (tgt := 111) hx hb dW_writeDocument_65 (by decide) (fun h65 => ?_) (fun h65 => ?_)
    · have h := g_t h h65
      refine lv_iload hx hb dW_writeDocument_111 (lv_at hl 5 rfl) ?_
      refine b_ifeq (tgt := 127) hx hb dW_writeDocument_113 (by decide) (fun h113 => ?_) (fun h113 => ?_)
      · have h := g_f h h113
        refine lv_iconst (v := (0 : Int32)) hx hb dW_writeDocument_127 (by decide) ?_
        cases h
        exact mu_z S hr hlocks hP hS dW_writeDocument_128 rfl rfl
      · have h := g_t h h113
        refine lv_aload_n hx hb dW_writeDocument_116 rfl (lv_at hl 0 rfl) ?_
        refine gf S hK hP 0 5 2 u_zW w_147 rfl rfl (by decide) rfl dW_writeDocument_117 ?_
        refine lv_iconst (v := (0 : Int32)) hx hb dW_writeDocument_120 (by decide) ?_
        obtain ⟨u121, e121, h⟩ := g_bind h
        refine mu_v S hN hK hP hD hS hA (rest := []) (cB_add l D cI cJ wA wA0 (0 : Int32) w_count w_row u121 e121) k_W_57 [11, 12] [none, none, none, none, none, none, none, none, none, none, none, (some 0), (some 1)] [(xA, .inr (5, [.ref dA, .ref iA, .ref wA])), (dA, .inr (1, [.ref dA0, .ref dA1, .ref dA2, .ref dA3, .ref dA4, .int d_classCount, .int d_propertyCount])), (dA0, .inl (cI, 6, .inl d_parents)), (dA1, .inl (cI, 8, .inl d_owners)), (dA2, .inl (cI, 8, .inl d_letters)), (dA3, .inl (cI, 8, .inl d_sorts)), (dA4, .inl (cI, 8, .inl d_targets)), (iA, .inr (3, [.ref iA0, .ref iA1, .ref iA2, .int i_count])), (iA0, .inl (cI, 12, .inl i_kinds)), (iA1, .inl (cJ, 96, .inr (.inl i_values))), (iA2, .inl (cI, 96, .inl i_partners)), (wA, .inr (0, [.ref wA0, .int u121.2.1])), (wA0, .inl (cI, 120, .inl u121.2.2))] rfl rfl rfl ⟨rfl, rfl, rfl, rfl, rfl, rfl, rfl, rfl, rfl, rfl, rfl, rfl, rfl, trivial⟩ (by decide +kernel) 0 rfl rfl ⟨rfl, rfl⟩ ⟨by simp only [rL]; omega, by simp only [rL]; omega⟩ rfl hl.1 (Nat.le_of_ble_eq_true rfl) ⟨Nat.le_refl _, Nat.le_refl _⟩ dW_writeDocument_121 rfl (fun H locs hP hD hS => ?_)
        refine b_ifne (tgt := 129) hx hb dW_writeDocument_124 (by decide) (fun h124 => ?_) (fun h124 => ?_)
        · have h := g_t h h124
          refine lv_aload_n hx hb dW_writeDocument_129 rfl (lv_at hl 0 rfl) ?_
          refine gf S hK hP 0 5 2 u_zW w_147 rfl rfl (by decide) rfl dW_writeDocument_130 ?_
          refine lv_iload hx hb dW_writeDocument_133 (lv_at hl 3 rfl) ?_
          refine lv_aload_n hx hb dW_writeDocument_135 rfl (lv_at hl 0 rfl) ?_
          refine gf S hK hP 0 5 2 u_zW w_147 rfl rfl (by decide) rfl dW_writeDocument_136 ?_
          refine gfN S hN hK hP 11 0 1 (host := "PropertyDocuments") u_zB n_5 rfl rfl (by decide) rfl dW_writeDocument_139 ?_
          refine lv_iload hx hb dW_writeDocument_142 (lv_at hl 3 rfl) ?_
          refine lv_isub hx hb dW_writeDocument_144 ?_
          refine lv_i2l hx hb dW_writeDocument_145 rfl ?_
          refine lv_iconst (v := (4 : Int32)) hx hb dW_writeDocument_146 (by decide) ?_
          obtain ⟨u147, e147, h⟩ := g_bind h
          refine mu_v S hN hK hP hD hS hA (rest := []) (cB_replaceNumber l D cI cJ wA wA0 N v4 ((u121.2.1 - v4).toInt64) (4 : Int32) u121.2.1 u121.2.2 u147 e147) k_W_60 [11, 12] [none, none, none, none, none, none, none, none, none, none, none, (some 0), (some 1)] [(xA, .inr (5, [.ref dA, .ref iA, .ref wA])), (dA, .inr (1, [.ref dA0, .ref dA1, .ref dA2, .ref dA3, .ref dA4, .int d_classCount, .int d_propertyCount])), (dA0, .inl (cI, 6, .inl d_parents)), (dA1, .inl (cI, 8, .inl d_owners)), (dA2, .inl (cI, 8, .inl d_letters)), (dA3, .inl (cI, 8, .inl d_sorts)), (dA4, .inl (cI, 8, .inl d_targets)), (iA, .inr (3, [.ref iA0, .ref iA1, .ref iA2, .int i_count])), (iA0, .inl (cI, 12, .inl i_kinds)), (iA1, .inl (cJ, 96, .inr (.inl i_values))), (iA2, .inl (cI, 96, .inl i_partners)), (wA, .inr (0, [.ref wA0, .int u121.2.1])), (wA0, .inl (cI, 120, .inl u147))] rfl rfl rfl ⟨rfl, rfl, rfl, rfl, rfl, rfl, rfl, rfl, rfl, rfl, rfl, rfl, rfl, trivial⟩ (by decide +kernel) 0 rfl rfl ⟨rfl, rfl⟩ ⟨by simp only [rL]; omega, by simp only [rL]; omega⟩ rfl hl.1 (Nat.le_of_ble_eq_true rfl) ⟨Nat.le_refl _, Nat.le_refl _⟩ dW_writeDocument_147 rfl (fun H locs hP hD hS => ?_)
          refine lv_iconst (v := (1 : Int32)) hx hb dW_writeDocument_150 (by decide) ?_
          cases h
          exact mu_z S hr hlocks hP hS dW_writeDocument_151 rfl rfl
        · have h := g_f h h124
          refine lv_iconst (v := (0 : Int32)) hx hb dW_writeDocument_127 (by decide) ?_
          cases h
          exact mu_z S hr hlocks hP hS dW_writeDocument_128 rfl rfl
    · have h := g_f h h65
      refine lv_iload hx hb dW_writeDocument_68 (lv_at hl 5 rfl) ?_
      refine b_ifeq (tgt := 111) hx hb dW_writeDocument_70 (by decide) (fun h70 => ?_) (fun h70 => ?_)
      · have h := g_f h h70
        refine lv_iload hx hb dW_writeDocument_111 (lv_at hl 5 rfl) ?_
        refine b_ifeq (tgt := 127) hx hb dW_writeDocument_113 (by decide) (fun h113 => ?_) (fun h113 => ?_)
        · have h := g_f h h113
          refine lv_iconst (v := (0 : Int32)) hx hb dW_writeDocument_127 (by decide) ?_
          cases h
          exact mu_z S hr hlocks hP hS dW_writeDocument_128 rfl rfl
        · have h := g_t h h113
          refine lv_aload_n hx hb dW_writeDocument_116 rfl (lv_at hl 0 rfl) ?_
          refine gf S hK hP 0 5 2 u_zW w_147 rfl rfl (by decide) rfl dW_writeDocument_117 ?_
          refine lv_iconst (v := (0 : Int32)) hx hb dW_writeDocument_120 (by decide) ?_
          obtain ⟨u121, e121, h⟩ := g_bind h
          refine mu_v S hN hK hP hD hS hA (rest := []) (cB_add l D cI cJ wA wA0 (0 : Int32) w_count w_row u121 e121) k_W_57 [11, 12] [none, none, none, none, none, none, none, none, none, none, none, (some 0), (some 1)] [(xA, .inr (5, [.ref dA, .ref iA, .ref wA])), (dA, .inr (1, [.ref dA0, .ref dA1, .ref dA2, .ref dA3, .ref dA4, .int d_classCount, .int d_propertyCount])), (dA0, .inl (cI, 6, .inl d_parents)), (dA1, .inl (cI, 8, .inl d_owners)), (dA2, .inl (cI, 8, .inl d_letters)), (dA3, .inl (cI, 8, .inl d_sorts)), (dA4, .inl (cI, 8, .inl d_targets)), (iA, .inr (3, [.ref iA0, .ref iA1, .ref iA2, .int i_count])), (iA0, .inl (cI, 12, .inl i_kinds)), (iA1, .inl (cJ, 96, .inr (.inl i_values))), (iA2, .inl (cI, 96, .inl i_partners)), (wA, .inr (0, [.ref wA0, .int u121.2.1])), (wA0, .inl (cI, 120, .inl u121.2.2))] rfl rfl rfl ⟨rfl, rfl, rfl, rfl, rfl, rfl, rfl, rfl, rfl, rfl, rfl, rfl, rfl, trivial⟩ (by decide +kernel) 0 rfl rfl ⟨rfl, rfl⟩ ⟨by simp only [rL]; omega, by simp only [rL]; omega⟩ rfl hl.1 (Nat.le_of_ble_eq_true rfl) ⟨Nat.le_refl _, Nat.le_refl _⟩ dW_writeDocument_121 rfl (fun H locs hP hD hS => ?_)
          refine b_ifne (tgt := 129) hx hb dW_writeDocument_124 (by decide) (fun h124 => ?_) (fun h124 => ?_)
          · have h := g_t h h124
            refine lv_aload_n hx hb dW_writeDocument_129 rfl (lv_at hl 0 rfl) ?_
            refine gf S hK hP 0 5 2 u_zW w_147 rfl rfl (by decide) rfl dW_writeDocument_130 ?_
            refine lv_iload hx hb dW_writeDocument_133 (lv_at hl 3 rfl) ?_
            refine lv_aload_n hx hb dW_writeDocument_135 rfl (lv_at hl 0 rfl) ?_
            refine gf S hK hP 0 5 2 u_zW w_147 rfl rfl (by decide) rfl dW_writeDocument_136 ?_
            refine gfN S hN hK hP 11 0 1 (host := "PropertyDocuments") u_zB n_5 rfl rfl (by decide) rfl dW_writeDocument_139 ?_
            refine lv_iload hx hb dW_writeDocument_142 (lv_at hl 3 rfl) ?_
            refine lv_isub hx hb dW_writeDocument_144 ?_
            refine lv_i2l hx hb dW_writeDocument_145 rfl ?_
            refine lv_iconst (v := (4 : Int32)) hx hb dW_writeDocument_146 (by decide) ?_
            obtain ⟨u147, e147, h⟩ := g_bind h
            refine mu_v S hN hK hP hD hS hA (rest := []) (cB_replaceNumber l D cI cJ wA wA0 N v4 ((u121.2.1 - v4).toInt64) (4 : Int32) u121.2.1 u121.2.2 u147 e147) k_W_60 [11, 12] [none, none, none, none, none, none, none, none, none, none, none, (some 0), (some 1)] [(xA, .inr (5, [.ref dA, .ref iA, .ref wA])), (dA, .inr (1, [.ref dA0, .ref dA1, .ref dA2, .ref dA3, .ref dA4, .int d_classCount, .int d_propertyCount])), (dA0, .inl (cI, 6, .inl d_parents)), (dA1, .inl (cI, 8, .inl d_owners)), (dA2, .inl (cI, 8, .inl d_letters)), (dA3, .inl (cI, 8, .inl d_sorts)), (dA4, .inl (cI, 8, .inl d_targets)), (iA, .inr (3, [.ref iA0, .ref iA1, .ref iA2, .int i_count])), (iA0, .inl (cI, 12, .inl i_kinds)), (iA1, .inl (cJ, 96, .inr (.inl i_values))), (iA2, .inl (cI, 96, .inl i_partners)), (wA, .inr (0, [.ref wA0, .int u121.2.1])), (wA0, .inl (cI, 120, .inl u147))] rfl rfl rfl ⟨rfl, rfl, rfl, rfl, rfl, rfl, rfl, rfl, rfl, rfl, rfl, rfl, rfl, trivial⟩ (by decide +kernel) 0 rfl rfl ⟨rfl, rfl⟩ ⟨by simp only [rL]; omega, by simp only [rL]; omega⟩ rfl hl.1 (Nat.le_of_ble_eq_true rfl) ⟨Nat.le_refl _, Nat.le_refl _⟩ dW_writeDocument_147 rfl (fun H locs hP hD hS => ?_)
            refine lv_iconst (v := (1 : Int32)) hx hb dW_writeDocument_150 (by decide) ?_
            cases h
            exact mu_z S hr hlocks hP hS dW_writeDocument_151 rfl rfl
          · have h := g_f h h124
            refine lv_iconst (v := (0 : Int32)) hx hb dW_writeDocument_127 (by decide) ?_
            cases h
            exact mu_z S hr hlocks hP hS dW_writeDocument_128 rfl rfl
      · have h := g_t h h70
        refine lv_aload_n hx hb dW_writeDocument_73 rfl (lv_at hl 0 rfl) ?_
        refine gf S hK hP 0 5 0 u_zW w_145 rfl rfl (by decide) rfl dW_writeDocument_74 ?_
        refine lv_iload hx hb dW_writeDocument_77 (lv_at hl 4 rfl) ?_
        refine lv_iload hx hb dW_writeDocument_79 (lv_at hl 6 rfl) ?_
        obtain ⟨u81, e81, h⟩ := g_bind h
        refine pu_v S hN hK hP (rest := []) (cD_isKindOf l D cI cJ dA dA0 dA1 dA2 dA3 dA4 N v5 v7 d_classCount d_propertyCount d_parents d_owners d_letters d_sorts d_targets u81 e81) k_W_48 [1, 2, 3, 4, 5, 6] rfl 1 rfl rfl ⟨rfl, rfl⟩ ⟨by simp only [rL]; omega, by simp only [rL]; omega⟩ rfl hl.1 (Nat.le_of_ble_eq_true rfl) ⟨Nat.le_refl _, Nat.le_refl _⟩ dW_writeDocument_81 rfl ?_
        refine b_ifeq (tgt := 98) hx hb dW_writeDocument_84 (by decide) (fun h84 => ?_) (fun h84 => ?_)
        · have h := g_f h h84
          refine lv_iconst (v := (1 : Int32)) hx hb dW_writeDocument_98 (by decide) ?_
          refine lv_goto (tgt := 103) hx hb dW_writeDocument_99 (by decide) ?_
          refine lv_istore (lv' := [(6, .int (bI true)), (0, .ref xA), (1, .int v1), (3, .int v3), (4, .int v4), (5, .int v5), (7, .int v7)]) hx hb dW_writeDocument_103 hl (Nat.le_of_ble_eq_true rfl) rfl (fun ls hl => ?_)
          refine lv_iinc (k := 6) (v := v7 + (1 : Int32)) (lv' := [(7, .int (v7 + (1 : Int32))), (6, .int (bI true)), (0, .ref xA), (1, .int v1), (3, .int v3), (4, .int v4), (5, .int v5)]) hx hb dW_writeDocument_105 hl rfl (congrArg (v7 + ·) (by decide : Int32.ofInt (1) = (1 : Int32))) (Nat.le_of_ble_eq_true rfl) rfl (fun ls hl => ?_)
          refine lv_goto (tgt := 61) hx hb dW_writeDocument_108 (by decide) ?_
          exact hrc61 (true, v7 + (1 : Int32), w_count, w_row) h _ _ _ (lv_sub hl [2, 3, 4, 5, 6, 1, 0] rfl) hP hD hS
        · have h := g_t h h84
          refine lv_aload_n hx hb dW_writeDocument_87 rfl (lv_at hl 0 rfl) ?_
          refine lv_iload_n hx hb dW_writeDocument_88 rfl (lv_at hl 1 rfl) ?_
          refine lv_iload hx hb dW_writeDocument_89 (lv_at hl 6 rfl) ?_
          refine lv_iload_n hx hb dW_writeDocument_91 rfl (lv_at hl 2 rfl) ?_
          obtain ⟨u92, e92, h⟩ := g_bind h
          refine mu_v S hN hK hP hD hS hA (rest := []) (cW_writeOwnProperties l D cI cJ xA dA dA0 dA1 dA2 dA3 dA4 iA iA0 iA1 iA2 wA wA0 N rk v1 v7 v3 d_classCount d_propertyCount d_parents d_owners d_letters d_sorts d_targets i_count i_kinds i_values i_partners w_count w_row kk hrk u92 e92) k_W_54 [0, 1, 2, 3, 4, 5, 6, 7, 8, 9, 10, 11, 12] [(some 0), (some 1), (some 2), (some 3), (some 4), (some 5), (some 6), (some 7), (some 8), (some 9), (some 10), (some 11), (some 12)] [(xA, .inr (5, [.ref dA, .ref iA, .ref wA])), (dA, .inr (1, [.ref dA0, .ref dA1, .ref dA2, .ref dA3, .ref dA4, .int d_classCount, .int d_propertyCount])), (dA0, .inl (cI, 6, .inl d_parents)), (dA1, .inl (cI, 8, .inl d_owners)), (dA2, .inl (cI, 8, .inl d_letters)), (dA3, .inl (cI, 8, .inl d_sorts)), (dA4, .inl (cI, 8, .inl d_targets)), (iA, .inr (3, [.ref iA0, .ref iA1, .ref iA2, .int i_count])), (iA0, .inl (cI, 12, .inl i_kinds)), (iA1, .inl (cJ, 96, .inr (.inl i_values))), (iA2, .inl (cI, 96, .inl i_partners)), (wA, .inr (0, [.ref wA0, .int u92.2.1])), (wA0, .inl (cI, 120, .inl u92.2.2))] rfl rfl rfl ⟨rfl, rfl, rfl, rfl, rfl, rfl, rfl, rfl, rfl, rfl, rfl, rfl, rfl, trivial⟩ (by decide +kernel) 5 rfl rfl ⟨rfl, rfl⟩ ⟨by simp only [rL]; omega, by simp only [rL]; omega⟩ rfl hl.1 (Nat.le_of_ble_eq_true rfl) ⟨Nat.le_refl _, Nat.le_refl _⟩ dW_writeDocument_92 rfl (fun H locs hP hD hS => ?_)
          refine b_ifeq (tgt := 102) hx hb dW_writeDocument_95 (by decide) (fun h95 => ?_) (fun h95 => ?_)
          · have h := g_f h h95
            refine lv_iconst (v := (0 : Int32)) hx hb dW_writeDocument_102 (by decide) ?_
            refine lv_istore (lv' := [(6, .int (bI false)), (0, .ref xA), (1, .int v1), (3, .int v3), (4, .int v4), (5, .int v5), (7, .int v7)]) hx hb dW_writeDocument_103 hl (Nat.le_of_ble_eq_true rfl) rfl (fun ls hl => ?_)
            refine lv_iinc (k := 6) (v := v7 + (1 : Int32)) (lv' := [(7, .int (v7 + (1 : Int32))), (6, .int (bI false)), (0, .ref xA), (1, .int v1), (3, .int v3), (4, .int v4), (5, .int v5)]) hx hb dW_writeDocument_105 hl rfl (congrArg (v7 + ·) (by decide : Int32.ofInt (1) = (1 : Int32))) (Nat.le_of_ble_eq_true rfl) rfl (fun ls hl => ?_)
            refine lv_goto (tgt := 61) hx hb dW_writeDocument_108 (by decide) ?_
            exact hrc61 (false, v7 + (1 : Int32), u92.2.1, u92.2.2) h _ _ _ (lv_sub hl [2, 3, 4, 5, 6, 1, 0] rfl) hP hD hS
          · have h := g_t h h95
            refine lv_iconst (v := (1 : Int32)) hx hb dW_writeDocument_98 (by decide) ?_
            refine lv_goto (tgt := 103) hx hb dW_writeDocument_99 (by decide) ?_
            refine lv_istore (lv' := [(6, .int (bI true)), (0, .ref xA), (1, .int v1), (3, .int v3), (4, .int v4), (5, .int v5), (7, .int v7)]) hx hb dW_writeDocument_103 hl (Nat.le_of_ble_eq_true rfl) rfl (fun ls hl => ?_)
            refine lv_iinc (k := 6) (v := v7 + (1 : Int32)) (lv' := [(7, .int (v7 + (1 : Int32))), (6, .int (bI true)), (0, .ref xA), (1, .int v1), (3, .int v3), (4, .int v4), (5, .int v5)]) hx hb dW_writeDocument_105 hl rfl (congrArg (v7 + ·) (by decide : Int32.ofInt (1) = (1 : Int32))) (Nat.le_of_ble_eq_true rfl) rfl (fun ls hl => ?_)
            refine lv_goto (tgt := 61) hx hb dW_writeDocument_108 (by decide) ?_
            exact hrc61 (true, v7 + (1 : Int32), u92.2.1, u92.2.2) h _ _ _ (lv_sub hl [2, 3, 4, 5, 6, 1, 0] rfl) hP hD hS
  refine lv_aload_n hx hb dW_writeDocument_0 rfl (lv_at hl 0 rfl) ?_
  refine gf S hK hP 0 5 2 u_zW w_147 rfl rfl (by decide) rfl dW_writeDocument_1 ?_
  refine gfN S hN hK hP 11 0 1 (host := "PropertyDocuments") u_zB n_5 rfl rfl (by decide) rfl dW_writeDocument_4 ?_
  refine lv_istore (lv' := [(4, .int w_count), (0, .ref xA), (1, .int v1), (2, .int v2), (3, .int v3)]) hx hb dW_writeDocument_7 hl (Nat.le_of_ble_eq_true rfl) rfl (fun ls hl => ?_)
  refine lv_aload_n hx hb dW_writeDocument_9 rfl (lv_at hl 1 rfl) ?_
  refine gf S hK hP 0 5 1 u_zW w_146 rfl rfl (by decide) rfl dW_writeDocument_10 ?_
  refine lv_iload_n hx hb dW_writeDocument_13 rfl (lv_at hl 2 rfl) ?_
  obtain ⟨u14, e14, h⟩ := g_bind h
  refine pu_v S hN hK hP (rest := []) (cI_kind l D cI cJ iA iA0 iA1 iA2 v1 i_count i_kinds i_values i_partners u14 e14) k_W_34 [7, 8, 9, 10] rfl 3 rfl rfl ⟨rfl, rfl⟩ ⟨by simp only [rL]; omega, by simp only [rL]; omega⟩ rfl hl.1 (Nat.le_of_ble_eq_true rfl) ⟨Nat.le_refl _, Nat.le_refl _⟩ dW_writeDocument_14 rfl ?_
  refine lv_istore (lv' := [(5, .int u14), (4, .int w_count), (0, .ref xA), (1, .int v1), (2, .int v2), (3, .int v3)]) hx hb dW_writeDocument_17 hl (Nat.le_of_ble_eq_true rfl) rfl (fun ls hl => ?_)
  refine lv_iload_n hx hb dW_writeDocument_19 rfl (lv_at hl 5 rfl) ?_
  refine lv_iconst (v := (5 : Int32)) hx hb dW_writeDocument_20 (by decide) ?_
  refine lv_icmp_gt (tgt := 55) hx hb dW_writeDocument_21 (by decide) (fun h21 => ?_) (fun h21 => ?_)
  · have h := g_t h h21
    refine lv_iconst (v := (0 : Int32)) hx hb dW_writeDocument_55 (by decide) ?_
    refine lv_istore (lv' := [(6, .int (bI false)), (5, .int u14), (4, .int w_count), (0, .ref xA), (1, .int v1), (2, .int v2), (3, .int v3)]) hx hb dW_writeDocument_56 hl (Nat.le_of_ble_eq_true rfl) rfl (fun ls hl => ?_)
    refine lv_iconst (v := (0 : Int32)) hx hb dW_writeDocument_58 (by decide) ?_
    refine lv_istore (lv' := [(7, .int (0 : Int32)), (6, .int (bI false)), (5, .int u14), (4, .int w_count), (0, .ref xA), (1, .int v1), (2, .int v2), (3, .int v3)]) hx hb dW_writeDocument_59 hl (Nat.le_of_ble_eq_true rfl) rfl (fun ls hl => ?_)
    exact t61 w_count u14 N (false, (0 : Int32), w_count, w_row) h _ _ _ (lv_sub hl [4, 5, 7, 3, 2, 1, 0] rfl) hP hD hS
  · have h := g_f h h21
    refine lv_aload_n hx hb dW_writeDocument_24 rfl (lv_at hl 2 rfl) ?_
    refine gf S hK hP 0 5 2 u_zW w_147 rfl rfl (by decide) rfl dW_writeDocument_25 ?_
    refine lv_lconst (v := (0 : Int64)) hx hb dW_writeDocument_28 (by decide) ?_
    refine lv_iconst (v := (4 : Int32)) hx hb dW_writeDocument_29 (by decide) ?_
    obtain ⟨u30, e30, h⟩ := g_bind h
    refine mu_v S hN hK hP hD hS hA (rest := []) (cB_addNumber l D cI cJ wA wA0 N (0 : Int64) (4 : Int32) w_count w_row u30 e30) k_W_40 [11, 12] [none, none, none, none, none, none, none, none, none, none, none, (some 0), (some 1)] [(xA, .inr (5, [.ref dA, .ref iA, .ref wA])), (dA, .inr (1, [.ref dA0, .ref dA1, .ref dA2, .ref dA3, .ref dA4, .int d_classCount, .int d_propertyCount])), (dA0, .inl (cI, 6, .inl d_parents)), (dA1, .inl (cI, 8, .inl d_owners)), (dA2, .inl (cI, 8, .inl d_letters)), (dA3, .inl (cI, 8, .inl d_sorts)), (dA4, .inl (cI, 8, .inl d_targets)), (iA, .inr (3, [.ref iA0, .ref iA1, .ref iA2, .int i_count])), (iA0, .inl (cI, 12, .inl i_kinds)), (iA1, .inl (cJ, 96, .inr (.inl i_values))), (iA2, .inl (cI, 96, .inl i_partners)), (wA, .inr (0, [.ref wA0, .int u30.2.1])), (wA0, .inl (cI, 120, .inl u30.2.2))] rfl rfl rfl ⟨rfl, rfl, rfl, rfl, rfl, rfl, rfl, rfl, rfl, rfl, rfl, rfl, rfl, trivial⟩ (by decide +kernel) 0 rfl rfl ⟨rfl, rfl⟩ ⟨by simp only [rL]; omega, by simp only [rL]; omega⟩ rfl hl.1 (Nat.le_of_ble_eq_true rfl) ⟨Nat.le_refl _, Nat.le_refl _⟩ dW_writeDocument_30 rfl (fun H locs hP hD hS => ?_)
    refine b_ifeq (tgt := 55) hx hb dW_writeDocument_33 (by decide) (fun h33 => ?_) (fun h33 => ?_)
    · have h := g_f h h33
      refine lv_iconst (v := (0 : Int32)) hx hb dW_writeDocument_55 (by decide) ?_
      refine lv_istore (lv' := [(6, .int (bI false)), (5, .int u14), (4, .int w_count), (0, .ref xA), (1, .int v1), (2, .int v2), (3, .int v3)]) hx hb dW_writeDocument_56 hl (Nat.le_of_ble_eq_true rfl) rfl (fun ls hl => ?_)
      refine lv_iconst (v := (0 : Int32)) hx hb dW_writeDocument_58 (by decide) ?_
      refine lv_istore (lv' := [(7, .int (0 : Int32)), (6, .int (bI false)), (5, .int u14), (4, .int w_count), (0, .ref xA), (1, .int v1), (2, .int v2), (3, .int v3)]) hx hb dW_writeDocument_59 hl (Nat.le_of_ble_eq_true rfl) rfl (fun ls hl => ?_)
      exact t61 w_count u14 N (false, (0 : Int32), u30.2.1, u30.2.2) h _ _ _ (lv_sub hl [4, 5, 7, 3, 2, 1, 0] rfl) hP hD hS
    · have h := g_t h h33
      refine lv_iload hx hb dW_writeDocument_36 (lv_at hl 0 rfl) ?_
      refine lv_iload_n hx hb dW_writeDocument_38 rfl (lv_at hl 4 rfl) ?_
      refine lv_icmp_eq (tgt := 51) hx hb dW_writeDocument_39 (by decide) (fun h39 => ?_) (fun h39 => ?_)
      · have h := g_t h h39
        refine lv_iconst (v := (1 : Int32)) hx hb dW_writeDocument_51 (by decide) ?_
        refine lv_goto (tgt := 56) hx hb dW_writeDocument_52 (by decide) ?_
        refine lv_istore (lv' := [(6, .int (bI true)), (5, .int u14), (4, .int w_count), (0, .ref xA), (1, .int v1), (2, .int v2), (3, .int v3)]) hx hb dW_writeDocument_56 hl (Nat.le_of_ble_eq_true rfl) rfl (fun ls hl => ?_)
        refine lv_iconst (v := (0 : Int32)) hx hb dW_writeDocument_58 (by decide) ?_
        refine lv_istore (lv' := [(7, .int (0 : Int32)), (6, .int (bI true)), (5, .int u14), (4, .int w_count), (0, .ref xA), (1, .int v1), (2, .int v2), (3, .int v3)]) hx hb dW_writeDocument_59 hl (Nat.le_of_ble_eq_true rfl) rfl (fun ls hl => ?_)
        exact t61 w_count u14 N (true, (0 : Int32), u30.2.1, u30.2.2) h _ _ _ (lv_sub hl [4, 5, 7, 3, 2, 1, 0] rfl) hP hD hS
      · have h := g_f h h39
        refine lv_aload_n hx hb dW_writeDocument_42 rfl (lv_at hl 2 rfl) ?_
        refine lv_iload hx hb dW_writeDocument_43 (lv_at hl 0 rfl) ?_
        obtain ⟨u45, e45, h⟩ := g_bind h
        refine mu_v S hN hK hP hD hS hA (rest := []) (cW_writeMark l D cI cJ xA dA dA0 dA1 dA2 dA3 dA4 iA iA0 iA1 iA2 wA wA0 N u14 d_classCount d_propertyCount d_parents d_owners d_letters d_sorts d_targets i_count i_kinds i_values i_partners u30.2.1 u30.2.2 u45 e45) k_W_44 [0, 1, 2, 3, 4, 5, 6, 7, 8, 9, 10, 11, 12] [(some 0), (some 1), (some 2), (some 3), (some 4), (some 5), (some 6), (some 7), (some 8), (some 9), (some 10), (some 11), (some 12)] [(xA, .inr (5, [.ref dA, .ref iA, .ref wA])), (dA, .inr (1, [.ref dA0, .ref dA1, .ref dA2, .ref dA3, .ref dA4, .int d_classCount, .int d_propertyCount])), (dA0, .inl (cI, 6, .inl d_parents)), (dA1, .inl (cI, 8, .inl d_owners)), (dA2, .inl (cI, 8, .inl d_letters)), (dA3, .inl (cI, 8, .inl d_sorts)), (dA4, .inl (cI, 8, .inl d_targets)), (iA, .inr (3, [.ref iA0, .ref iA1, .ref iA2, .int i_count])), (iA0, .inl (cI, 12, .inl i_kinds)), (iA1, .inl (cJ, 96, .inr (.inl i_values))), (iA2, .inl (cI, 96, .inl i_partners)), (wA, .inr (0, [.ref wA0, .int u45.2.1])), (wA0, .inl (cI, 120, .inl u45.2.2))] rfl rfl rfl ⟨rfl, rfl, rfl, rfl, rfl, rfl, rfl, rfl, rfl, rfl, rfl, rfl, rfl, trivial⟩ (by decide +kernel) 5 rfl rfl ⟨rfl, rfl⟩ ⟨by simp only [rL]; omega, by simp only [rL]; omega⟩ rfl hl.1 (Nat.le_of_ble_eq_true rfl) ⟨Nat.le_refl _, Nat.le_refl _⟩ dW_writeDocument_45 rfl (fun H locs hP hD hS => ?_)
        refine b_ifeq (tgt := 55) hx hb dW_writeDocument_48 (by decide) (fun h48 => ?_) (fun h48 => ?_)
        · have h := g_f h h48
          refine lv_iconst (v := (0 : Int32)) hx hb dW_writeDocument_55 (by decide) ?_
          refine lv_istore (lv' := [(6, .int (bI false)), (5, .int u14), (4, .int w_count), (0, .ref xA), (1, .int v1), (2, .int v2), (3, .int v3)]) hx hb dW_writeDocument_56 hl (Nat.le_of_ble_eq_true rfl) rfl (fun ls hl => ?_)
          refine lv_iconst (v := (0 : Int32)) hx hb dW_writeDocument_58 (by decide) ?_
          refine lv_istore (lv' := [(7, .int (0 : Int32)), (6, .int (bI false)), (5, .int u14), (4, .int w_count), (0, .ref xA), (1, .int v1), (2, .int v2), (3, .int v3)]) hx hb dW_writeDocument_59 hl (Nat.le_of_ble_eq_true rfl) rfl (fun ls hl => ?_)
          exact t61 w_count u14 N (false, (0 : Int32), u45.2.1, u45.2.2) h _ _ _ (lv_sub hl [4, 5, 7, 3, 2, 1, 0] rfl) hP hD hS
        · have h := g_t h h48
          refine lv_iconst (v := (1 : Int32)) hx hb dW_writeDocument_51 (by decide) ?_
          refine lv_goto (tgt := 56) hx hb dW_writeDocument_52 (by decide) ?_
          refine lv_istore (lv' := [(6, .int (bI true)), (5, .int u14), (4, .int w_count), (0, .ref xA), (1, .int v1), (2, .int v2), (3, .int v3)]) hx hb dW_writeDocument_56 hl (Nat.le_of_ble_eq_true rfl) rfl (fun ls hl => ?_)
          refine lv_iconst (v := (0 : Int32)) hx hb dW_writeDocument_58 (by decide) ?_
          refine lv_istore (lv' := [(7, .int (0 : Int32)), (6, .int (bI true)), (5, .int u14), (4, .int w_count), (0, .ref xA), (1, .int v1), (2, .int v2), (3, .int v3)]) hx hb dW_writeDocument_59 hl (Nat.le_of_ble_eq_true rfl) rfl (fun ls hl => ?_)
          exact t61 w_count u14 N (true, (0 : Int32), u45.2.1, u45.2.2) h _ _ _ (lv_sub hl [4, 5, 7, 3, 2, 1, 0] rfl) hP hD hS
def fW_writeDocumentl (N : Nat) (d_classCount : Int32) (d_propertyCount : Int32) (d_parents : (Nat → Int32)) (d_owners : (Nat → Int32)) (d_letters : (Nat → Int32)) (d_sorts : (Nat → Int32)) (d_targets : (Nat → Int32)) (i_count : Int32) (i_kinds : (Nat → Int32)) (i_values : (Nat → Int64)) (i_partners : (Nat → Int32)) : Nat → Int32 × Int32 × Int32 × Int32 × (Nat → Int32) → Option (Bool × Int32 × (Nat → Int32)) := lp (fun rk a => fW_writeDocumentS N rk a.1 a.2.1 a.2.2.1 d_classCount d_propertyCount d_parents d_owners d_letters d_sorts d_targets i_count i_kinds i_values i_partners a.2.2.2.1 a.2.2.2.2)
def fW_writeDocument (N : Nat) (q : Nat) (v1 : Int32) (v2 : Int32) (v3 : Int32) (d_classCount : Int32) (d_propertyCount : Int32) (d_parents : (Nat → Int32)) (d_owners : (Nat → Int32)) (d_letters : (Nat → Int32)) (d_sorts : (Nat → Int32)) (d_targets : (Nat → Int32)) (i_count : Int32) (i_kinds : (Nat → Int32)) (i_values : (Nat → Int64)) (i_partners : (Nat → Int32)) (w_count : Int32) (w_row : (Nat → Int32)) : Option (Bool × Int32 × (Nat → Int32)) := fW_writeDocumentl N d_classCount d_propertyCount d_parents d_owners d_letters d_sorts d_targets i_count i_kinds i_values i_partners q (v1, v2, v3, w_count, w_row)
set_option maxHeartbeats 4000000 in
set_option maxRecDepth 100000 in
theorem cW_writeDocument (l : Launch) (D : va_G) (cI cJ : ClassId) (xA dA dA0 dA1 dA2 dA3 dA4 iA iA0 iA1 iA2 wA wA0 : Nat) (N : Nat) (q : Nat) (v1 : Int32) (v2 : Int32) (v3 : Int32) (d_classCount : Int32) (d_propertyCount : Int32) (d_parents : (Nat → Int32)) (d_owners : (Nat → Int32)) (d_letters : (Nat → Int32)) (d_sorts : (Nat → Int32)) (d_targets : (Nat → Int32)) (i_count : Int32) (i_kinds : (Nat → Int32)) (i_values : (Nat → Int64)) (i_partners : (Nat → Int32)) (w_count : Int32) (w_row : (Nat → Int32)) (r : Bool × Int32 × (Nat → Int32)) (h : fW_writeDocument N q v1 v2 v3 d_classCount d_propertyCount d_parents d_owners d_letters d_sorts d_targets i_count i_kinds i_values i_partners w_count w_row = some r) : Mu l yW_writeDocument bW_writeDocument 8 (some .boolean) (rL (4 * q + 10)) [.ref xA, .int v1, .int v2, .int v3] D cI cJ [(xA, .inr (5, [.ref dA, .ref iA, .ref wA])), (dA, .inr (1, [.ref dA0, .ref dA1, .ref dA2, .ref dA3, .ref dA4, .int d_classCount, .int d_propertyCount])), (dA0, .inl (cI, 6, .inl d_parents)), (dA1, .inl (cI, 8, .inl d_owners)), (dA2, .inl (cI, 8, .inl d_letters)), (dA3, .inl (cI, 8, .inl d_sorts)), (dA4, .inl (cI, 8, .inl d_targets)), (iA, .inr (3, [.ref iA0, .ref iA1, .ref iA2, .int i_count])), (iA0, .inl (cI, 12, .inl i_kinds)), (iA1, .inl (cJ, 96, .inr (.inl i_values))), (iA2, .inl (cI, 96, .inl i_partners)), (wA, .inr (0, [.ref wA0, .int w_count])), (wA0, .inl (cI, 120, .inl w_row))] (some (.int (bI r.1))) [(xA, .inr (5, [.ref dA, .ref iA, .ref wA])), (dA, .inr (1, [.ref dA0, .ref dA1, .ref dA2, .ref dA3, .ref dA4, .int d_classCount, .int d_propertyCount])), (dA0, .inl (cI, 6, .inl d_parents)), (dA1, .inl (cI, 8, .inl d_owners)), (dA2, .inl (cI, 8, .inl d_letters)), (dA3, .inl (cI, 8, .inl d_sorts)), (dA4, .inl (cI, 8, .inl d_targets)), (iA, .inr (3, [.ref iA0, .ref iA1, .ref iA2, .int i_count])), (iA0, .inl (cI, 12, .inl i_kinds)), (iA1, .inl (cJ, 96, .inr (.inl i_values))), (iA2, .inl (cI, 96, .inl i_partners)), (wA, .inr (0, [.ref wA0, .int r.2.1])), (wA0, .inl (cI, 120, .inl r.2.2))] := by
  induction q generalizing v1 v2 v3 w_count w_row r with
  | zero => exact absurd (show (none : Option (Bool × Int32 × (Nat → Int32))) = some r from h) (by simp)
  | succ q ih =>
    have h : fW_writeDocumentS N (fW_writeDocumentl N d_classCount d_propertyCount d_parents d_owners d_letters d_sorts d_targets i_count i_kinds i_values i_partners q) v1 v2 v3 d_classCount d_propertyCount d_parents d_owners d_letters d_sorts d_targets i_count i_kinds i_values i_partners w_count w_row = some r := h
    have e := cW_writeDocumentS l D cI cJ xA dA dA0 dA1 dA2 dA3 dA4 iA iA0 iA1 iA2 wA wA0 N (fW_writeDocumentl N d_classCount d_propertyCount d_parents d_owners d_letters d_sorts d_targets i_count i_kinds i_values i_partners q) v1 v2 v3 d_classCount d_propertyCount d_parents d_owners d_letters d_sorts d_targets i_count i_kinds i_values i_partners w_count w_row (4 * q) (fun v1 v2 v3 w_count w_row r h => ih v1 v2 v3 w_count w_row r h) r h
    have e2 : 4 * q + 14 = 4 * (q + 1) + 10 := by omega
    rw [e2] at e
    exact e
def fW_write (N : Nat) (v1 : Int32) (v2 : Int32) (d_classCount : Int32) (d_propertyCount : Int32) (d_parents : (Nat → Int32)) (d_owners : (Nat → Int32)) (d_letters : (Nat → Int32)) (d_sorts : (Nat → Int32)) (d_targets : (Nat → Int32)) (i_count : Int32) (i_kinds : (Nat → Int32)) (i_values : (Nat → Int64)) (i_partners : (Nat → Int32)) (w_count : Int32) (w_row : (Nat → Int32)) : Option (Bool × Int32 × (Nat → Int32)) :=
  (fW_writeDocument N 7 v1 v2 (1 : Int32) d_classCount d_propertyCount d_parents d_owners d_letters d_sorts d_targets i_count i_kinds i_values i_partners (0 : Int32) w_row).bind fun u12 => (some (u12.1, u12.2.1, u12.2.2))
set_option maxHeartbeats 4000000 in
set_option maxRecDepth 100000 in
theorem cW_write (l : Launch) (D : va_G) (cI cJ : ClassId) (xA dA dA0 dA1 dA2 dA3 dA4 iA iA0 iA1 iA2 wA wA0 : Nat) (N : Nat) (v1 : Int32) (v2 : Int32) (d_classCount : Int32) (d_propertyCount : Int32) (d_parents : (Nat → Int32)) (d_owners : (Nat → Int32)) (d_letters : (Nat → Int32)) (d_sorts : (Nat → Int32)) (d_targets : (Nat → Int32)) (i_count : Int32) (i_kinds : (Nat → Int32)) (i_values : (Nat → Int64)) (i_partners : (Nat → Int32)) (w_count : Int32) (w_row : (Nat → Int32)) (r : Bool × Int32 × (Nat → Int32)) (h : fW_write N v1 v2 d_classCount d_propertyCount d_parents d_owners d_letters d_sorts d_targets i_count i_kinds i_values i_partners w_count w_row = some r) : Mu l yW_write bW_write 3 (some .boolean) (rL 39) [.ref xA, .int v1, .int v2] D cI cJ [(xA, .inr (5, [.ref dA, .ref iA, .ref wA])), (dA, .inr (1, [.ref dA0, .ref dA1, .ref dA2, .ref dA3, .ref dA4, .int d_classCount, .int d_propertyCount])), (dA0, .inl (cI, 6, .inl d_parents)), (dA1, .inl (cI, 8, .inl d_owners)), (dA2, .inl (cI, 8, .inl d_letters)), (dA3, .inl (cI, 8, .inl d_sorts)), (dA4, .inl (cI, 8, .inl d_targets)), (iA, .inr (3, [.ref iA0, .ref iA1, .ref iA2, .int i_count])), (iA0, .inl (cI, 12, .inl i_kinds)), (iA1, .inl (cJ, 96, .inr (.inl i_values))), (iA2, .inl (cI, 96, .inl i_partners)), (wA, .inr (0, [.ref wA0, .int w_count])), (wA0, .inl (cI, 120, .inl w_row))] (some (.int (bI r.1))) [(xA, .inr (5, [.ref dA, .ref iA, .ref wA])), (dA, .inr (1, [.ref dA0, .ref dA1, .ref dA2, .ref dA3, .ref dA4, .int d_classCount, .int d_propertyCount])), (dA0, .inl (cI, 6, .inl d_parents)), (dA1, .inl (cI, 8, .inl d_owners)), (dA2, .inl (cI, 8, .inl d_letters)), (dA3, .inl (cI, 8, .inl d_sorts)), (dA4, .inl (cI, 8, .inl d_targets)), (iA, .inr (3, [.ref iA0, .ref iA1, .ref iA2, .int i_count])), (iA0, .inl (cI, 12, .inl i_kinds)), (iA1, .inl (cJ, 96, .inr (.inl i_values))), (iA2, .inl (cI, 96, .inl i_partners)), (wA, .inr (0, [.ref wA0, .int r.2.1])), (wA0, .inl (cI, 120, .inl r.2.2))] := by
  refine mu_of (by decide) (Nat.le_of_ble_eq_true rfl) ?_
  intro p e s m below meth c ls A S hr hlocks hN hK hP hD hA hl
  have hS : va_S A s.heap s.heap [] := va_S.rf
  have hx := S.1
  have hb := S.2.1
  have hl : lv_has ls 3 [(0, .ref xA), (1, .int v1), (2, .int v2)] := hl
  unfold fW_write at h
  refine lv_aload_n hx hb dW_write_0 rfl (lv_at hl 0 rfl) ?_
  refine gf S hK hP 0 5 2 u_zW w_147 rfl rfl (by decide) rfl dW_write_1 ?_
  refine lv_iconst (v := (0 : Int32)) hx hb dW_write_4 (by decide) ?_
  refine pfN S hN hK hP hD hS 11 0 1 (v := .int (0 : Int32)) zB_t u_zB zB_k zB_n n_5 rfl rfl (by decide) rfl rfl rfl rfl (Nat.le_of_ble_eq_true rfl) dW_write_5 (fun H locs hP hD hS => ?_)
  have hP : va_P D cs [(xA, .inr (5, [.ref dA, .ref iA, .ref wA])), (dA, .inr (1, [.ref dA0, .ref dA1, .ref dA2, .ref dA3, .ref dA4, .int d_classCount, .int d_propertyCount])), (dA0, .inl (cI, 6, .inl d_parents)), (dA1, .inl (cI, 8, .inl d_owners)), (dA2, .inl (cI, 8, .inl d_letters)), (dA3, .inl (cI, 8, .inl d_sorts)), (dA4, .inl (cI, 8, .inl d_targets)), (iA, .inr (3, [.ref iA0, .ref iA1, .ref iA2, .int i_count])), (iA0, .inl (cI, 12, .inl i_kinds)), (iA1, .inl (cJ, 96, .inr (.inl i_values))), (iA2, .inl (cI, 96, .inl i_partners)), (wA, .inr (0, [.ref wA0, .int (0 : Int32)])), (wA0, .inl (cI, 120, .inl w_row))] H := hP
  have hD : va_D A [(xA, .inr (5, [.ref dA, .ref iA, .ref wA])), (dA, .inr (1, [.ref dA0, .ref dA1, .ref dA2, .ref dA3, .ref dA4, .int d_classCount, .int d_propertyCount])), (dA0, .inl (cI, 6, .inl d_parents)), (dA1, .inl (cI, 8, .inl d_owners)), (dA2, .inl (cI, 8, .inl d_letters)), (dA3, .inl (cI, 8, .inl d_sorts)), (dA4, .inl (cI, 8, .inl d_targets)), (iA, .inr (3, [.ref iA0, .ref iA1, .ref iA2, .int i_count])), (iA0, .inl (cI, 12, .inl i_kinds)), (iA1, .inl (cJ, 96, .inr (.inl i_values))), (iA2, .inl (cI, 96, .inl i_partners)), (wA, .inr (0, [.ref wA0, .int (0 : Int32)])), (wA0, .inl (cI, 120, .inl w_row))] := hD
  refine lv_aload_n hx hb dW_write_8 rfl (lv_at hl 0 rfl) ?_
  refine lv_iload_n hx hb dW_write_9 rfl (lv_at hl 1 rfl) ?_
  refine lv_iload_n hx hb dW_write_10 rfl (lv_at hl 2 rfl) ?_
  refine lv_iconst (v := (1 : Int32)) hx hb dW_write_11 (by decide) ?_
  obtain ⟨u12, e12, h⟩ := g_bind h
  refine mu_v S hN hK hP hD hS hA (rest := []) (cW_writeDocument l D cI cJ xA dA dA0 dA1 dA2 dA3 dA4 iA iA0 iA1 iA2 wA wA0 N 7 v1 v2 (1 : Int32) d_classCount d_propertyCount d_parents d_owners d_letters d_sorts d_targets i_count i_kinds i_values i_partners (0 : Int32) w_row u12 e12) k_W_30 [0, 1, 2, 3, 4, 5, 6, 7, 8, 9, 10, 11, 12] [(some 0), (some 1), (some 2), (some 3), (some 4), (some 5), (some 6), (some 7), (some 8), (some 9), (some 10), (some 11), (some 12)] [(xA, .inr (5, [.ref dA, .ref iA, .ref wA])), (dA, .inr (1, [.ref dA0, .ref dA1, .ref dA2, .ref dA3, .ref dA4, .int d_classCount, .int d_propertyCount])), (dA0, .inl (cI, 6, .inl d_parents)), (dA1, .inl (cI, 8, .inl d_owners)), (dA2, .inl (cI, 8, .inl d_letters)), (dA3, .inl (cI, 8, .inl d_sorts)), (dA4, .inl (cI, 8, .inl d_targets)), (iA, .inr (3, [.ref iA0, .ref iA1, .ref iA2, .int i_count])), (iA0, .inl (cI, 12, .inl i_kinds)), (iA1, .inl (cJ, 96, .inr (.inl i_values))), (iA2, .inl (cI, 96, .inl i_partners)), (wA, .inr (0, [.ref wA0, .int u12.2.1])), (wA0, .inl (cI, 120, .inl u12.2.2))] rfl rfl rfl ⟨rfl, rfl, rfl, rfl, rfl, rfl, rfl, rfl, rfl, rfl, rfl, rfl, rfl, trivial⟩ (by decide +kernel) 5 rfl rfl ⟨rfl, rfl⟩ ⟨Nat.le_of_ble_eq_true rfl, Nat.le_of_ble_eq_true rfl⟩ rfl hl.1 (Nat.le_of_ble_eq_true rfl) ⟨Nat.le_refl _, Nat.le_refl _⟩ dW_write_12 rfl (fun H locs hP hD hS => ?_)
  cases h
  exact mu_z S hr hlocks hP hS dW_write_15 rfl rfl
