/-! contracts, laid by wip/gen/parts.py -/
def fM_put (N : Nat) (v1 : Int32) (v2 : Int32) (v3 : Int64) (m_given : Int32) (m_count : Int32) (m_parent : (Nat → Int32)) (m_owner : (Nat → Int32)) (m_letters : (Nat → Int32)) (m_sorts : (Nat → Int32)) (m_cls : (Nat → Int32)) (m_held : (Nat → Int64)) : Option (Bool × (Nat → Int64)) :=
  (fM_slot N v1 v2 m_given m_count m_parent m_owner m_letters m_cls).bind fun u3 => (if u3 < 0 then (some (false, m_held)) else (if ok u3 8 = true then (if (m_sorts u3.toNatClampNeg) = (3 : Int32) then (some (false, m_held)) else (if ok u3 8 = true then (if (m_sorts u3.toNatClampNeg) = 0 then (if (lg_cmp v3 (-2147483648 : Int64)) < 0 then (some (false, m_held)) else (if 0 < (lg_cmp v3 (2147483647 : Int64)) then (some (false, m_held)) else (if ok u3 8 = true then (if (m_sorts u3.toNatClampNeg) = (2 : Int32) then (if (lg_cmp v3 (0 : Int64)) < 0 then (some (false, m_held)) else (if (lg_cmp v3 (1 : Int64)) ≤ 0 then (if ok (((8 : Int32) * v1) + u3) 96 = true then (some (true, vp_updL m_held (((8 : Int32) * v1) + u3).toNatClampNeg v3)) else none) else (some (false, m_held)))) else (if ok (((8 : Int32) * v1) + u3) 96 = true then (some (true, vp_updL m_held (((8 : Int32) * v1) + u3).toNatClampNeg v3)) else none)) else none))) else (if ok u3 8 = true then (if (m_sorts u3.toNatClampNeg) = (2 : Int32) then (if (lg_cmp v3 (0 : Int64)) < 0 then (some (false, m_held)) else (if (lg_cmp v3 (1 : Int64)) ≤ 0 then (if ok (((8 : Int32) * v1) + u3) 96 = true then (some (true, vp_updL m_held (((8 : Int32) * v1) + u3).toNatClampNeg v3)) else none) else (some (false, m_held)))) else (if ok (((8 : Int32) * v1) + u3) 96 = true then (some (true, vp_updL m_held (((8 : Int32) * v1) + u3).toNatClampNeg v3)) else none)) else none)) else none)) else none))
set_option maxHeartbeats 4000000 in
set_option maxRecDepth 100000 in
theorem cM_put (l : Launch) (D : va_G) (cI cJ : ClassId) (mA mA0 mA1 mA2 mA3 mA4 mA5 mA6 mA7 mA8 mA9 mA10 mA11 mA12 mA13 mA14 mA15 mA16 mA17 mA18 mA19 mA20 mA21 mA22 : Nat) (N : Nat) (v1 : Int32) (v2 : Int32) (v3 : Int64) (m_classes : Int32) (m_given : Int32) (m_count : Int32) (m_size : Int32) (m_len : Int32) (m_failed : Bool) (m_open : Int32) (m_at : Int32) (m_bad : Bool) (m_docs : Int32) (m_elems : Int32) (m_deep : Int32) (m_parent : (Nat → Int32)) (m_owner : (Nat → Int32)) (m_letters : (Nat → Int32)) (m_sorts : (Nat → Int32)) (m_targets : (Nat → Int32)) (m_cls : (Nat → Int32)) (m_held : (Nat → Int64)) (m_bytes : (Nat → Int32)) (m_out : (Nat → Int32)) (m_openObject : (Nat → Int32)) (m_openStart : (Nat → Int32)) (m_openNext : (Nat → Int32)) (m_docStart : (Nat → Int32)) (m_docDepth : (Nat → Int32)) (m_docNeed : (Nat → Int32)) (m_docMeant : (Nat → Int32)) (m_elemDoc : (Nat → Int32)) (m_elemType : (Nat → Int32)) (m_elemName : (Nat → Int32)) (m_elemNameLen : (Nat → Int32)) (m_elemContent : (Nat → Int32)) (m_elemChild : (Nat → Int32)) (m_deepDoc : (Nat → Int32)) (r : Bool × (Nat → Int64)) (h : fM_put N v1 v2 v3 m_given m_count m_parent m_owner m_letters m_sorts m_cls m_held = some r) : Mu l yM_put bM_put 6 (some .boolean) (rL 4) [.ref mA, .int v1, .int v2, .long v3] D cI cJ [(mA, .inr (7, [.int m_classes, .ref mA0, .int m_given, .ref mA1, .ref mA2, .ref mA3, .ref mA4, .int m_count, .ref mA5, .ref mA6, .int m_size, .ref mA7, .int m_len, .int (bI m_failed), .ref mA8, .int m_open, .ref mA9, .ref mA10, .ref mA11, .int m_at, .int (bI m_bad), .int m_docs, .ref mA12, .ref mA13, .ref mA14, .ref mA15, .int m_elems, .ref mA16, .ref mA17, .ref mA18, .ref mA19, .ref mA20, .ref mA21, .int m_deep, .ref mA22])), (mA0, .inl (cI, 6, .inl m_parent)), (mA1, .inl (cI, 8, .inl m_owner)), (mA2, .inl (cI, 8, .inl m_letters)), (mA3, .inl (cI, 8, .inl m_sorts)), (mA4, .inl (cI, 8, .inl m_targets)), (mA5, .inl (cI, 12, .inl m_cls)), (mA6, .inl (cJ, 96, .inr (.inl m_held))), (mA7, .inl (cI, 120, .inl m_bytes)), (mA8, .inl (cI, 120, .inl m_out)), (mA9, .inl (cI, 5, .inl m_openObject)), (mA10, .inl (cI, 5, .inl m_openStart)), (mA11, .inl (cI, 5, .inl m_openNext)), (mA12, .inl (cI, 25, .inl m_docStart)), (mA13, .inl (cI, 25, .inl m_docDepth)), (mA14, .inl (cI, 25, .inl m_docNeed)), (mA15, .inl (cI, 25, .inl m_docMeant)), (mA16, .inl (cI, 60, .inl m_elemDoc)), (mA17, .inl (cI, 60, .inl m_elemType)), (mA18, .inl (cI, 60, .inl m_elemName)), (mA19, .inl (cI, 60, .inl m_elemNameLen)), (mA20, .inl (cI, 60, .inl m_elemContent)), (mA21, .inl (cI, 60, .inl m_elemChild)), (mA22, .inl (cI, 6, .inl m_deepDoc))] (some (.int (bI r.1))) [(mA, .inr (7, [.int m_classes, .ref mA0, .int m_given, .ref mA1, .ref mA2, .ref mA3, .ref mA4, .int m_count, .ref mA5, .ref mA6, .int m_size, .ref mA7, .int m_len, .int (bI m_failed), .ref mA8, .int m_open, .ref mA9, .ref mA10, .ref mA11, .int m_at, .int (bI m_bad), .int m_docs, .ref mA12, .ref mA13, .ref mA14, .ref mA15, .int m_elems, .ref mA16, .ref mA17, .ref mA18, .ref mA19, .ref mA20, .ref mA21, .int m_deep, .ref mA22])), (mA0, .inl (cI, 6, .inl m_parent)), (mA1, .inl (cI, 8, .inl m_owner)), (mA2, .inl (cI, 8, .inl m_letters)), (mA3, .inl (cI, 8, .inl m_sorts)), (mA4, .inl (cI, 8, .inl m_targets)), (mA5, .inl (cI, 12, .inl m_cls)), (mA6, .inl (cJ, 96, .inr (.inl r.2))), (mA7, .inl (cI, 120, .inl m_bytes)), (mA8, .inl (cI, 120, .inl m_out)), (mA9, .inl (cI, 5, .inl m_openObject)), (mA10, .inl (cI, 5, .inl m_openStart)), (mA11, .inl (cI, 5, .inl m_openNext)), (mA12, .inl (cI, 25, .inl m_docStart)), (mA13, .inl (cI, 25, .inl m_docDepth)), (mA14, .inl (cI, 25, .inl m_docNeed)), (mA15, .inl (cI, 25, .inl m_docMeant)), (mA16, .inl (cI, 60, .inl m_elemDoc)), (mA17, .inl (cI, 60, .inl m_elemType)), (mA18, .inl (cI, 60, .inl m_elemName)), (mA19, .inl (cI, 60, .inl m_elemNameLen)), (mA20, .inl (cI, 60, .inl m_elemContent)), (mA21, .inl (cI, 60, .inl m_elemChild)), (mA22, .inl (cI, 6, .inl m_deepDoc))] := by
  refine mu_of (by decide) (Nat.le_of_ble_eq_true rfl) ?_
  intro p e s m below meth c ls A S hr hlocks hN hK hP hD hA hl
  have hS : va_S A s.heap s.heap [] := va_S.rf
  have hx := S.1
  have hb := S.2.1
  have hl : lv_has ls 6 [(0, .ref mA), (1, .int v1), (2, .int v2), (3, .long v3)] := hl
  unfold fM_put at h
  refine lv_aload_n hx hb dM_put_0 rfl (lv_at hl 0 rfl) ?_
  refine lv_iload_n hx hb dM_put_1 rfl (lv_at hl 1 rfl) ?_
  refine lv_iload_n hx hb dM_put_2 rfl (lv_at hl 2 rfl) ?_
  obtain ⟨u3, e3, h⟩ := g_bind h
  refine pu_v S hN hK hP (rest := []) (cM_slot l D cI cJ mA mA0 mA1 mA2 mA3 mA4 mA5 mA6 mA7 mA8 mA9 mA10 mA11 mA12 mA13 mA14 mA15 mA16 mA17 mA18 mA19 mA20 mA21 mA22 N v1 v2 m_classes m_given m_count m_size m_len m_failed m_open m_at m_bad m_docs m_elems m_deep m_parent m_owner m_letters m_sorts m_targets m_cls m_held m_bytes m_out m_openObject m_openStart m_openNext m_docStart m_docDepth m_docNeed m_docMeant m_elemDoc m_elemType m_elemName m_elemNameLen m_elemContent m_elemChild m_deepDoc u3 e3) k_M_114 [0, 1, 2, 3, 4, 5, 6, 7, 8, 9, 10, 11, 12, 13, 14, 15, 16, 17, 18, 19, 20, 21, 22, 23] rfl 7 rfl rfl ⟨rfl, rfl⟩ ⟨Nat.le_of_ble_eq_true rfl, Nat.le_of_ble_eq_true rfl⟩ rfl hl.1 (Nat.le_of_ble_eq_true rfl) ⟨Nat.le_refl _, Nat.le_refl _⟩ dM_put_3 rfl ?_
  refine lv_istore (lv' := [(5, .int u3), (0, .ref mA), (1, .int v1), (2, .int v2), (3, .long v3)]) hx hb dM_put_6 hl (Nat.le_of_ble_eq_true rfl) rfl (fun ls hl => ?_)
  refine lv_iload hx hb dM_put_8 (lv_at hl 0 rfl) ?_
  refine lv_if_lt (tgt := 24) hx hb dM_put_10 (by decide) (fun h10 => ?_) (fun h10 => ?_)
  · have h := g_t h h10
    refine lv_iconst (v := (0 : Int32)) hx hb dM_put_24 (by decide) ?_
    cases h
    exact mu_z S hr hlocks hP hS dM_put_25 rfl rfl
  · have h := g_f h h10
    refine lv_aload_n hx hb dM_put_13 rfl (lv_at hl 1 rfl) ?_
    refine gf S hK hP 0 7 5 u_zM w_612 rfl rfl (by decide) rfl dM_put_14 ?_
    refine lv_iload hx hb dM_put_17 (lv_at hl 0 rfl) ?_
    obtain ⟨b19, h⟩ := g_ok h
    refine va_iald hx hb hK hP 4 0 rfl rfl b19 dM_put_19 ?_
    refine lv_iconst (v := (3 : Int32)) hx hb dM_put_20 (by decide) ?_
    refine lv_icmp_ne (tgt := 26) hx hb dM_put_21 (by decide) (fun h21 => ?_) (fun h21 => ?_)
    · have h := g_f h h21
      refine lv_aload_n hx hb dM_put_26 rfl (lv_at hl 1 rfl) ?_
      refine gf S hK hP 0 7 5 u_zM w_612 rfl rfl (by decide) rfl dM_put_27 ?_
      refine lv_iload hx hb dM_put_30 (lv_at hl 0 rfl) ?_
      obtain ⟨b32, h⟩ := g_ok h
      refine va_iald hx hb hK hP 4 0 rfl rfl b32 dM_put_32 ?_
      refine lv_if_ne (tgt := 52) hx hb dM_put_33 (by decide) (fun h33 => ?_) (fun h33 => ?_)
      · have h := g_f h h33
        refine lv_aload_n hx hb dM_put_52 rfl (lv_at hl 1 rfl) ?_
        refine gf S hK hP 0 7 5 u_zM w_612 rfl rfl (by decide) rfl dM_put_53 ?_
        refine lv_iload hx hb dM_put_56 (lv_at hl 0 rfl) ?_
        obtain ⟨b58, h⟩ := g_ok h
        refine va_iald hx hb hK hP 4 0 rfl rfl b58 dM_put_58 ?_
        refine lv_iconst (v := (2 : Int32)) hx hb dM_put_59 (by decide) ?_
        refine lv_icmp_ne (tgt := 77) hx hb dM_put_60 (by decide) (fun h60 => ?_) (fun h60 => ?_)
        · have h := g_f h h60
          refine lv_aload_n hx hb dM_put_77 rfl (lv_at hl 1 rfl) ?_
          refine gf S hK hP 0 7 9 u_zM w_616 rfl rfl (by decide) rfl dM_put_78 ?_
          refine lv_bipush (v := (8 : Int32)) hx hb dM_put_81 (by decide) ?_
          refine lv_iload_n hx hb dM_put_83 rfl (lv_at hl 2 rfl) ?_
          refine lv_imul hx hb dM_put_84 ?_
          refine lv_iload hx hb dM_put_85 (lv_at hl 0 rfl) ?_
          refine lv_iadd hx hb dM_put_87 ?_
          refine lv_lload_n hx hb dM_put_88 rfl (lv_at hl 4 rfl) ?_
          obtain ⟨b89, h⟩ := g_ok h
          refine va_last hx hb hK hP hD hS 7 1 rfl rfl b89 dM_put_89 (fun H locs hP hD hS => ?_)
          have hP : va_P D cs [(mA, .inr (7, [.int m_classes, .ref mA0, .int m_given, .ref mA1, .ref mA2, .ref mA3, .ref mA4, .int m_count, .ref mA5, .ref mA6, .int m_size, .ref mA7, .int m_len, .int (bI m_failed), .ref mA8, .int m_open, .ref mA9, .ref mA10, .ref mA11, .int m_at, .int (bI m_bad), .int m_docs, .ref mA12, .ref mA13, .ref mA14, .ref mA15, .int m_elems, .ref mA16, .ref mA17, .ref mA18, .ref mA19, .ref mA20, .ref mA21, .int m_deep, .ref mA22])), (mA0, .inl (cI, 6, .inl m_parent)), (mA1, .inl (cI, 8, .inl m_owner)), (mA2, .inl (cI, 8, .inl m_letters)), (mA3, .inl (cI, 8, .inl m_sorts)), (mA4, .inl (cI, 8, .inl m_targets)), (mA5, .inl (cI, 12, .inl m_cls)), (mA6, .inl (cJ, 96, .inr (.inl (vp_updL m_held (((8 : Int32) * v1) + u3).toNatClampNeg v3)))), (mA7, .inl (cI, 120, .inl m_bytes)), (mA8, .inl (cI, 120, .inl m_out)), (mA9, .inl (cI, 5, .inl m_openObject)), (mA10, .inl (cI, 5, .inl m_openStart)), (mA11, .inl (cI, 5, .inl m_openNext)), (mA12, .inl (cI, 25, .inl m_docStart)), (mA13, .inl (cI, 25, .inl m_docDepth)), (mA14, .inl (cI, 25, .inl m_docNeed)), (mA15, .inl (cI, 25, .inl m_docMeant)), (mA16, .inl (cI, 60, .inl m_elemDoc)), (mA17, .inl (cI, 60, .inl m_elemType)), (mA18, .inl (cI, 60, .inl m_elemName)), (mA19, .inl (cI, 60, .inl m_elemNameLen)), (mA20, .inl (cI, 60, .inl m_elemContent)), (mA21, .inl (cI, 60, .inl m_elemChild)), (mA22, .inl (cI, 6, .inl m_deepDoc))] H := hP
          have hD : va_D A [(mA, .inr (7, [.int m_classes, .ref mA0, .int m_given, .ref mA1, .ref mA2, .ref mA3, .ref mA4, .int m_count, .ref mA5, .ref mA6, .int m_size, .ref mA7, .int m_len, .int (bI m_failed), .ref mA8, .int m_open, .ref mA9, .ref mA10, .ref mA11, .int m_at, .int (bI m_bad), .int m_docs, .ref mA12, .ref mA13, .ref mA14, .ref mA15, .int m_elems, .ref mA16, .ref mA17, .ref mA18, .ref mA19, .ref mA20, .ref mA21, .int m_deep, .ref mA22])), (mA0, .inl (cI, 6, .inl m_parent)), (mA1, .inl (cI, 8, .inl m_owner)), (mA2, .inl (cI, 8, .inl m_letters)), (mA3, .inl (cI, 8, .inl m_sorts)), (mA4, .inl (cI, 8, .inl m_targets)), (mA5, .inl (cI, 12, .inl m_cls)), (mA6, .inl (cJ, 96, .inr (.inl (vp_updL m_held (((8 : Int32) * v1) + u3).toNatClampNeg v3)))), (mA7, .inl (cI, 120, .inl m_bytes)), (mA8, .inl (cI, 120, .inl m_out)), (mA9, .inl (cI, 5, .inl m_openObject)), (mA10, .inl (cI, 5, .inl m_openStart)), (mA11, .inl (cI, 5, .inl m_openNext)), (mA12, .inl (cI, 25, .inl m_docStart)), (mA13, .inl (cI, 25, .inl m_docDepth)), (mA14, .inl (cI, 25, .inl m_docNeed)), (mA15, .inl (cI, 25, .inl m_docMeant)), (mA16, .inl (cI, 60, .inl m_elemDoc)), (mA17, .inl (cI, 60, .inl m_elemType)), (mA18, .inl (cI, 60, .inl m_elemName)), (mA19, .inl (cI, 60, .inl m_elemNameLen)), (mA20, .inl (cI, 60, .inl m_elemContent)), (mA21, .inl (cI, 60, .inl m_elemChild)), (mA22, .inl (cI, 6, .inl m_deepDoc))] := hD
          refine lv_iconst (v := (1 : Int32)) hx hb dM_put_90 (by decide) ?_
          cases h
          exact mu_z S hr hlocks hP hS dM_put_91 rfl rfl
        · have h := g_t h h60
          refine lv_lload_n hx hb dM_put_63 rfl (lv_at hl 4 rfl) ?_
          refine lv_lconst (v := (0 : Int64)) hx hb dM_put_64 (by decide) ?_
          refine W.lcmp hx hb dM_put_65 ?_
          refine lv_if_lt (tgt := 75) hx hb dM_put_66 (by decide) (fun h66 => ?_) (fun h66 => ?_)
          · have h := g_t h h66
            refine lv_iconst (v := (0 : Int32)) hx hb dM_put_75 (by decide) ?_
            cases h
            exact mu_z S hr hlocks hP hS dM_put_76 rfl rfl
          · have h := g_f h h66
            refine lv_lload_n hx hb dM_put_69 rfl (lv_at hl 4 rfl) ?_
            refine lv_lconst (v := (1 : Int64)) hx hb dM_put_70 (by decide) ?_
            refine W.lcmp hx hb dM_put_71 ?_
            refine lv_if_le (tgt := 77) hx hb dM_put_72 (by decide) (fun h72 => ?_) (fun h72 => ?_)
            · have h := g_t h h72
              refine lv_aload_n hx hb dM_put_77 rfl (lv_at hl 1 rfl) ?_
              refine gf S hK hP 0 7 9 u_zM w_616 rfl rfl (by decide) rfl dM_put_78 ?_
              refine lv_bipush (v := (8 : Int32)) hx hb dM_put_81 (by decide) ?_
              refine lv_iload_n hx hb dM_put_83 rfl (lv_at hl 2 rfl) ?_
              refine lv_imul hx hb dM_put_84 ?_
              refine lv_iload hx hb dM_put_85 (lv_at hl 0 rfl) ?_
              refine lv_iadd hx hb dM_put_87 ?_
              refine lv_lload_n hx hb dM_put_88 rfl (lv_at hl 4 rfl) ?_
              obtain ⟨b89, h⟩ := g_ok h
              refine va_last hx hb hK hP hD hS 7 1 rfl rfl b89 dM_put_89 (fun H locs hP hD hS => ?_)
              have hP : va_P D cs [(mA, .inr (7, [.int m_classes, .ref mA0, .int m_given, .ref mA1, .ref mA2, .ref mA3, .ref mA4, .int m_count, .ref mA5, .ref mA6, .int m_size, .ref mA7, .int m_len, .int (bI m_failed), .ref mA8, .int m_open, .ref mA9, .ref mA10, .ref mA11, .int m_at, .int (bI m_bad), .int m_docs, .ref mA12, .ref mA13, .ref mA14, .ref mA15, .int m_elems, .ref mA16, .ref mA17, .ref mA18, .ref mA19, .ref mA20, .ref mA21, .int m_deep, .ref mA22])), (mA0, .inl (cI, 6, .inl m_parent)), (mA1, .inl (cI, 8, .inl m_owner)), (mA2, .inl (cI, 8, .inl m_letters)), (mA3, .inl (cI, 8, .inl m_sorts)), (mA4, .inl (cI, 8, .inl m_targets)), (mA5, .inl (cI, 12, .inl m_cls)), (mA6, .inl (cJ, 96, .inr (.inl (vp_updL m_held (((8 : Int32) * v1) + u3).toNatClampNeg v3)))), (mA7, .inl (cI, 120, .inl m_bytes)), (mA8, .inl (cI, 120, .inl m_out)), (mA9, .inl (cI, 5, .inl m_openObject)), (mA10, .inl (cI, 5, .inl m_openStart)), (mA11, .inl (cI, 5, .inl m_openNext)), (mA12, .inl (cI, 25, .inl m_docStart)), (mA13, .inl (cI, 25, .inl m_docDepth)), (mA14, .inl (cI, 25, .inl m_docNeed)), (mA15, .inl (cI, 25, .inl m_docMeant)), (mA16, .inl (cI, 60, .inl m_elemDoc)), (mA17, .inl (cI, 60, .inl m_elemType)), (mA18, .inl (cI, 60, .inl m_elemName)), (mA19, .inl (cI, 60, .inl m_elemNameLen)), (mA20, .inl (cI, 60, .inl m_elemContent)), (mA21, .inl (cI, 60, .inl m_elemChild)), (mA22, .inl (cI, 6, .inl m_deepDoc))] H := hP
              have hD : va_D A [(mA, .inr (7, [.int m_classes, .ref mA0, .int m_given, .ref mA1, .ref mA2, .ref mA3, .ref mA4, .int m_count, .ref mA5, .ref mA6, .int m_size, .ref mA7, .int m_len, .int (bI m_failed), .ref mA8, .int m_open, .ref mA9, .ref mA10, .ref mA11, .int m_at, .int (bI m_bad), .int m_docs, .ref mA12, .ref mA13, .ref mA14, .ref mA15, .int m_elems, .ref mA16, .ref mA17, .ref mA18, .ref mA19, .ref mA20, .ref mA21, .int m_deep, .ref mA22])), (mA0, .inl (cI, 6, .inl m_parent)), (mA1, .inl (cI, 8, .inl m_owner)), (mA2, .inl (cI, 8, .inl m_letters)), (mA3, .inl (cI, 8, .inl m_sorts)), (mA4, .inl (cI, 8, .inl m_targets)), (mA5, .inl (cI, 12, .inl m_cls)), (mA6, .inl (cJ, 96, .inr (.inl (vp_updL m_held (((8 : Int32) * v1) + u3).toNatClampNeg v3)))), (mA7, .inl (cI, 120, .inl m_bytes)), (mA8, .inl (cI, 120, .inl m_out)), (mA9, .inl (cI, 5, .inl m_openObject)), (mA10, .inl (cI, 5, .inl m_openStart)), (mA11, .inl (cI, 5, .inl m_openNext)), (mA12, .inl (cI, 25, .inl m_docStart)), (mA13, .inl (cI, 25, .inl m_docDepth)), (mA14, .inl (cI, 25, .inl m_docNeed)), (mA15, .inl (cI, 25, .inl m_docMeant)), (mA16, .inl (cI, 60, .inl m_elemDoc)), (mA17, .inl (cI, 60, .inl m_elemType)), (mA18, .inl (cI, 60, .inl m_elemName)), (mA19, .inl (cI, 60, .inl m_elemNameLen)), (mA20, .inl (cI, 60, .inl m_elemContent)), (mA21, .inl (cI, 60, .inl m_elemChild)), (mA22, .inl (cI, 6, .inl m_deepDoc))] := hD
              refine lv_iconst (v := (1 : Int32)) hx hb dM_put_90 (by decide) ?_
              cases h
              exact mu_z S hr hlocks hP hS dM_put_91 rfl rfl
            · have h := g_f h h72
              refine lv_iconst (v := (0 : Int32)) hx hb dM_put_75 (by decide) ?_
              cases h
              exact mu_z S hr hlocks hP hS dM_put_76 rfl rfl
      · have h := g_t h h33
        refine lv_lload_n hx hb dM_put_36 rfl (lv_at hl 4 rfl) ?_
        refine lv_ldc2 hx hb S.2.2.2.1 (S.2.2.2.2 _ w_758) dM_put_37 ?_
        refine W.lcmp hx hb dM_put_40 ?_
        refine lv_if_lt (tgt := 75) hx hb dM_put_41 (by decide) (fun h41 => ?_) (fun h41 => ?_)
        · have h := g_t h h41
          refine lv_iconst (v := (0 : Int32)) hx hb dM_put_75 (by decide) ?_
          cases h
          exact mu_z S hr hlocks hP hS dM_put_76 rfl rfl
        · have h := g_f h h41
          refine lv_lload_n hx hb dM_put_44 rfl (lv_at hl 4 rfl) ?_
          refine lv_ldc2 hx hb S.2.2.2.1 (S.2.2.2.2 _ w_759) dM_put_45 ?_
          refine W.lcmp hx hb dM_put_48 ?_
          refine lv_if_gt (tgt := 75) hx hb dM_put_49 (by decide) (fun h49 => ?_) (fun h49 => ?_)
          · have h := g_t h h49
            refine lv_iconst (v := (0 : Int32)) hx hb dM_put_75 (by decide) ?_
            cases h
            exact mu_z S hr hlocks hP hS dM_put_76 rfl rfl
          · have h := g_f h h49
            refine lv_aload_n hx hb dM_put_52 rfl (lv_at hl 1 rfl) ?_
            refine gf S hK hP 0 7 5 u_zM w_612 rfl rfl (by decide) rfl dM_put_53 ?_
            refine lv_iload hx hb dM_put_56 (lv_at hl 0 rfl) ?_
            obtain ⟨b58, h⟩ := g_ok h
            refine va_iald hx hb hK hP 4 0 rfl rfl b58 dM_put_58 ?_
            refine lv_iconst (v := (2 : Int32)) hx hb dM_put_59 (by decide) ?_
            refine lv_icmp_ne (tgt := 77) hx hb dM_put_60 (by decide) (fun h60 => ?_) (fun h60 => ?_)
            · have h := g_f h h60
              refine lv_aload_n hx hb dM_put_77 rfl (lv_at hl 1 rfl) ?_
              refine gf S hK hP 0 7 9 u_zM w_616 rfl rfl (by decide) rfl dM_put_78 ?_
              refine lv_bipush (v := (8 : Int32)) hx hb dM_put_81 (by decide) ?_
              refine lv_iload_n hx hb dM_put_83 rfl (lv_at hl 2 rfl) ?_
              refine lv_imul hx hb dM_put_84 ?_
              refine lv_iload hx hb dM_put_85 (lv_at hl 0 rfl) ?_
              refine lv_iadd hx hb dM_put_87 ?_
              refine lv_lload_n hx hb dM_put_88 rfl (lv_at hl 4 rfl) ?_
              obtain ⟨b89, h⟩ := g_ok h
              refine va_last hx hb hK hP hD hS 7 1 rfl rfl b89 dM_put_89 (fun H locs hP hD hS => ?_)
              have hP : va_P D cs [(mA, .inr (7, [.int m_classes, .ref mA0, .int m_given, .ref mA1, .ref mA2, .ref mA3, .ref mA4, .int m_count, .ref mA5, .ref mA6, .int m_size, .ref mA7, .int m_len, .int (bI m_failed), .ref mA8, .int m_open, .ref mA9, .ref mA10, .ref mA11, .int m_at, .int (bI m_bad), .int m_docs, .ref mA12, .ref mA13, .ref mA14, .ref mA15, .int m_elems, .ref mA16, .ref mA17, .ref mA18, .ref mA19, .ref mA20, .ref mA21, .int m_deep, .ref mA22])), (mA0, .inl (cI, 6, .inl m_parent)), (mA1, .inl (cI, 8, .inl m_owner)), (mA2, .inl (cI, 8, .inl m_letters)), (mA3, .inl (cI, 8, .inl m_sorts)), (mA4, .inl (cI, 8, .inl m_targets)), (mA5, .inl (cI, 12, .inl m_cls)), (mA6, .inl (cJ, 96, .inr (.inl (vp_updL m_held (((8 : Int32) * v1) + u3).toNatClampNeg v3)))), (mA7, .inl (cI, 120, .inl m_bytes)), (mA8, .inl (cI, 120, .inl m_out)), (mA9, .inl (cI, 5, .inl m_openObject)), (mA10, .inl (cI, 5, .inl m_openStart)), (mA11, .inl (cI, 5, .inl m_openNext)), (mA12, .inl (cI, 25, .inl m_docStart)), (mA13, .inl (cI, 25, .inl m_docDepth)), (mA14, .inl (cI, 25, .inl m_docNeed)), (mA15, .inl (cI, 25, .inl m_docMeant)), (mA16, .inl (cI, 60, .inl m_elemDoc)), (mA17, .inl (cI, 60, .inl m_elemType)), (mA18, .inl (cI, 60, .inl m_elemName)), (mA19, .inl (cI, 60, .inl m_elemNameLen)), (mA20, .inl (cI, 60, .inl m_elemContent)), (mA21, .inl (cI, 60, .inl m_elemChild)), (mA22, .inl (cI, 6, .inl m_deepDoc))] H := hP
              have hD : va_D A [(mA, .inr (7, [.int m_classes, .ref mA0, .int m_given, .ref mA1, .ref mA2, .ref mA3, .ref mA4, .int m_count, .ref mA5, .ref mA6, .int m_size, .ref mA7, .int m_len, .int (bI m_failed), .ref mA8, .int m_open, .ref mA9, .ref mA10, .ref mA11, .int m_at, .int (bI m_bad), .int m_docs, .ref mA12, .ref mA13, .ref mA14, .ref mA15, .int m_elems, .ref mA16, .ref mA17, .ref mA18, .ref mA19, .ref mA20, .ref mA21, .int m_deep, .ref mA22])), (mA0, .inl (cI, 6, .inl m_parent)), (mA1, .inl (cI, 8, .inl m_owner)), (mA2, .inl (cI, 8, .inl m_letters)), (mA3, .inl (cI, 8, .inl m_sorts)), (mA4, .inl (cI, 8, .inl m_targets)), (mA5, .inl (cI, 12, .inl m_cls)), (mA6, .inl (cJ, 96, .inr (.inl (vp_updL m_held (((8 : Int32) * v1) + u3).toNatClampNeg v3)))), (mA7, .inl (cI, 120, .inl m_bytes)), (mA8, .inl (cI, 120, .inl m_out)), (mA9, .inl (cI, 5, .inl m_openObject)), (mA10, .inl (cI, 5, .inl m_openStart)), (mA11, .inl (cI, 5, .inl m_openNext)), (mA12, .inl (cI, 25, .inl m_docStart)), (mA13, .inl (cI, 25, .inl m_docDepth)), (mA14, .inl (cI, 25, .inl m_docNeed)), (mA15, .inl (cI, 25, .inl m_docMeant)), (mA16, .inl (cI, 60, .inl m_elemDoc)), (mA17, .inl (cI, 60, .inl m_elemType)), (mA18, .inl (cI, 60, .inl m_elemName)), (mA19, .inl (cI, 60, .inl m_elemNameLen)), (mA20, .inl (cI, 60, .inl m_elemContent)), (mA21, .inl (cI, 60, .inl m_elemChild)), (mA22, .inl (cI, 6, .inl m_deepDoc))] := hD
              refine lv_iconst (v := (1 : Int32)) hx hb dM_put_90 (by decide) ?_
              cases h
              exact mu_z S hr hlocks hP hS dM_put_91 rfl rfl
            · have h := g_t h h60
              refine lv_lload_n hx hb dM_put_63 rfl (lv_at hl 4 rfl) ?_
              refine lv_lconst (v := (0 : Int64)) hx hb dM_put_64 (by decide) ?_
              refine W.lcmp hx hb dM_put_65 ?_
              refine lv_if_lt (tgt := 75) hx hb dM_put_66 (by decide) (fun h66 => ?_) (fun h66 => ?_)
              · have h := g_t h h66
                refine lv_iconst (v := (0 : Int32)) hx hb dM_put_75 (by decide) ?_
                cases h
                exact mu_z S hr hlocks hP hS dM_put_76 rfl rfl
              · have h := g_f h h66
                refine lv_lload_n hx hb dM_put_69 rfl (lv_at hl 4 rfl) ?_
                refine lv_lconst (v := (1 : Int64)) hx hb dM_put_70 (by decide) ?_
                refine W.lcmp hx hb dM_put_71 ?_
                refine lv_if_le (tgt := 77) hx hb dM_put_72 (by decide) (fun h72 => ?_) (fun h72 => ?_)
                · have h := g_t h h72
                  refine lv_aload_n hx hb dM_put_77 rfl (lv_at hl 1 rfl) ?_
                  refine gf S hK hP 0 7 9 u_zM w_616 rfl rfl (by decide) rfl dM_put_78 ?_
                  refine lv_bipush (v := (8 : Int32)) hx hb dM_put_81 (by decide) ?_
                  refine lv_iload_n hx hb dM_put_83 rfl (lv_at hl 2 rfl) ?_
                  refine lv_imul hx hb dM_put_84 ?_
                  refine lv_iload hx hb dM_put_85 (lv_at hl 0 rfl) ?_
                  refine lv_iadd hx hb dM_put_87 ?_
                  refine lv_lload_n hx hb dM_put_88 rfl (lv_at hl 4 rfl) ?_
                  obtain ⟨b89, h⟩ := g_ok h
                  refine va_last hx hb hK hP hD hS 7 1 rfl rfl b89 dM_put_89 (fun H locs hP hD hS => ?_)
                  have hP : va_P D cs [(mA, .inr (7, [.int m_classes, .ref mA0, .int m_given, .ref mA1, .ref mA2, .ref mA3, .ref mA4, .int m_count, .ref mA5, .ref mA6, .int m_size, .ref mA7, .int m_len, .int (bI m_failed), .ref mA8, .int m_open, .ref mA9, .ref mA10, .ref mA11, .int m_at, .int (bI m_bad), .int m_docs, .ref mA12, .ref mA13, .ref mA14, .ref mA15, .int m_elems, .ref mA16, .ref mA17, .ref mA18, .ref mA19, .ref mA20, .ref mA21, .int m_deep, .ref mA22])), (mA0, .inl (cI, 6, .inl m_parent)), (mA1, .inl (cI, 8, .inl m_owner)), (mA2, .inl (cI, 8, .inl m_letters)), (mA3, .inl (cI, 8, .inl m_sorts)), (mA4, .inl (cI, 8, .inl m_targets)), (mA5, .inl (cI, 12, .inl m_cls)), (mA6, .inl (cJ, 96, .inr (.inl (vp_updL m_held (((8 : Int32) * v1) + u3).toNatClampNeg v3)))), (mA7, .inl (cI, 120, .inl m_bytes)), (mA8, .inl (cI, 120, .inl m_out)), (mA9, .inl (cI, 5, .inl m_openObject)), (mA10, .inl (cI, 5, .inl m_openStart)), (mA11, .inl (cI, 5, .inl m_openNext)), (mA12, .inl (cI, 25, .inl m_docStart)), (mA13, .inl (cI, 25, .inl m_docDepth)), (mA14, .inl (cI, 25, .inl m_docNeed)), (mA15, .inl (cI, 25, .inl m_docMeant)), (mA16, .inl (cI, 60, .inl m_elemDoc)), (mA17, .inl (cI, 60, .inl m_elemType)), (mA18, .inl (cI, 60, .inl m_elemName)), (mA19, .inl (cI, 60, .inl m_elemNameLen)), (mA20, .inl (cI, 60, .inl m_elemContent)), (mA21, .inl (cI, 60, .inl m_elemChild)), (mA22, .inl (cI, 6, .inl m_deepDoc))] H := hP
                  have hD : va_D A [(mA, .inr (7, [.int m_classes, .ref mA0, .int m_given, .ref mA1, .ref mA2, .ref mA3, .ref mA4, .int m_count, .ref mA5, .ref mA6, .int m_size, .ref mA7, .int m_len, .int (bI m_failed), .ref mA8, .int m_open, .ref mA9, .ref mA10, .ref mA11, .int m_at, .int (bI m_bad), .int m_docs, .ref mA12, .ref mA13, .ref mA14, .ref mA15, .int m_elems, .ref mA16, .ref mA17, .ref mA18, .ref mA19, .ref mA20, .ref mA21, .int m_deep, .ref mA22])), (mA0, .inl (cI, 6, .inl m_parent)), (mA1, .inl (cI, 8, .inl m_owner)), (mA2, .inl (cI, 8, .inl m_letters)), (mA3, .inl (cI, 8, .inl m_sorts)), (mA4, .inl (cI, 8, .inl m_targets)), (mA5, .inl (cI, 12, .inl m_cls)), (mA6, .inl (cJ, 96, .inr (.inl (vp_updL m_held (((8 : Int32) * v1) + u3).toNatClampNeg v3)))), (mA7, .inl (cI, 120, .inl m_bytes)), (mA8, .inl (cI, 120, .inl m_out)), (mA9, .inl (cI, 5, .inl m_openObject)), (mA10, .inl (cI, 5, .inl m_openStart)), (mA11, .inl (cI, 5, .inl m_openNext)), (mA12, .inl (cI, 25, .inl m_docStart)), (mA13, .inl (cI, 25, .inl m_docDepth)), (mA14, .inl (cI, 25, .inl m_docNeed)), (mA15, .inl (cI, 25, .inl m_docMeant)), (mA16, .inl (cI, 60, .inl m_elemDoc)), (mA17, .inl (cI, 60, .inl m_elemType)), (mA18, .inl (cI, 60, .inl m_elemName)), (mA19, .inl (cI, 60, .inl m_elemNameLen)), (mA20, .inl (cI, 60, .inl m_elemContent)), (mA21, .inl (cI, 60, .inl m_elemChild)), (mA22, .inl (cI, 6, .inl m_deepDoc))] := hD
                  refine lv_iconst (v := (1 : Int32)) hx hb dM_put_90 (by decide) ?_
                  cases h
                  exact mu_z S hr hlocks hP hS dM_put_91 rfl rfl
                · have h := g_f h h72
                  refine lv_iconst (v := (0 : Int32)) hx hb dM_put_75 (by decide) ?_
                  cases h
                  exact mu_z S hr hlocks hP hS dM_put_76 rfl rfl
    · have h := g_t h h21
      refine lv_iconst (v := (0 : Int32)) hx hb dM_put_24 (by decide) ?_
      cases h
      exact mu_z S hr hlocks hP hS dM_put_25 rfl rfl
def fM_size (m_size : Int32) : Option (Int32) :=
  some (m_size)
set_option maxHeartbeats 4000000 in
set_option maxRecDepth 100000 in
theorem cM_size (l : Launch) (D : va_G) (cI cJ : ClassId) (mA mA0 mA1 mA2 mA3 mA4 mA5 mA6 mA7 mA8 mA9 mA10 mA11 mA12 mA13 mA14 mA15 mA16 mA17 mA18 mA19 mA20 mA21 mA22 : Nat) (m_classes : Int32) (m_given : Int32) (m_count : Int32) (m_size : Int32) (m_len : Int32) (m_failed : Bool) (m_open : Int32) (m_at : Int32) (m_bad : Bool) (m_docs : Int32) (m_elems : Int32) (m_deep : Int32) (m_parent : (Nat → Int32)) (m_owner : (Nat → Int32)) (m_letters : (Nat → Int32)) (m_sorts : (Nat → Int32)) (m_targets : (Nat → Int32)) (m_cls : (Nat → Int32)) (m_held : (Nat → Int64)) (m_bytes : (Nat → Int32)) (m_out : (Nat → Int32)) (m_openObject : (Nat → Int32)) (m_openStart : (Nat → Int32)) (m_openNext : (Nat → Int32)) (m_docStart : (Nat → Int32)) (m_docDepth : (Nat → Int32)) (m_docNeed : (Nat → Int32)) (m_docMeant : (Nat → Int32)) (m_elemDoc : (Nat → Int32)) (m_elemType : (Nat → Int32)) (m_elemName : (Nat → Int32)) (m_elemNameLen : (Nat → Int32)) (m_elemContent : (Nat → Int32)) (m_elemChild : (Nat → Int32)) (m_deepDoc : (Nat → Int32)) (r : Int32) (h : fM_size m_size = some r) : Pu l yM_size bM_size 1 (some .int) (rL 0) [.ref mA] D cI cJ [(mA, .inr (7, [.int m_classes, .ref mA0, .int m_given, .ref mA1, .ref mA2, .ref mA3, .ref mA4, .int m_count, .ref mA5, .ref mA6, .int m_size, .ref mA7, .int m_len, .int (bI m_failed), .ref mA8, .int m_open, .ref mA9, .ref mA10, .ref mA11, .int m_at, .int (bI m_bad), .int m_docs, .ref mA12, .ref mA13, .ref mA14, .ref mA15, .int m_elems, .ref mA16, .ref mA17, .ref mA18, .ref mA19, .ref mA20, .ref mA21, .int m_deep, .ref mA22])), (mA0, .inl (cI, 6, .inl m_parent)), (mA1, .inl (cI, 8, .inl m_owner)), (mA2, .inl (cI, 8, .inl m_letters)), (mA3, .inl (cI, 8, .inl m_sorts)), (mA4, .inl (cI, 8, .inl m_targets)), (mA5, .inl (cI, 12, .inl m_cls)), (mA6, .inl (cJ, 96, .inr (.inl m_held))), (mA7, .inl (cI, 120, .inl m_bytes)), (mA8, .inl (cI, 120, .inl m_out)), (mA9, .inl (cI, 5, .inl m_openObject)), (mA10, .inl (cI, 5, .inl m_openStart)), (mA11, .inl (cI, 5, .inl m_openNext)), (mA12, .inl (cI, 25, .inl m_docStart)), (mA13, .inl (cI, 25, .inl m_docDepth)), (mA14, .inl (cI, 25, .inl m_docNeed)), (mA15, .inl (cI, 25, .inl m_docMeant)), (mA16, .inl (cI, 60, .inl m_elemDoc)), (mA17, .inl (cI, 60, .inl m_elemType)), (mA18, .inl (cI, 60, .inl m_elemName)), (mA19, .inl (cI, 60, .inl m_elemNameLen)), (mA20, .inl (cI, 60, .inl m_elemContent)), (mA21, .inl (cI, 60, .inl m_elemChild)), (mA22, .inl (cI, 6, .inl m_deepDoc))] (.int r) := by
  refine pu_of (by decide) (Nat.le_of_ble_eq_true rfl) ?_
  intro p e s m below meth c ls S hr hlocks hN hK hP hl
  have hx := S.1
  have hb := S.2.1
  have hl : lv_has ls 1 [(0, .ref mA)] := hl
  unfold fM_size at h
  refine lv_aload_n hx hb dM_size_0 rfl (lv_at hl 0 rfl) ?_
  refine gf S hK hP 0 7 10 u_zM w_617 rfl rfl (by decide) rfl dM_size_1 ?_
  cases h
  exact pu_i S hr hlocks dM_size_4 rfl
def fM_sound (N : Nat) (m_size : Int32) (m_at : Int32) (m_bad : Bool) (m_docs : Int32) (m_elems : Int32) (m_deep : Int32) (m_bytes : (Nat → Int32)) (m_docStart : (Nat → Int32)) (m_docDepth : (Nat → Int32)) (m_elemDoc : (Nat → Int32)) (m_elemType : (Nat → Int32)) (m_elemName : (Nat → Int32)) (m_elemNameLen : (Nat → Int32)) (m_elemContent : (Nat → Int32)) (m_elemChild : (Nat → Int32)) (m_deepDoc : (Nat → Int32)) : Option (Bool × Int32 × Bool × Int32 × Int32 × Int32 × (Nat → Int32) × (Nat → Int32) × (Nat → Int32) × (Nat → Int32) × (Nat → Int32) × (Nat → Int32) × (Nat → Int32) × (Nat → Int32) × (Nat → Int32)) :=
  (fM_read N m_size m_at m_bad m_docs m_elems m_deep m_bytes m_docStart m_docDepth m_elemDoc m_elemType m_elemName m_elemNameLen m_elemContent m_elemChild m_deepDoc).bind fun u1 => (some (u1.1, u1.2.1, u1.2.2.1, u1.2.2.2.1, u1.2.2.2.2.1, u1.2.2.2.2.2.1, u1.2.2.2.2.2.2.1, u1.2.2.2.2.2.2.2.1, u1.2.2.2.2.2.2.2.2.1, u1.2.2.2.2.2.2.2.2.2.1, u1.2.2.2.2.2.2.2.2.2.2.1, u1.2.2.2.2.2.2.2.2.2.2.2.1, u1.2.2.2.2.2.2.2.2.2.2.2.2.1, u1.2.2.2.2.2.2.2.2.2.2.2.2.2.1, u1.2.2.2.2.2.2.2.2.2.2.2.2.2.2))
set_option maxHeartbeats 4000000 in
set_option maxRecDepth 100000 in
theorem cM_sound (l : Launch) (D : va_G) (cI cJ : ClassId) (mA mA0 mA1 mA2 mA3 mA4 mA5 mA6 mA7 mA8 mA9 mA10 mA11 mA12 mA13 mA14 mA15 mA16 mA17 mA18 mA19 mA20 mA21 mA22 : Nat) (N : Nat) (m_classes : Int32) (m_given : Int32) (m_count : Int32) (m_size : Int32) (m_len : Int32) (m_failed : Bool) (m_open : Int32) (m_at : Int32) (m_bad : Bool) (m_docs : Int32) (m_elems : Int32) (m_deep : Int32) (m_parent : (Nat → Int32)) (m_owner : (Nat → Int32)) (m_letters : (Nat → Int32)) (m_sorts : (Nat → Int32)) (m_targets : (Nat → Int32)) (m_cls : (Nat → Int32)) (m_held : (Nat → Int64)) (m_bytes : (Nat → Int32)) (m_out : (Nat → Int32)) (m_openObject : (Nat → Int32)) (m_openStart : (Nat → Int32)) (m_openNext : (Nat → Int32)) (m_docStart : (Nat → Int32)) (m_docDepth : (Nat → Int32)) (m_docNeed : (Nat → Int32)) (m_docMeant : (Nat → Int32)) (m_elemDoc : (Nat → Int32)) (m_elemType : (Nat → Int32)) (m_elemName : (Nat → Int32)) (m_elemNameLen : (Nat → Int32)) (m_elemContent : (Nat → Int32)) (m_elemChild : (Nat → Int32)) (m_deepDoc : (Nat → Int32)) (r : Bool × Int32 × Bool × Int32 × Int32 × Int32 × (Nat → Int32) × (Nat → Int32) × (Nat → Int32) × (Nat → Int32) × (Nat → Int32) × (Nat → Int32) × (Nat → Int32) × (Nat → Int32) × (Nat → Int32)) (h : fM_sound N m_size m_at m_bad m_docs m_elems m_deep m_bytes m_docStart m_docDepth m_elemDoc m_elemType m_elemName m_elemNameLen m_elemContent m_elemChild m_deepDoc = some r) : Mu l yM_sound bM_sound 1 (some .boolean) (rL 5) [.ref mA] D cI cJ [(mA, .inr (7, [.int m_classes, .ref mA0, .int m_given, .ref mA1, .ref mA2, .ref mA3, .ref mA4, .int m_count, .ref mA5, .ref mA6, .int m_size, .ref mA7, .int m_len, .int (bI m_failed), .ref mA8, .int m_open, .ref mA9, .ref mA10, .ref mA11, .int m_at, .int (bI m_bad), .int m_docs, .ref mA12, .ref mA13, .ref mA14, .ref mA15, .int m_elems, .ref mA16, .ref mA17, .ref mA18, .ref mA19, .ref mA20, .ref mA21, .int m_deep, .ref mA22])), (mA0, .inl (cI, 6, .inl m_parent)), (mA1, .inl (cI, 8, .inl m_owner)), (mA2, .inl (cI, 8, .inl m_letters)), (mA3, .inl (cI, 8, .inl m_sorts)), (mA4, .inl (cI, 8, .inl m_targets)), (mA5, .inl (cI, 12, .inl m_cls)), (mA6, .inl (cJ, 96, .inr (.inl m_held))), (mA7, .inl (cI, 120, .inl m_bytes)), (mA8, .inl (cI, 120, .inl m_out)), (mA9, .inl (cI, 5, .inl m_openObject)), (mA10, .inl (cI, 5, .inl m_openStart)), (mA11, .inl (cI, 5, .inl m_openNext)), (mA12, .inl (cI, 25, .inl m_docStart)), (mA13, .inl (cI, 25, .inl m_docDepth)), (mA14, .inl (cI, 25, .inl m_docNeed)), (mA15, .inl (cI, 25, .inl m_docMeant)), (mA16, .inl (cI, 60, .inl m_elemDoc)), (mA17, .inl (cI, 60, .inl m_elemType)), (mA18, .inl (cI, 60, .inl m_elemName)), (mA19, .inl (cI, 60, .inl m_elemNameLen)), (mA20, .inl (cI, 60, .inl m_elemContent)), (mA21, .inl (cI, 60, .inl m_elemChild)), (mA22, .inl (cI, 6, .inl m_deepDoc))] (some (.int (bI r.1))) [(mA, .inr (7, [.int m_classes, .ref mA0, .int m_given, .ref mA1, .ref mA2, .ref mA3, .ref mA4, .int m_count, .ref mA5, .ref mA6, .int m_size, .ref mA7, .int m_len, .int (bI m_failed), .ref mA8, .int m_open, .ref mA9, .ref mA10, .ref mA11, .int r.2.1, .int (bI r.2.2.1), .int r.2.2.2.1, .ref mA12, .ref mA13, .ref mA14, .ref mA15, .int r.2.2.2.2.1, .ref mA16, .ref mA17, .ref mA18, .ref mA19, .ref mA20, .ref mA21, .int r.2.2.2.2.2.1, .ref mA22])), (mA0, .inl (cI, 6, .inl m_parent)), (mA1, .inl (cI, 8, .inl m_owner)), (mA2, .inl (cI, 8, .inl m_letters)), (mA3, .inl (cI, 8, .inl m_sorts)), (mA4, .inl (cI, 8, .inl m_targets)), (mA5, .inl (cI, 12, .inl m_cls)), (mA6, .inl (cJ, 96, .inr (.inl m_held))), (mA7, .inl (cI, 120, .inl m_bytes)), (mA8, .inl (cI, 120, .inl m_out)), (mA9, .inl (cI, 5, .inl m_openObject)), (mA10, .inl (cI, 5, .inl m_openStart)), (mA11, .inl (cI, 5, .inl m_openNext)), (mA12, .inl (cI, 25, .inl r.2.2.2.2.2.2.1)), (mA13, .inl (cI, 25, .inl r.2.2.2.2.2.2.2.1)), (mA14, .inl (cI, 25, .inl m_docNeed)), (mA15, .inl (cI, 25, .inl m_docMeant)), (mA16, .inl (cI, 60, .inl r.2.2.2.2.2.2.2.2.1)), (mA17, .inl (cI, 60, .inl r.2.2.2.2.2.2.2.2.2.1)), (mA18, .inl (cI, 60, .inl r.2.2.2.2.2.2.2.2.2.2.1)), (mA19, .inl (cI, 60, .inl r.2.2.2.2.2.2.2.2.2.2.2.1)), (mA20, .inl (cI, 60, .inl r.2.2.2.2.2.2.2.2.2.2.2.2.1)), (mA21, .inl (cI, 60, .inl r.2.2.2.2.2.2.2.2.2.2.2.2.2.1)), (mA22, .inl (cI, 6, .inl r.2.2.2.2.2.2.2.2.2.2.2.2.2.2))] := by
  refine mu_of (by decide) (Nat.le_of_ble_eq_true rfl) ?_
  intro p e s m below meth c ls A S hr hlocks hN hK hP hD hA hl
  have hS : va_S A s.heap s.heap [] := va_S.rf
  have hx := S.1
  have hb := S.2.1
  have hl : lv_has ls 1 [(0, .ref mA)] := hl
  unfold fM_sound at h
  refine lv_aload_n hx hb dM_sound_0 rfl (lv_at hl 0 rfl) ?_
  obtain ⟨u1, e1, h⟩ := g_bind h
  refine mu_v S hN hK hP hD hS hA (rest := []) (cM_read l D cI cJ mA mA0 mA1 mA2 mA3 mA4 mA5 mA6 mA7 mA8 mA9 mA10 mA11 mA12 mA13 mA14 mA15 mA16 mA17 mA18 mA19 mA20 mA21 mA22 N m_classes m_given m_count m_size m_len m_failed m_open m_at m_bad m_docs m_elems m_deep m_parent m_owner m_letters m_sorts m_targets m_cls m_held m_bytes m_out m_openObject m_openStart m_openNext m_docStart m_docDepth m_docNeed m_docMeant m_elemDoc m_elemType m_elemName m_elemNameLen m_elemContent m_elemChild m_deepDoc u1 e1) k_M_193 [0, 1, 2, 3, 4, 5, 6, 7, 8, 9, 10, 11, 12, 13, 14, 15, 16, 17, 18, 19, 20, 21, 22, 23] [(some 0), (some 1), (some 2), (some 3), (some 4), (some 5), (some 6), (some 7), (some 8), (some 9), (some 10), (some 11), (some 12), (some 13), (some 14), (some 15), (some 16), (some 17), (some 18), (some 19), (some 20), (some 21), (some 22), (some 23)] [(mA, .inr (7, [.int m_classes, .ref mA0, .int m_given, .ref mA1, .ref mA2, .ref mA3, .ref mA4, .int m_count, .ref mA5, .ref mA6, .int m_size, .ref mA7, .int m_len, .int (bI m_failed), .ref mA8, .int m_open, .ref mA9, .ref mA10, .ref mA11, .int u1.2.1, .int (bI u1.2.2.1), .int u1.2.2.2.1, .ref mA12, .ref mA13, .ref mA14, .ref mA15, .int u1.2.2.2.2.1, .ref mA16, .ref mA17, .ref mA18, .ref mA19, .ref mA20, .ref mA21, .int u1.2.2.2.2.2.1, .ref mA22])), (mA0, .inl (cI, 6, .inl m_parent)), (mA1, .inl (cI, 8, .inl m_owner)), (mA2, .inl (cI, 8, .inl m_letters)), (mA3, .inl (cI, 8, .inl m_sorts)), (mA4, .inl (cI, 8, .inl m_targets)), (mA5, .inl (cI, 12, .inl m_cls)), (mA6, .inl (cJ, 96, .inr (.inl m_held))), (mA7, .inl (cI, 120, .inl m_bytes)), (mA8, .inl (cI, 120, .inl m_out)), (mA9, .inl (cI, 5, .inl m_openObject)), (mA10, .inl (cI, 5, .inl m_openStart)), (mA11, .inl (cI, 5, .inl m_openNext)), (mA12, .inl (cI, 25, .inl u1.2.2.2.2.2.2.1)), (mA13, .inl (cI, 25, .inl u1.2.2.2.2.2.2.2.1)), (mA14, .inl (cI, 25, .inl m_docNeed)), (mA15, .inl (cI, 25, .inl m_docMeant)), (mA16, .inl (cI, 60, .inl u1.2.2.2.2.2.2.2.2.1)), (mA17, .inl (cI, 60, .inl u1.2.2.2.2.2.2.2.2.2.1)), (mA18, .inl (cI, 60, .inl u1.2.2.2.2.2.2.2.2.2.2.1)), (mA19, .inl (cI, 60, .inl u1.2.2.2.2.2.2.2.2.2.2.2.1)), (mA20, .inl (cI, 60, .inl u1.2.2.2.2.2.2.2.2.2.2.2.2.1)), (mA21, .inl (cI, 60, .inl u1.2.2.2.2.2.2.2.2.2.2.2.2.2.1)), (mA22, .inl (cI, 6, .inl u1.2.2.2.2.2.2.2.2.2.2.2.2.2.2))] rfl rfl rfl ⟨rfl, rfl, rfl, rfl, rfl, rfl, rfl, rfl, rfl, rfl, rfl, rfl, rfl, rfl, rfl, rfl, rfl, rfl, rfl, rfl, rfl, rfl, rfl, rfl, trivial⟩ (by decide +kernel) 7 rfl rfl ⟨rfl, rfl⟩ ⟨Nat.le_of_ble_eq_true rfl, Nat.le_of_ble_eq_true rfl⟩ rfl hl.1 (Nat.le_of_ble_eq_true rfl) ⟨Nat.le_refl _, Nat.le_refl _⟩ dM_sound_1 rfl (fun H locs hP hD hS => ?_)
  cases h
  exact mu_z S hr hlocks hP hS dM_sound_4 rfl rfl
def fM_value (N : Nat) (v1 : Int32) (v2 : Int32) (m_given : Int32) (m_count : Int32) (m_parent : (Nat → Int32)) (m_owner : (Nat → Int32)) (m_letters : (Nat → Int32)) (m_sorts : (Nat → Int32)) (m_cls : (Nat → Int32)) (m_held : (Nat → Int64)) : Option (Int64) :=
  (fM_slot N v1 v2 m_given m_count m_parent m_owner m_letters m_cls).bind fun u3 => (if u3 < 0 then (some ((0 : Int64))) else (if ok u3 8 = true then (if (m_sorts u3.toNatClampNeg) = (3 : Int32) then (some ((0 : Int64))) else (if ok (((8 : Int32) * v1) + u3) 96 = true then (some (m_held (((8 : Int32) * v1) + u3).toNatClampNeg)) else none)) else none))
set_option maxHeartbeats 4000000 in
set_option maxRecDepth 100000 in
theorem cM_value (l : Launch) (D : va_G) (cI cJ : ClassId) (mA mA0 mA1 mA2 mA3 mA4 mA5 mA6 mA7 mA8 mA9 mA10 mA11 mA12 mA13 mA14 mA15 mA16 mA17 mA18 mA19 mA20 mA21 mA22 : Nat) (N : Nat) (v1 : Int32) (v2 : Int32) (m_classes : Int32) (m_given : Int32) (m_count : Int32) (m_size : Int32) (m_len : Int32) (m_failed : Bool) (m_open : Int32) (m_at : Int32) (m_bad : Bool) (m_docs : Int32) (m_elems : Int32) (m_deep : Int32) (m_parent : (Nat → Int32)) (m_owner : (Nat → Int32)) (m_letters : (Nat → Int32)) (m_sorts : (Nat → Int32)) (m_targets : (Nat → Int32)) (m_cls : (Nat → Int32)) (m_held : (Nat → Int64)) (m_bytes : (Nat → Int32)) (m_out : (Nat → Int32)) (m_openObject : (Nat → Int32)) (m_openStart : (Nat → Int32)) (m_openNext : (Nat → Int32)) (m_docStart : (Nat → Int32)) (m_docDepth : (Nat → Int32)) (m_docNeed : (Nat → Int32)) (m_docMeant : (Nat → Int32)) (m_elemDoc : (Nat → Int32)) (m_elemType : (Nat → Int32)) (m_elemName : (Nat → Int32)) (m_elemNameLen : (Nat → Int32)) (m_elemContent : (Nat → Int32)) (m_elemChild : (Nat → Int32)) (m_deepDoc : (Nat → Int32)) (r : Int64) (h : fM_value N v1 v2 m_given m_count m_parent m_owner m_letters m_sorts m_cls m_held = some r) : Pu l yM_value bM_value 4 (some .long) (rL 4) [.ref mA, .int v1, .int v2] D cI cJ [(mA, .inr (7, [.int m_classes, .ref mA0, .int m_given, .ref mA1, .ref mA2, .ref mA3, .ref mA4, .int m_count, .ref mA5, .ref mA6, .int m_size, .ref mA7, .int m_len, .int (bI m_failed), .ref mA8, .int m_open, .ref mA9, .ref mA10, .ref mA11, .int m_at, .int (bI m_bad), .int m_docs, .ref mA12, .ref mA13, .ref mA14, .ref mA15, .int m_elems, .ref mA16, .ref mA17, .ref mA18, .ref mA19, .ref mA20, .ref mA21, .int m_deep, .ref mA22])), (mA0, .inl (cI, 6, .inl m_parent)), (mA1, .inl (cI, 8, .inl m_owner)), (mA2, .inl (cI, 8, .inl m_letters)), (mA3, .inl (cI, 8, .inl m_sorts)), (mA4, .inl (cI, 8, .inl m_targets)), (mA5, .inl (cI, 12, .inl m_cls)), (mA6, .inl (cJ, 96, .inr (.inl m_held))), (mA7, .inl (cI, 120, .inl m_bytes)), (mA8, .inl (cI, 120, .inl m_out)), (mA9, .inl (cI, 5, .inl m_openObject)), (mA10, .inl (cI, 5, .inl m_openStart)), (mA11, .inl (cI, 5, .inl m_openNext)), (mA12, .inl (cI, 25, .inl m_docStart)), (mA13, .inl (cI, 25, .inl m_docDepth)), (mA14, .inl (cI, 25, .inl m_docNeed)), (mA15, .inl (cI, 25, .inl m_docMeant)), (mA16, .inl (cI, 60, .inl m_elemDoc)), (mA17, .inl (cI, 60, .inl m_elemType)), (mA18, .inl (cI, 60, .inl m_elemName)), (mA19, .inl (cI, 60, .inl m_elemNameLen)), (mA20, .inl (cI, 60, .inl m_elemContent)), (mA21, .inl (cI, 60, .inl m_elemChild)), (mA22, .inl (cI, 6, .inl m_deepDoc))] (.long r) := by
  refine pu_of (by decide) (Nat.le_of_ble_eq_true rfl) ?_
  intro p e s m below meth c ls S hr hlocks hN hK hP hl
  have hx := S.1
  have hb := S.2.1
  have hl : lv_has ls 4 [(0, .ref mA), (1, .int v1), (2, .int v2)] := hl
  unfold fM_value at h
  refine lv_aload_n hx hb dM_value_0 rfl (lv_at hl 0 rfl) ?_
  refine lv_iload_n hx hb dM_value_1 rfl (lv_at hl 1 rfl) ?_
  refine lv_iload_n hx hb dM_value_2 rfl (lv_at hl 2 rfl) ?_
  obtain ⟨u3, e3, h⟩ := g_bind h
  refine pu_v S hN hK hP (rest := []) (cM_slot l D cI cJ mA mA0 mA1 mA2 mA3 mA4 mA5 mA6 mA7 mA8 mA9 mA10 mA11 mA12 mA13 mA14 mA15 mA16 mA17 mA18 mA19 mA20 mA21 mA22 N v1 v2 m_classes m_given m_count m_size m_len m_failed m_open m_at m_bad m_docs m_elems m_deep m_parent m_owner m_letters m_sorts m_targets m_cls m_held m_bytes m_out m_openObject m_openStart m_openNext m_docStart m_docDepth m_docNeed m_docMeant m_elemDoc m_elemType m_elemName m_elemNameLen m_elemContent m_elemChild m_deepDoc u3 e3) k_M_114 [0, 1, 2, 3, 4, 5, 6, 7, 8, 9, 10, 11, 12, 13, 14, 15, 16, 17, 18, 19, 20, 21, 22, 23] rfl 7 rfl rfl ⟨rfl, rfl⟩ ⟨Nat.le_of_ble_eq_true rfl, Nat.le_of_ble_eq_true rfl⟩ rfl hl.1 (Nat.le_of_ble_eq_true rfl) ⟨Nat.le_refl _, Nat.le_refl _⟩ dM_value_3 rfl ?_
  refine lv_istore_n (lv' := [(3, .int u3), (0, .ref mA), (1, .int v1), (2, .int v2)]) hx hb dM_value_6 rfl hl (Nat.le_of_ble_eq_true rfl) rfl (fun ls hl => ?_)
  refine lv_iload_n hx hb dM_value_7 rfl (lv_at hl 0 rfl) ?_
  refine lv_if_lt (tgt := 21) hx hb dM_value_8 (by decide) (fun h8 => ?_) (fun h8 => ?_)
  · have h := g_t h h8
    refine lv_lconst (v := (0 : Int64)) hx hb dM_value_21 (by decide) ?_
    refine lv_goto (tgt := 36) hx hb dM_value_22 (by decide) ?_
    cases h
    exact pu_l S hr hlocks dM_value_36 rfl
  · have h := g_f h h8
    refine lv_aload_n hx hb dM_value_11 rfl (lv_at hl 1 rfl) ?_
    refine gf S hK hP 0 7 5 u_zM w_612 rfl rfl (by decide) rfl dM_value_12 ?_
    refine lv_iload_n hx hb dM_value_15 rfl (lv_at hl 0 rfl) ?_
    obtain ⟨b16, h⟩ := g_ok h
    refine va_iald hx hb hK hP 4 0 rfl rfl b16 dM_value_16 ?_
    refine lv_iconst (v := (3 : Int32)) hx hb dM_value_17 (by decide) ?_
    refine lv_icmp_ne (tgt := 25) hx hb dM_value_18 (by decide) (fun h18 => ?_) (fun h18 => ?_)
    · have h := g_f h h18
      refine lv_aload_n hx hb dM_value_25 rfl (lv_at hl 1 rfl) ?_
      refine gf S hK hP 0 7 9 u_zM w_616 rfl rfl (by decide) rfl dM_value_26 ?_
      refine lv_bipush (v := (8 : Int32)) hx hb dM_value_29 (by decide) ?_
      refine lv_iload_n hx hb dM_value_31 rfl (lv_at hl 2 rfl) ?_
      refine lv_imul hx hb dM_value_32 ?_
      refine lv_iload_n hx hb dM_value_33 rfl (lv_at hl 0 rfl) ?_
      refine lv_iadd hx hb dM_value_34 ?_
      obtain ⟨b35, h⟩ := g_ok h
      refine va_lald hx hb hK hP 7 1 rfl rfl b35 dM_value_35 ?_
      cases h
      exact pu_l S hr hlocks dM_value_36 rfl
    · have h := g_t h h18
      refine lv_lconst (v := (0 : Int64)) hx hb dM_value_21 (by decide) ?_
      refine lv_goto (tgt := 36) hx hb dM_value_22 (by decide) ?_
      cases h
      exact pu_l S hr hlocks dM_value_36 rfl
