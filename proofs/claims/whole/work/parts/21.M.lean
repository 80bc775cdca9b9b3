/-! contracts, laid by wip/gen/parts.py -/
def fM_clear_2 (N : Nat) (v1 : Int32) (m_given : Int32) (m_sorts : (Nat → Int32)) (rc2 : Int32 × (Nat → Int64) → Option ((Nat → Int64))) (v2 : Int32) (m_held : (Nat → Int64)) : Option ((Nat → Int64)) :=
  if (8 : Int32) ≤ v2 then (some (m_held)) else (if m_given ≤ v2 then (if ok (((8 : Int32) * v1) + v2) 96 = true then (rc2 (v2 + (1 : Int32), vp_updL m_held (((8 : Int32) * v1) + v2).toNatClampNeg (0 : Int64))) else none) else (if ok v2 8 = true then (if (m_sorts v2.toNatClampNeg) = (3 : Int32) then (if ok (((8 : Int32) * v1) + v2) 96 = true then (rc2 (v2 + (1 : Int32), vp_updL m_held (((8 : Int32) * v1) + v2).toNatClampNeg (-1 : Int64))) else none) else (if ok (((8 : Int32) * v1) + v2) 96 = true then (rc2 (v2 + (1 : Int32), vp_updL m_held (((8 : Int32) * v1) + v2).toNatClampNeg (0 : Int64))) else none)) else none))
def fM_clear_2l (N : Nat) (v1 : Int32) (m_given : Int32) (m_sorts : (Nat → Int32)) : Nat → Int32 × (Nat → Int64) → Option ((Nat → Int64)) := lp (fun rc a => fM_clear_2 N v1 m_given m_sorts rc a.1 a.2)
def fM_clear (N : Nat) (v1 : Int32) (m_given : Int32) (m_sorts : (Nat → Int32)) (m_held : (Nat → Int64)) : Option ((Nat → Int64)) :=
  fM_clear_2l N v1 m_given m_sorts N ((0 : Int32), m_held)
set_option maxHeartbeats 4000000 in
set_option maxRecDepth 100000 in
theorem cM_clear (l : Launch) (D : va_G) (cI cJ : ClassId) (mA mA0 mA1 mA2 mA3 mA4 mA5 mA6 mA7 mA8 mA9 mA10 mA11 mA12 mA13 mA14 mA15 mA16 mA17 mA18 mA19 mA20 mA21 mA22 : Nat) (N : Nat) (v1 : Int32) (m_classes : Int32) (m_given : Int32) (m_count : Int32) (m_size : Int32) (m_len : Int32) (m_failed : Bool) (m_open : Int32) (m_at : Int32) (m_bad : Bool) (m_docs : Int32) (m_elems : Int32) (m_deep : Int32) (m_parent : (Nat → Int32)) (m_owner : (Nat → Int32)) (m_letters : (Nat → Int32)) (m_sorts : (Nat → Int32)) (m_targets : (Nat → Int32)) (m_cls : (Nat → Int32)) (m_held : (Nat → Int64)) (m_bytes : (Nat → Int32)) (m_out : (Nat → Int32)) (m_openObject : (Nat → Int32)) (m_openStart : (Nat → Int32)) (m_openNext : (Nat → Int32)) (m_docStart : (Nat → Int32)) (m_docDepth : (Nat → Int32)) (m_docNeed : (Nat → Int32)) (m_docMeant : (Nat → Int32)) (m_elemDoc : (Nat → Int32)) (m_elemType : (Nat → Int32)) (m_elemName : (Nat → Int32)) (m_elemNameLen : (Nat → Int32)) (m_elemContent : (Nat → Int32)) (m_elemChild : (Nat → Int32)) (m_deepDoc : (Nat → Int32)) (r : (Nat → Int64)) (h : fM_clear N v1 m_given m_sorts m_held = some r) : Mu l yM_clear bM_clear 3 none (rL 0) [.ref mA, .int v1] D cI cJ [(mA, .inr (7, [.int m_classes, .ref mA0, .int m_given, .ref mA1, .ref mA2, .ref mA3, .ref mA4, .int m_count, .ref mA5, .ref mA6, .int m_size, .ref mA7, .int m_len, .int (bI m_failed), .ref mA8, .int m_open, .ref mA9, .ref mA10, .ref mA11, .int m_at, .int (bI m_bad), .int m_docs, .ref mA12, .ref mA13, .ref mA14, .ref mA15, .int m_elems, .ref mA16, .ref mA17, .ref mA18, .ref mA19, .ref mA20, .ref mA21, .int m_deep, .ref mA22])), (mA0, .inl (cI, 6, .inl m_parent)), (mA1, .inl (cI, 8, .inl m_owner)), (mA2, .inl (cI, 8, .inl m_letters)), (mA3, .inl (cI, 8, .inl m_sorts)), (mA4, .inl (cI, 8, .inl m_targets)), (mA5, .inl (cI, 12, .inl m_cls)), (mA6, .inl (cJ, 96, .inr (.inl m_held))), (mA7, .inl (cI, 120, .inl m_bytes)), (mA8, .inl (cI, 120, .inl m_out)), (mA9, .inl (cI, 5, .inl m_openObject)), (mA10, .inl (cI, 5, .inl m_openStart)), (mA11, .inl (cI, 5, .inl m_openNext)), (mA12, .inl (cI, 25, .inl m_docStart)), (mA13, .inl (cI, 25, .inl m_docDepth)), (mA14, .inl (cI, 25, .inl m_docNeed)), (mA15, .inl (cI, 25, .inl m_docMeant)), (mA16, .inl (cI, 60, .inl m_elemDoc)), (mA17, .inl (cI, 60, .inl m_elemType)), (mA18, .inl (cI, 60, .inl m_elemName)), (mA19, .inl (cI, 60, .inl m_elemNameLen)), (mA20, .inl (cI, 60, .inl m_elemContent)), (mA21, .inl (cI, 60, .inl m_elemChild)), (mA22, .inl (cI, 6, .inl m_deepDoc))] none [(mA, .inr (7, [.int m_classes, .ref mA0, .int m_given, .ref mA1, .ref mA2, .ref mA3, .ref mA4, .int m_count, .ref mA5, .ref mA6, .int m_size, .ref mA7, .int m_len, .int (bI m_failed), .ref mA8, .int m_open, .ref mA9, .ref mA10, .ref mA11, .int m_at, .int (bI m_bad), .int m_docs, .ref mA12, .ref mA13, .ref mA14, .ref mA15, .int m_elems, .ref mA16, .ref mA17, .ref mA18, .ref mA19, .ref mA20, .ref mA21, .int m_deep, .ref mA22])), (mA0, .inl (cI, 6, .inl m_parent)), (mA1, .inl (cI, 8, .inl m_owner)), (mA2, .inl (cI, 8, .inl m_letters)), (mA3, .inl (cI, 8, .inl m_sorts)), (mA4, .inl (cI, 8, .inl m_targets)), (mA5, .inl (cI, 12, .inl m_cls)), (mA6, .inl (cJ, 96, .inr (.inl r))), (mA7, .inl (cI, 120, .inl m_bytes)), (mA8, .inl (cI, 120, .inl m_out)), (mA9, .inl (cI, 5, .inl m_openObject)), (mA10, .inl (cI, 5, .inl m_openStart)), (mA11, .inl (cI, 5, .inl m_openNext)), (mA12, .inl (cI, 25, .inl m_docStart)), (mA13, .inl (cI, 25, .inl m_docDepth)), (mA14, .inl (cI, 25, .inl m_docNeed)), (mA15, .inl (cI, 25, .inl m_docMeant)), (mA16, .inl (cI, 60, .inl m_elemDoc)), (mA17, .inl (cI, 60, .inl m_elemType)), (mA18, .inl (cI, 60, .inl m_elemName)), (mA19, .inl (cI, 60, .inl m_elemNameLen)), (mA20, .inl (cI, 60, .inl m_elemContent)), (mA21, .inl (cI, 60, .inl m_elemChild)), (mA22, .inl (cI, 6, .inl m_deepDoc))] := by
  refine mu_of (by decide) (Nat.le_of_ble_eq_true rfl) ?_
  intro p e s m below meth c ls A S hr hlocks hN hK hP hD hA hl
  have hS : va_S A s.heap s.heap [] := va_S.rf
  have hx := S.1
  have hb := S.2.1
  have hl : lv_has ls 3 [(0, .ref mA), (1, .int v1)] := hl
  unfold fM_clear at h
  have t2 : ∀ (k : Nat) (a : Int32 × (Nat → Int64)), fM_clear_2l N v1 m_given m_sorts k a = some r → ∀ (ls : Array Slot) (H : Heap) (locs : List Loc), lv_has ls 3 [(0, .ref mA), (1, .int v1), (2, .int a.1)] → va_P D cs [(mA, .inr (7, [.int m_classes, .ref mA0, .int m_given, .ref mA1, .ref mA2, .ref mA3, .ref mA4, .int m_count, .ref mA5, .ref mA6, .int m_size, .ref mA7, .int m_len, .int (bI m_failed), .ref mA8, .int m_open, .ref mA9, .ref mA10, .ref mA11, .int m_at, .int (bI m_bad), .int m_docs, .ref mA12, .ref mA13, .ref mA14, .ref mA15, .int m_elems, .ref mA16, .ref mA17, .ref mA18, .ref mA19, .ref mA20, .ref mA21, .int m_deep, .ref mA22])), (mA0, .inl (cI, 6, .inl m_parent)), (mA1, .inl (cI, 8, .inl m_owner)), (mA2, .inl (cI, 8, .inl m_letters)), (mA3, .inl (cI, 8, .inl m_sorts)), (mA4, .inl (cI, 8, .inl m_targets)), (mA5, .inl (cI, 12, .inl m_cls)), (mA6, .inl (cJ, 96, .inr (.inl a.2))), (mA7, .inl (cI, 120, .inl m_bytes)), (mA8, .inl (cI, 120, .inl m_out)), (mA9, .inl (cI, 5, .inl m_openObject)), (mA10, .inl (cI, 5, .inl m_openStart)), (mA11, .inl (cI, 5, .inl m_openNext)), (mA12, .inl (cI, 25, .inl m_docStart)), (mA13, .inl (cI, 25, .inl m_docDepth)), (mA14, .inl (cI, 25, .inl m_docNeed)), (mA15, .inl (cI, 25, .inl m_docMeant)), (mA16, .inl (cI, 60, .inl m_elemDoc)), (mA17, .inl (cI, 60, .inl m_elemType)), (mA18, .inl (cI, 60, .inl m_elemName)), (mA19, .inl (cI, 60, .inl m_elemNameLen)), (mA20, .inl (cI, 60, .inl m_elemContent)), (mA21, .inl (cI, 60, .inl m_elemChild)), (mA22, .inl (cI, 6, .inl m_deepDoc))] H → va_D A [(mA, .inr (7, [.int m_classes, .ref mA0, .int m_given, .ref mA1, .ref mA2, .ref mA3, .ref mA4, .int m_count, .ref mA5, .ref mA6, .int m_size, .ref mA7, .int m_len, .int (bI m_failed), .ref mA8, .int m_open, .ref mA9, .ref mA10, .ref mA11, .int m_at, .int (bI m_bad), .int m_docs, .ref mA12, .ref mA13, .ref mA14, .ref mA15, .int m_elems, .ref mA16, .ref mA17, .ref mA18, .ref mA19, .ref mA20, .ref mA21, .int m_deep, .ref mA22])), (mA0, .inl (cI, 6, .inl m_parent)), (mA1, .inl (cI, 8, .inl m_owner)), (mA2, .inl (cI, 8, .inl m_letters)), (mA3, .inl (cI, 8, .inl m_sorts)), (mA4, .inl (cI, 8, .inl m_targets)), (mA5, .inl (cI, 12, .inl m_cls)), (mA6, .inl (cJ, 96, .inr (.inl a.2))), (mA7, .inl (cI, 120, .inl m_bytes)), (mA8, .inl (cI, 120, .inl m_out)), (mA9, .inl (cI, 5, .inl m_openObject)), (mA10, .inl (cI, 5, .inl m_openStart)), (mA11, .inl (cI, 5, .inl m_openNext)), (mA12, .inl (cI, 25, .inl m_docStart)), (mA13, .inl (cI, 25, .inl m_docDepth)), (mA14, .inl (cI, 25, .inl m_docNeed)), (mA15, .inl (cI, 25, .inl m_docMeant)), (mA16, .inl (cI, 60, .inl m_elemDoc)), (mA17, .inl (cI, 60, .inl m_elemType)), (mA18, .inl (cI, 60, .inl m_elemName)), (mA19, .inl (cI, 60, .inl m_elemNameLen)), (mA20, .inl (cI, 60, .inl m_elemContent)), (mA21, .inl (cI, 60, .inl m_elemChild)), (mA22, .inl (cI, 6, .inl m_deepDoc))] → va_S A s.heap H locs → W p l e (rL 0) s m ([.ref mA, .int v1] : List Value).toArray below meth c H locs 0 0 (MQ below (fun _ st oc t => (oc = .returned none ∧ va_P D cs [(mA, .inr (7, [.int m_classes, .ref mA0, .int m_given, .ref mA1, .ref mA2, .ref mA3, .ref mA4, .int m_count, .ref mA5, .ref mA6, .int m_size, .ref mA7, .int m_len, .int (bI m_failed), .ref mA8, .int m_open, .ref mA9, .ref mA10, .ref mA11, .int m_at, .int (bI m_bad), .int m_docs, .ref mA12, .ref mA13, .ref mA14, .ref mA15, .int m_elems, .ref mA16, .ref mA17, .ref mA18, .ref mA19, .ref mA20, .ref mA21, .int m_deep, .ref mA22])), (mA0, .inl (cI, 6, .inl m_parent)), (mA1, .inl (cI, 8, .inl m_owner)), (mA2, .inl (cI, 8, .inl m_letters)), (mA3, .inl (cI, 8, .inl m_sorts)), (mA4, .inl (cI, 8, .inl m_targets)), (mA5, .inl (cI, 12, .inl m_cls)), (mA6, .inl (cJ, 96, .inr (.inl r))), (mA7, .inl (cI, 120, .inl m_bytes)), (mA8, .inl (cI, 120, .inl m_out)), (mA9, .inl (cI, 5, .inl m_openObject)), (mA10, .inl (cI, 5, .inl m_openStart)), (mA11, .inl (cI, 5, .inl m_openNext)), (mA12, .inl (cI, 25, .inl m_docStart)), (mA13, .inl (cI, 25, .inl m_docDepth)), (mA14, .inl (cI, 25, .inl m_docNeed)), (mA15, .inl (cI, 25, .inl m_docMeant)), (mA16, .inl (cI, 60, .inl m_elemDoc)), (mA17, .inl (cI, 60, .inl m_elemType)), (mA18, .inl (cI, 60, .inl m_elemName)), (mA19, .inl (cI, 60, .inl m_elemNameLen)), (mA20, .inl (cI, 60, .inl m_elemContent)), (mA21, .inl (cI, 60, .inl m_elemChild)), (mA22, .inl (cI, 6, .inl m_deepDoc))] t.heap) ∧ va_F A st t) ([.ref mA, .int v1] : List Value).toArray s 0 0 A) (F0 m 2 ls []) := by
    unfold fM_clear_2l
    refine lp_some ?_
    intro rc2 hrc2 a h
    obtain ⟨v2, m_held⟩ := a
    intro ls H locs hl hP hD hS
    have h : fM_clear_2 N v1 m_given m_sorts rc2 v2 m_held = some r := h
    have hl : lv_has ls 3 [(0, .ref mA), (1, .int v1), (2, .int v2)] := hl
    have hP : va_P D cs [(mA, .inr (7, [.int m_classes, .ref mA0, .int m_given, .ref mA1, .ref mA2, .ref mA3, .ref mA4, .int m_count, .ref mA5, .ref mA6, .int m_size, .ref mA7, .int m_len, .int (bI m_failed), .ref mA8, .int m_open, .ref mA9, .ref mA10, .ref mA11, .int m_at, .int (bI m_bad), .int m_docs, .ref mA12, .ref mA13, .ref mA14, .ref mA15, .int m_elems, .ref mA16, .ref mA17, .ref mA18, .ref mA19, .ref mA20, .ref mA21, .int m_deep, .ref mA22])), (mA0, .inl (cI, 6, .inl m_parent)), (mA1, .inl (cI, 8, .inl m_owner)), (mA2, .inl (cI, 8, .inl m_letters)), (mA3, .inl (cI, 8, .inl m_sorts)), (mA4, .inl (cI, 8, .inl m_targets)), (mA5, .inl (cI, 12, .inl m_cls)), (mA6, .inl (cJ, 96, .inr (.inl m_held))), (mA7, .inl (cI, 120, .inl m_bytes)), (mA8, .inl (cI, 120, .inl m_out)), (mA9, .inl (cI, 5, .inl m_openObject)), (mA10, .inl (cI, 5, .inl m_openStart)), (mA11, .inl (cI, 5, .inl m_openNext)), (mA12, .inl (cI, 25, .inl m_docStart)), (mA13, .inl (cI, 25, .inl m_docDepth)), (mA14, .inl (cI, 25, .inl m_docNeed)), (mA15, .inl (cI, 25, .inl m_docMeant)), (mA16, .inl (cI, 60, .inl m_elemDoc)), (mA17, .inl (cI, 60, .inl m_elemType)), (mA18, .inl (cI, 60, .inl m_elemName)), (mA19, .inl (cI, 60, .inl m_elemNameLen)), (mA20, .inl (cI, 60, .inl m_elemContent)), (mA21, .inl (cI, 60, .inl m_elemChild)), (mA22, .inl (cI, 6, .inl m_deepDoc))] H := hP
    have hD : va_D A [(mA, .inr (7, [.int m_classes, .ref mA0, .int m_given, .ref mA1, .ref mA2, .ref mA3, .ref mA4, .int m_count, .ref mA5, .ref mA6, .int m_size, .ref mA7, .int m_len, .int (bI m_failed), .ref mA8, .int m_open, .ref mA9, .ref mA10, .ref mA11, .int m_at, .int (bI m_bad), .int m_docs, .ref mA12, .ref mA13, .ref mA14, .ref mA15, .int m_elems, .ref mA16, .ref mA17, .ref mA18, .ref mA19, .ref mA20, .ref mA21, .int m_deep, .ref mA22])), (mA0, .inl (cI, 6, .inl m_parent)), (mA1, .inl (cI, 8, .inl m_owner)), (mA2, .inl (cI, 8, .inl m_letters)), (mA3, .inl (cI, 8, .inl m_sorts)), (mA4, .inl (cI, 8, .inl m_targets)), (mA5, .inl (cI, 12, .inl m_cls)), (mA6, .inl (cJ, 96, .inr (.inl m_held))), (mA7, .inl (cI, 120, .inl m_bytes)), (mA8, .inl (cI, 120, .inl m_out)), (mA9, .inl (cI, 5, .inl m_openObject)), (mA10, .inl (cI, 5, .inl m_openStart)), (mA11, .inl (cI, 5, .inl m_openNext)), (mA12, .inl (cI, 25, .inl m_docStart)), (mA13, .inl (cI, 25, .inl m_docDepth)), (mA14, .inl (cI, 25, .inl m_docNeed)), (mA15, .inl (cI, 25, .inl m_docMeant)), (mA16, .inl (cI, 60, .inl m_elemDoc)), (mA17, .inl (cI, 60, .inl m_elemType)), (mA18, .inl (cI, 60, .inl m_elemName)), (mA19, .inl (cI, 60, .inl m_elemNameLen)), (mA20, .inl (cI, 60, .inl m_elemContent)), (mA21, .inl (cI, 60, .inl m_elemChild)), (mA22, .inl (cI, 6, .inl m_deepDoc))] := hD
    unfold fM_clear_2 at h
    refine lv_iload_n hx hb dM_clear_2 rfl (lv_at hl 2 rfl) ?_
    refine lv_bipush (v := (8 : Int32)) hx hb dM_clear_3 (by decide) ?_
    refine lv_icmp_ge (tgt := 50) hx hb dM_clear_5 (by decide) (fun h5 => ?_) (fun h5 => ?_)
    · have h := g_t h h5
      cases h
      exact mu_n S hr hlocks hP hS dM_clear_50 rfl
    · have h := g_f h h5
      refine lv_aload_n hx hb dM_clear_8 rfl (lv_at hl 0 rfl) ?_
      refine gf S hK hP 0 7 9 u_zM w_616 rfl rfl (by decide) rfl dM_clear_9 ?_
      refine lv_bipush (v := (8 : Int32)) hx hb dM_clear_12 (by decide) ?_
      refine lv_iload_n hx hb dM_clear_14 rfl (lv_at hl 1 rfl) ?_
      refine lv_imul hx hb dM_clear_15 ?_
      refine lv_iload_n hx hb dM_clear_16 rfl (lv_at hl 2 rfl) ?_
      refine lv_iadd hx hb dM_clear_17 ?_
      refine lv_iload_n hx hb dM_clear_18 rfl (lv_at hl 2 rfl) ?_
      refine lv_aload_n hx hb dM_clear_19 rfl (lv_at hl 0 rfl) ?_
      refine gf S hK hP 0 7 2 u_zM w_609 rfl rfl (by decide) rfl dM_clear_20 ?_
      refine lv_icmp_ge (tgt := 42) hx hb dM_clear_23 (by decide) (fun h23 => ?_) (fun h23 => ?_)
      · have h := g_t h h23
        refine lv_lconst (v := (0 : Int64)) hx hb dM_clear_42 (by decide) ?_
        obtain ⟨b43, h⟩ := g_ok h
        refine va_last hx hb hK hP hD hS 7 1 rfl rfl b43 dM_clear_43 (fun H locs hP hD hS => ?_)
        have hP : va_P D cs [(mA, .inr (7, [.int m_classes, .ref mA0, .int m_given, .ref mA1, .ref mA2, .ref mA3, .ref mA4, .int m_count, .ref mA5, .ref mA6, .int m_size, .ref mA7, .int m_len, .int (bI m_failed), .ref mA8, .int m_open, .ref mA9, .ref mA10, .ref mA11, .int m_at, .int (bI m_bad), .int m_docs, .ref mA12, .ref mA13, .ref mA14, .ref mA15, .int m_elems, .ref mA16, .ref mA17, .ref mA18, .ref mA19, .ref mA20, .ref mA21, .int m_deep, .ref mA22])), (mA0, .inl (cI, 6, .inl m_parent)), (mA1, .inl (cI, 8, .inl m_owner)), (mA2, .inl (cI, 8, .inl m_letters)), (mA3, .inl (cI, 8, .inl m_sorts)), (mA4, .inl (cI, 8, .inl m_targets)), (mA5, .inl (cI, 12, .inl m_cls)), (mA6, .inl (cJ, 96, .inr (.inl (vp_updL m_held (((8 : Int32) * v1) + v2).toNatClampNeg (0 : Int64))))), (mA7, .inl (cI, 120, .inl m_bytes)), (mA8, .inl (cI, 120, .inl m_out)), (mA9, .inl (cI, 5, .inl m_openObject)), (mA10, .inl (cI, 5, .inl m_openStart)), (mA11, .inl (cI, 5, .inl m_openNext)), (mA12, .inl (cI, 25, .inl m_docStart)), (mA13, .inl (cI, 25, .inl m_docDepth)), (mA14, .inl (cI, 25, .inl m_docNeed)), (mA15, .inl (cI, 25, .inl m_docMeant)), (mA16, .inl (cI, 60, .inl m_elemDoc)), (mA17, .inl (cI, 60, .inl m_elemType)), (mA18, .inl (cI, 60, .inl m_elemName)), (mA19, .inl (cI, 60, .inl m_elemNameLen)), (mA20, .inl (cI, 60, .inl m_elemContent)), (mA21, .inl (cI, 60, .inl m_elemChild)), (mA22, .inl (cI, 6, .inl m_deepDoc))] H := hP
        have hD : va_D A [(mA, .inr (7, [.int m_classes, .ref mA0, .int m_given, .ref mA1, .ref mA2, .ref mA3, .ref mA4, .int m_count, .ref mA5, .ref mA6, .int m_size, .ref mA7, .int m_len, .int (bI m_failed), .ref mA8, .int m_open, .ref mA9, .ref mA10, .ref mA11, .int m_at, .int (bI m_bad), .int m_docs, .ref mA12, .ref mA13, .ref mA14, .ref mA15, .int m_elems, .ref mA16, .ref mA17, .ref mA18, .ref mA19, .ref mA20, .ref mA21, .int m_deep, .ref mA22])), (mA0, .inl (cI, 6, .inl m_parent)), (mA1, .inl (cI, 8, .inl m_owner)), (mA2, .inl (cI, 8, .inl m_letters)), (mA3, .inl (cI, 8, .inl m_sorts)), (mA4, .inl (cI, 8, .inl m_targets)), (mA5, .inl (cI, 12, .inl m_cls)), (mA6, .inl (cJ, 96, .inr (.inl (vp_updL m_held (((8 : Int32) * v1) + v2).toNatClampNeg (0 : Int64))))), (mA7, .inl (cI, 120, .inl m_bytes)), (mA8, .inl (cI, 120, .inl m_out)), (mA9, .inl (cI, 5, .inl m_openObject)), (mA10, .inl (cI, 5, .inl m_openStart)), (mA11, .inl (cI, 5, .inl m_openNext)), (mA12, .inl (cI, 25, .inl m_docStart)), (mA13, .inl (cI, 25, .inl m_docDepth)), (mA14, .inl (cI, 25, .inl m_docNeed)), (mA15, .inl (cI, 25, .inl m_docMeant)), (mA16, .inl (cI, 60, .inl m_elemDoc)), (mA17, .inl (cI, 60, .inl m_elemType)), (mA18, .inl (cI, 60, .inl m_elemName)), (mA19, .inl (cI, 60, .inl m_elemNameLen)), (mA20, .inl (cI, 60, .inl m_elemContent)), (mA21, .inl (cI, 60, .inl m_elemChild)), (mA22, .inl (cI, 6, .inl m_deepDoc))] := hD
        refine lv_iinc (k := 2) (v := v2 + (1 : Int32)) (lv' := [(2, .int (v2 + (1 : Int32))), (0, .ref mA), (1, .int v1)]) hx hb dM_clear_44 hl rfl (congrArg (v2 + ·) (by decide : Int32.ofInt (1) = (1 : Int32))) (Nat.le_of_ble_eq_true rfl) rfl (fun ls hl => ?_)
        refine lv_goto (tgt := 2) hx hb dM_clear_47 (by decide) ?_
        exact hrc2 (v2 + (1 : Int32), vp_updL m_held (((8 : Int32) * v1) + v2).toNatClampNeg (0 : Int64)) h _ _ _ (lv_sub hl [1, 2, 0] rfl) hP hD hS
      · have h := g_f h h23
        refine lv_aload_n hx hb dM_clear_26 rfl (lv_at hl 0 rfl) ?_
        refine gf S hK hP 0 7 5 u_zM w_612 rfl rfl (by decide) rfl dM_clear_27 ?_
        refine lv_iload_n hx hb dM_clear_30 rfl (lv_at hl 2 rfl) ?_
        obtain ⟨b31, h⟩ := g_ok h
        refine va_iald hx hb hK hP 4 0 rfl rfl b31 dM_clear_31 ?_
        refine lv_iconst (v := (3 : Int32)) hx hb dM_clear_32 (by decide) ?_
        refine lv_icmp_ne (tgt := 42) hx hb dM_clear_33 (by decide) (fun h33 => ?_) (fun h33 => ?_)
        · have h := g_f h h33
          refine lv_lconst (v := (0 : Int64)) hx hb dM_clear_42 (by decide) ?_
          obtain ⟨b43, h⟩ := g_ok h
          refine va_last hx hb hK hP hD hS 7 1 rfl rfl b43 dM_clear_43 (fun H locs hP hD hS => ?_)
          have hP : va_P D cs [(mA, .inr (7, [.int m_classes, .ref mA0, .int m_given, .ref mA1, .ref mA2, .ref mA3, .ref mA4, .int m_count, .ref mA5, .ref mA6, .int m_size, .ref mA7, .int m_len, .int (bI m_failed), .ref mA8, .int m_open, .ref mA9, .ref mA10, .ref mA11, .int m_at, .int (bI m_bad), .int m_docs, .ref mA12, .ref mA13, .ref mA14, .ref mA15, .int m_elems, .ref mA16, .ref mA17, .ref mA18, .ref mA19, .ref mA20, .ref mA21, .int m_deep, .ref mA22])), (mA0, .inl (cI, 6, .inl m_parent)), (mA1, .inl (cI, 8, .inl m_owner)), (mA2, .inl (cI, 8, .inl m_letters)), (mA3, .inl (cI, 8, .inl m_sorts)), (mA4, .inl (cI, 8, .inl m_targets)), (mA5, .inl (cI, 12, .inl m_cls)), (mA6, .inl (cJ, 96, .inr (.inl (vp_updL m_held (((8 : Int32) * v1) + v2).toNatClampNeg (0 : Int64))))), (mA7, .inl (cI, 120, .inl m_bytes)), (mA8, .inl (cI, 120, .inl m_out)), (mA9, .inl (cI, 5, .inl m_openObject)), (mA10, .inl (cI, 5, .inl m_openStart)), (mA11, .inl (cI, 5, .inl m_openNext)), (mA12, .inl (cI, 25, .inl m_docStart)), (mA13, .inl (cI, 25, .inl m_docDepth)), (mA14, .inl (cI, 25, .inl m_docNeed)), (mA15, .inl (cI, 25, .inl m_docMeant)), (mA16, .inl (cI, 60, .inl m_elemDoc)), (mA17, .inl (cI, 60, .inl m_elemType)), (mA18, .inl (cI, 60, .inl m_elemName)), (mA19, .inl (cI, 60, .inl m_elemNameLen)), (mA20, .inl (cI, 60, .inl m_elemContent)), (mA21, .inl (cI, 60, .inl m_elemChild)), (mA22, .inl (cI, 6, .inl m_deepDoc))] H := hP
          have hD : va_D A [(mA, .inr (7, [.int m_classes, .ref mA0, .int m_given, .ref mA1, .ref mA2, .ref mA3, .ref mA4, .int m_count, .ref mA5, .ref mA6, .int m_size, .ref mA7, .int m_len, .int (bI m_failed), .ref mA8, .int m_open, .ref mA9, .ref mA10, .ref mA11, .int m_at, .int (bI m_bad), .int m_docs, .ref mA12, .ref mA13, .ref mA14, .ref mA15, .int m_elems, .ref mA16, .ref mA17, .ref mA18, .ref mA19, .ref mA20, .ref mA21, .int m_deep, .ref mA22])), (mA0, .inl (cI, 6, .inl m_parent)), (mA1, .inl (cI, 8, .inl m_owner)), (mA2, .inl (cI, 8, .inl m_letters)), (mA3, .inl (cI, 8, .inl m_sorts)), (mA4, .inl (cI, 8, .inl m_targets)), (mA5, .inl (cI, 12, .inl m_cls)), (mA6, .inl (cJ, 96, .inr (.inl (vp_updL m_held (((8 : Int32) * v1) + v2).toNatClampNeg (0 : Int64))))), (mA7, .inl (cI, 120, .inl m_bytes)), (mA8, .inl (cI, 120, .inl m_out)), (mA9, .inl (cI, 5, .inl m_openObject)), (mA10, .inl (cI, 5, .inl m_openStart)), (mA11, .inl (cI, 5, .inl m_openNext)), (mA12, .inl (cI, 25, .inl m_docStart)), (mA13, .inl (cI, 25, .inl m_docDepth)), (mA14, .inl (cI, 25, .inl m_docNeed)), (mA15, .inl (cI, 25, .inl m_docMeant)), (mA16, .inl (cI, 60, .inl m_elemDoc)), (mA17, .inl (cI, 60, .inl m_elemType)), (mA18, .inl (cI, 60, .inl m_elemName)), (mA19, .inl (cI, 60, .inl m_elemNameLen)), (mA20, .inl (cI, 60, .inl m_elemContent)), (mA21, .inl (cI, 60, .inl m_elemChild)), (mA22, .inl (cI, 6, .inl m_deepDoc))] := hD
          refine lv_iinc (k := 2) (v := v2 + (1 : Int32)) (lv' := [(2, .int (v2 + (1 : Int32))), (0, .ref mA), (1, .int v1)]) hx hb dM_clear_44 hl rfl (congrArg (v2 + ·) (by decide : Int32.ofInt (1) = (1 : Int32))) (Nat.le_of_ble_eq_true rfl) rfl (fun ls hl => ?_)
          refine lv_goto (tgt := 2) hx hb dM_clear_47 (by decide) ?_
          exact hrc2 (v2 + (1 : Int32), vp_updL m_held (((8 : Int32) * v1) + v2).toNatClampNeg (0 : Int64)) h _ _ _ (lv_sub hl [1, 2, 0] rfl) hP hD hS
        · have h := g_t h h33
          refine lv_ldc2 hx hb S.2.2.2.1 (S.2.2.2.2 _ w_745) dM_clear_36 ?_
          refine lv_goto (tgt := 43) hx hb dM_clear_39 (by decide) ?_
          obtain ⟨b43, h⟩ := g_ok h
          refine va_last hx hb hK hP hD hS 7 1 rfl rfl b43 dM_clear_43 (fun H locs hP hD hS => ?_)
          have hP : va_P D cs [(mA, .inr (7, [.int m_classes, .ref mA0, .int m_given, .ref mA1, .ref mA2, .ref mA3, .ref mA4, .int m_count, .ref mA5, .ref mA6, .int m_size, .ref mA7, .int m_len, .int (bI m_failed), .ref mA8, .int m_open, .ref mA9, .ref mA10, .ref mA11, .int m_at, .int (bI m_bad), .int m_docs, .ref mA12, .ref mA13, .ref mA14, .ref mA15, .int m_elems, .ref mA16, .ref mA17, .ref mA18, .ref mA19, .ref mA20, .ref mA21, .int m_deep, .ref mA22])), (mA0, .inl (cI, 6, .inl m_parent)), (mA1, .inl (cI, 8, .inl m_owner)), (mA2, .inl (cI, 8, .inl m_letters)), (mA3, .inl (cI, 8, .inl m_sorts)), (mA4, .inl (cI, 8, .inl m_targets)), (mA5, .inl (cI, 12, .inl m_cls)), (mA6, .inl (cJ, 96, .inr (.inl (vp_updL m_held (((8 : Int32) * v1) + v2).toNatClampNeg (-1 : Int64))))), (mA7, .inl (cI, 120, .inl m_bytes)), (mA8, .inl (cI, 120, .inl m_out)), (mA9, .inl (cI, 5, .inl m_openObject)), (mA10, .inl (cI, 5, .inl m_openStart)), (mA11, .inl (cI, 5, .inl m_openNext)), (mA12, .inl (cI, 25, .inl m_docStart)), (mA13, .inl (cI, 25, .inl m_docDepth)), (mA14, .inl (cI, 25, .inl m_docNeed)), (mA15, .inl (cI, 25, .inl m_docMeant)), (mA16, .inl (cI, 60, .inl m_elemDoc)), (mA17, .inl (cI, 60, .inl m_elemType)), (mA18, .inl (cI, 60, .inl m_elemName)), (mA19, .inl (cI, 60, .inl m_elemNameLen)), (mA20, .inl (cI, 60, .inl m_elemContent)), (mA21, .inl (cI, 60, .inl m_elemChild)), (mA22, .inl (cI, 6, .inl m_deepDoc))] H := hP
          have hD : va_D A [(mA, .inr (7, [.int m_classes, .ref mA0, .int m_given, .ref mA1, .ref mA2, .ref mA3, .ref mA4, .int m_count, .ref mA5, .ref mA6, .int m_size, .ref mA7, .int m_len, .int (bI m_failed), .ref mA8, .int m_open, .ref mA9, .ref mA10, .ref mA11, .int m_at, .int (bI m_bad), .int m_docs, .ref mA12, .ref mA13, .ref mA14, .ref mA15, .int m_elems, .ref mA16, .ref mA17, .ref mA18, .ref mA19, .ref mA20, .ref mA21, .int m_deep, .ref mA22])), (mA0, .inl (cI, 6, .inl m_parent)), (mA1, .inl (cI, 8, .inl m_owner)), (mA2, .inl (cI, 8, .inl m_letters)), (mA3, .inl (cI, 8, .inl m_sorts)), (mA4, .inl (cI, 8, .inl m_targets)), (mA5, .inl (cI, 12, .inl m_cls)), (mA6, .inl (cJ, 96, .inr (.inl (vp_updL m_held (((8 : Int32) * v1) + v2).toNatClampNeg (-1 : Int64))))), (mA7, .inl (cI, 120, .inl m_bytes)), (mA8, .inl (cI, 120, .inl m_out)), (mA9, .inl (cI, 5, .inl m_openObject)), (mA10, .inl (cI, 5, .inl m_openStart)), (mA11, .inl (cI, 5, .inl m_openNext)), (mA12, .inl (cI, 25, .inl m_docStart)), (mA13, .inl (cI, 25, .inl m_docDepth)), (mA14, .inl (cI, 25, .inl m_docNeed)), (mA15, .inl (cI, 25, .inl m_docMeant)), (mA16, .inl (cI, 60, .inl m_elemDoc)), (mA17, .inl (cI, 60, .inl m_elemType)), (mA18, .inl (cI, 60, .inl m_elemName)), (mA19, .inl (cI, 60, .inl m_elemNameLen)), (mA20, .inl (cI, 60, .inl m_elemContent)), (mA21, .inl (cI, 60, .inl m_elemChild)), (mA22, .inl (cI, 6, .inl m_deepDoc))] := hD
          refine lv_iinc (k := 2) (v := v2 + (1 : Int32)) (lv' := [(2, .int (v2 + (1 : Int32))), (0, .ref mA), (1, .int v1)]) hx hb dM_clear_44 hl rfl (congrArg (v2 + ·) (by decide : Int32.ofInt (1) = (1 : Int32))) (Nat.le_of_ble_eq_true rfl) rfl (fun ls hl => ?_)
          refine lv_goto (tgt := 2) hx hb dM_clear_47 (by decide) ?_
          exact hrc2 (v2 + (1 : Int32), vp_updL m_held (((8 : Int32) * v1) + v2).toNatClampNeg (-1 : Int64)) h _ _ _ (lv_sub hl [1, 2, 0] rfl) hP hD hS
  refine lv_iconst (v := (0 : Int32)) hx hb dM_clear_0 (by decide) ?_
  refine lv_istore_n (lv' := [(2, .int (0 : Int32)), (0, .ref mA), (1, .int v1)]) hx hb dM_clear_1 rfl hl (Nat.le_of_ble_eq_true rfl) rfl (fun ls hl => ?_)
  exact t2 N ((0 : Int32), m_held) h _ _ _ (lv_sub hl [1, 2, 0] rfl) hP hD hS
def fM_cut (v1 : Int32) (m_size : Int32) : Option (Bool × Int32) :=
  if v1 < 0 then (some (false, m_size)) else (if v1 ≤ m_size then (some (true, v1)) else (some (false, m_size)))
set_option maxHeartbeats 4000000 in
set_option maxRecDepth 100000 in
theorem cM_cut (l : Launch) (D : va_G) (cI cJ : ClassId) (mA mA0 mA1 mA2 mA3 mA4 mA5 mA6 mA7 mA8 mA9 mA10 mA11 mA12 mA13 mA14 mA15 mA16 mA17 mA18 mA19 mA20 mA21 mA22 : Nat) (v1 : Int32) (m_classes : Int32) (m_given : Int32) (m_count : Int32) (m_size : Int32) (m_len : Int32) (m_failed : Bool) (m_open : Int32) (m_at : Int32) (m_bad : Bool) (m_docs : Int32) (m_elems : Int32) (m_deep : Int32) (m_parent : (Nat → Int32)) (m_owner : (Nat → Int32)) (m_letters : (Nat → Int32)) (m_sorts : (Nat → Int32)) (m_targets : (Nat → Int32)) (m_cls : (Nat → Int32)) (m_held : (Nat → Int64)) (m_bytes : (Nat → Int32)) (m_out : (Nat → Int32)) (m_openObject : (Nat → Int32)) (m_openStart : (Nat → Int32)) (m_openNext : (Nat → Int32)) (m_docStart : (Nat → Int32)) (m_docDepth : (Nat → Int32)) (m_docNeed : (Nat → Int32)) (m_docMeant : (Nat → Int32)) (m_elemDoc : (Nat → Int32)) (m_elemType : (Nat → Int32)) (m_elemName : (Nat → Int32)) (m_elemNameLen : (Nat → Int32)) (m_elemContent : (Nat → Int32)) (m_elemChild : (Nat → Int32)) (m_deepDoc : (Nat → Int32)) (r : Bool × Int32) (h : fM_cut v1 m_size = some r) : Mu l yM_cut bM_cut 2 (some .boolean) (rL 0) [.ref mA, .int v1] D cI cJ [(mA, .inr (7, [.int m_classes, .ref mA0, .int m_given, .ref mA1, .ref mA2, .ref mA3, .ref mA4, .int m_count, .ref mA5, .ref mA6, .int m_size, .ref mA7, .int m_len, .int (bI m_failed), .ref mA8, .int m_open, .ref mA9, .ref mA10, .ref mA11, .int m_at, .int (bI m_bad), .int m_docs, .ref mA12, .ref mA13, .ref mA14, .ref mA15, .int m_elems, .ref mA16, .ref mA17, .ref mA18, .ref mA19, .ref mA20, .ref mA21, .int m_deep, .ref mA22])), (mA0, .inl (cI, 6, .inl m_parent)), (mA1, .inl (cI, 8, .inl m_owner)), (mA2, .inl (cI, 8, .inl m_letters)), (mA3, .inl (cI, 8, .inl m_sorts)), (mA4, .inl (cI, 8, .inl m_targets)), (mA5, .inl (cI, 12, .inl m_cls)), (mA6, .inl (cJ, 96, .inr (.inl m_held))), (mA7, .inl (cI, 120, .inl m_bytes)), (mA8, .inl (cI, 120, .inl m_out)), (mA9, .inl (cI, 5, .inl m_openObject)), (mA10, .inl (cI, 5, .inl m_openStart)), (mA11, .inl (cI, 5, .inl m_openNext)), (mA12, .inl (cI, 25, .inl m_docStart)), (mA13, .inl (cI, 25, .inl m_docDepth)), (mA14, .inl (cI, 25, .inl m_docNeed)), (mA15, .inl (cI, 25, .inl m_docMeant)), (mA16, .inl (cI, 60, .inl m_elemDoc)), (mA17, .inl (cI, 60, .inl m_elemType)), (mA18, .inl (cI, 60, .inl m_elemName)), (mA19, .inl (cI, 60, .inl m_elemNameLen)), (mA20, .inl (cI, 60, .inl m_elemContent)), (mA21, .inl (cI, 60, .inl m_elemChild)), (mA22, .inl (cI, 6, .inl m_deepDoc))] (some (.int (bI r.1))) [(mA, .inr (7, [.int m_classes, .ref mA0, .int m_given, .ref mA1, .ref mA2, .ref mA3, .ref mA4, .int m_count, .ref mA5, .ref mA6, .int r.2, .ref mA7, .int m_len, .int (bI m_failed), .ref mA8, .int m_open, .ref mA9, .ref mA10, .ref mA11, .int m_at, .int (bI m_bad), .int m_docs, .ref mA12, .ref mA13, .ref mA14, .ref mA15, .int m_elems, .ref mA16, .ref mA17, .ref mA18, .ref mA19, .ref mA20, .ref mA21, .int m_deep, .ref mA22])), (mA0, .inl (cI, 6, .inl m_parent)), (mA1, .inl (cI, 8, .inl m_owner)), (mA2, .inl (cI, 8, .inl m_letters)), (mA3, .inl (cI, 8, .inl m_sorts)), (mA4, .inl (cI, 8, .inl m_targets)), (mA5, .inl (cI, 12, .inl m_cls)), (mA6, .inl (cJ, 96, .inr (.inl m_held))), (mA7, .inl (cI, 120, .inl m_bytes)), (mA8, .inl (cI, 120, .inl m_out)), (mA9, .inl (cI, 5, .inl m_openObject)), (mA10, .inl (cI, 5, .inl m_openStart)), (mA11, .inl (cI, 5, .inl m_openNext)), (mA12, .inl (cI, 25, .inl m_docStart)), (mA13, .inl (cI, 25, .inl m_docDepth)), (mA14, .inl (cI, 25, .inl m_docNeed)), (mA15, .inl (cI, 25, .inl m_docMeant)), (mA16, .inl (cI, 60, .inl m_elemDoc)), (mA17, .inl (cI, 60, .inl m_elemType)), (mA18, .inl (cI, 60, .inl m_elemName)), (mA19, .inl (cI, 60, .inl m_elemNameLen)), (mA20, .inl (cI, 60, .inl m_elemContent)), (mA21, .inl (cI, 60, .inl m_elemChild)), (mA22, .inl (cI, 6, .inl m_deepDoc))] := by
  refine mu_of (by decide) (Nat.le_of_ble_eq_true rfl) ?_
  intro p e s m below meth c ls A S hr hlocks hN hK hP hD hA hl
  have hS : va_S A s.heap s.heap [] := va_S.rf
  have hx := S.1
  have hb := S.2.1
  have hl : lv_has ls 2 [(0, .ref mA), (1, .int v1)] := hl
  unfold fM_cut at h
  refine lv_iload_n hx hb dM_cut_0 rfl (lv_at hl 1 rfl) ?_
  refine lv_if_lt (tgt := 12) hx hb dM_cut_1 (by decide) (fun h1 => ?_) (fun h1 => ?_)
  · have h := g_t h h1
    refine lv_iconst (v := (0 : Int32)) hx hb dM_cut_12 (by decide) ?_
    cases h
    exact mu_z S hr hlocks hP hS dM_cut_13 rfl rfl
  · have h := g_f h h1
    refine lv_iload_n hx hb dM_cut_4 rfl (lv_at hl 1 rfl) ?_
    refine lv_aload_n hx hb dM_cut_5 rfl (lv_at hl 0 rfl) ?_
    refine gf S hK hP 0 7 10 u_zM w_617 rfl rfl (by decide) rfl dM_cut_6 ?_
    refine lv_icmp_le (tgt := 14) hx hb dM_cut_9 (by decide) (fun h9 => ?_) (fun h9 => ?_)
    · have h := g_t h h9
      refine lv_aload_n hx hb dM_cut_14 rfl (lv_at hl 0 rfl) ?_
      refine lv_iload_n hx hb dM_cut_15 rfl (lv_at hl 1 rfl) ?_
      refine pf S hK hP hD hS 0 7 10 (v := .int v1) zM_t u_zM zM_k zM_n w_617 rfl rfl (by decide) rfl rfl rfl rfl (Nat.le_of_ble_eq_true rfl) dM_cut_16 (fun H locs hP hD hS => ?_)
      have hP : va_P D cs [(mA, .inr (7, [.int m_classes, .ref mA0, .int m_given, .ref mA1, .ref mA2, .ref mA3, .ref mA4, .int m_count, .ref mA5, .ref mA6, .int v1, .ref mA7, .int m_len, .int (bI m_failed), .ref mA8, .int m_open, .ref mA9, .ref mA10, .ref mA11, .int m_at, .int (bI m_bad), .int m_docs, .ref mA12, .ref mA13, .ref mA14, .ref mA15, .int m_elems, .ref mA16, .ref mA17, .ref mA18, .ref mA19, .ref mA20, .ref mA21, .int m_deep, .ref mA22])), (mA0, .inl (cI, 6, .inl m_parent)), (mA1, .inl (cI, 8, .inl m_owner)), (mA2, .inl (cI, 8, .inl m_letters)), (mA3, .inl (cI, 8, .inl m_sorts)), (mA4, .inl (cI, 8, .inl m_targets)), (mA5, .inl (cI, 12, .inl m_cls)), (mA6, .inl (cJ, 96, .inr (.inl m_held))), (mA7, .inl (cI, 120, .inl m_bytes)), (mA8, .inl (cI, 120, .inl m_out)), (mA9, .inl (cI, 5, .inl m_openObject)), (mA10, .inl (cI, 5, .inl m_openStart)), (mA11, .inl (cI, 5, .inl m_openNext)), (mA12, .inl (cI, 25, .inl m_docStart)), (mA13, .inl (cI, 25, .inl m_docDepth)), (mA14, .inl (cI, 25, .inl m_docNeed)), (mA15, .inl (cI, 25, .inl m_docMeant)), (mA16, .inl (cI, 60, .inl m_elemDoc)), (mA17, .inl (cI, 60, .inl m_elemType)), (mA18, .inl (cI, 60, .inl m_elemName)), (mA19, .inl (cI, 60, .inl m_elemNameLen)), (mA20, .inl (cI, 60, .inl m_elemContent)), (mA21, .inl (cI, 60, .inl m_elemChild)), (mA22, .inl (cI, 6, .inl m_deepDoc))] H := hP
      have hD : va_D A [(mA, .inr (7, [.int m_classes, .ref mA0, .int m_given, .ref mA1, .ref mA2, .ref mA3, .ref mA4, .int m_count, .ref mA5, .ref mA6, .int v1, .ref mA7, .int m_len, .int (bI m_failed), .ref mA8, .int m_open, .ref mA9, .ref mA10, .ref mA11, .int m_at, .int (bI m_bad), .int m_docs, .ref mA12, .ref mA13, .ref mA14, .ref mA15, .int m_elems, .ref mA16, .ref mA17, .ref mA18, .ref mA19, .ref mA20, .ref mA21, .int m_deep, .ref mA22])), (mA0, .inl (cI, 6, .inl m_parent)), (mA1, .inl (cI, 8, .inl m_owner)), (mA2, .inl (cI, 8, .inl m_letters)), (mA3, .inl (cI, 8, .inl m_sorts)), (mA4, .inl (cI, 8, .inl m_targets)), (mA5, .inl (cI, 12, .inl m_cls)), (mA6, .inl (cJ, 96, .inr (.inl m_held))), (mA7, .inl (cI, 120, .inl m_bytes)), (mA8, .inl (cI, 120, .inl m_out)), (mA9, .inl (cI, 5, .inl m_openObject)), (mA10, .inl (cI, 5, .inl m_openStart)), (mA11, .inl (cI, 5, .inl m_openNext)), (mA12, .inl (cI, 25, .inl m_docStart)), (mA13, .inl (cI, 25, .inl m_docDepth)), (mA14, .inl (cI, 25, .inl m_docNeed)), (mA15, .inl (cI, 25, .inl m_docMeant)), (mA16, .inl (cI, 60, .inl m_elemDoc)), (mA17, .inl (cI, 60, .inl m_elemType)), (mA18, .inl (cI, 60, .inl m_elemName)), (mA19, .inl (cI, 60, .inl m_elemNameLen)), (mA20, .inl (cI, 60, .inl m_elemContent)), (mA21, .inl (cI, 60, .inl m_elemChild)), (mA22, .inl (cI, 6, .inl m_deepDoc))] := hD
      refine lv_iconst (v := (1 : Int32)) hx hb dM_cut_19 (by decide) ?_
      cases h
      exact mu_z S hr hlocks hP hS dM_cut_20 rfl rfl
    · have h := g_f h h9
      refine lv_iconst (v := (0 : Int32)) hx hb dM_cut_12 (by decide) ?_
      cases h
      exact mu_z S hr hlocks hP hS dM_cut_13 rfl rfl
def fM_isMark (v1 : Int32) (m_bytes : (Nat → Int32)) (m_elemName : (Nat → Int32)) (m_elemNameLen : (Nat → Int32)) : Option (Bool) :=
  if ok v1 60 = true then (if (m_elemNameLen v1.toNatClampNeg) = (2 : Int32) then (if ok v1 60 = true then (if ok (m_elemName v1.toNatClampNeg) 120 = true then (if (m_bytes (m_elemName v1.toNatClampNeg).toNatClampNeg) = (95 : Int32) then (if ok v1 60 = true then (if ok ((m_elemName v1.toNatClampNeg) + (1 : Int32)) 120 = true then (if (m_bytes ((m_elemName v1.toNatClampNeg) + (1 : Int32)).toNatClampNeg) = (116 : Int32) then (some (true)) else (some (false))) else none) else none) else (some (false))) else none) else none) else (some (false))) else none
set_option maxHeartbeats 4000000 in
set_option maxRecDepth 100000 in
theorem cM_isMark (l : Launch) (D : va_G) (cI cJ : ClassId) (mA mA0 mA1 mA2 mA3 mA4 mA5 mA6 mA7 mA8 mA9 mA10 mA11 mA12 mA13 mA14 mA15 mA16 mA17 mA18 mA19 mA20 mA21 mA22 : Nat) (v1 : Int32) (m_classes : Int32) (m_given : Int32) (m_count : Int32) (m_size : Int32) (m_len : Int32) (m_failed : Bool) (m_open : Int32) (m_at : Int32) (m_bad : Bool) (m_docs : Int32) (m_elems : Int32) (m_deep : Int32) (m_parent : (Nat → Int32)) (m_owner : (Nat → Int32)) (m_letters : (Nat → Int32)) (m_sorts : (Nat → Int32)) (m_targets : (Nat → Int32)) (m_cls : (Nat → Int32)) (m_held : (Nat → Int64)) (m_bytes : (Nat → Int32)) (m_out : (Nat → Int32)) (m_openObject : (Nat → Int32)) (m_openStart : (Nat → Int32)) (m_openNext : (Nat → Int32)) (m_docStart : (Nat → Int32)) (m_docDepth : (Nat → Int32)) (m_docNeed : (Nat → Int32)) (m_docMeant : (Nat → Int32)) (m_elemDoc : (Nat → Int32)) (m_elemType : (Nat → Int32)) (m_elemName : (Nat → Int32)) (m_elemNameLen : (Nat → Int32)) (m_elemContent : (Nat → Int32)) (m_elemChild : (Nat → Int32)) (m_deepDoc : (Nat → Int32)) (r : Bool) (h : fM_isMark v1 m_bytes m_elemName m_elemNameLen = some r) : Pu l yM_isMark bM_isMark 2 (some .boolean) (rL 0) [.ref mA, .int v1] D cI cJ [(mA, .inr (7, [.int m_classes, .ref mA0, .int m_given, .ref mA1, .ref mA2, .ref mA3, .ref mA4, .int m_count, .ref mA5, .ref mA6, .int m_size, .ref mA7, .int m_len, .int (bI m_failed), .ref mA8, .int m_open, .ref mA9, .ref mA10, .ref mA11, .int m_at, .int (bI m_bad), .int m_docs, .ref mA12, .ref mA13, .ref mA14, .ref mA15, .int m_elems, .ref mA16, .ref mA17, .ref mA18, .ref mA19, .ref mA20, .ref mA21, .int m_deep, .ref mA22])), (mA0, .inl (cI, 6, .inl m_parent)), (mA1, .inl (cI, 8, .inl m_owner)), (mA2, .inl (cI, 8, .inl m_letters)), (mA3, .inl (cI, 8, .inl m_sorts)), (mA4, .inl (cI, 8, .inl m_targets)), (mA5, .inl (cI, 12, .inl m_cls)), (mA6, .inl (cJ, 96, .inr (.inl m_held))), (mA7, .inl (cI, 120, .inl m_bytes)), (mA8, .inl (cI, 120, .inl m_out)), (mA9, .inl (cI, 5, .inl m_openObject)), (mA10, .inl (cI, 5, .inl m_openStart)), (mA11, .inl (cI, 5, .inl m_openNext)), (mA12, .inl (cI, 25, .inl m_docStart)), (mA13, .inl (cI, 25, .inl m_docDepth)), (mA14, .inl (cI, 25, .inl m_docNeed)), (mA15, .inl (cI, 25, .inl m_docMeant)), (mA16, .inl (cI, 60, .inl m_elemDoc)), (mA17, .inl (cI, 60, .inl m_elemType)), (mA18, .inl (cI, 60, .inl m_elemName)), (mA19, .inl (cI, 60, .inl m_elemNameLen)), (mA20, .inl (cI, 60, .inl m_elemContent)), (mA21, .inl (cI, 60, .inl m_elemChild)), (mA22, .inl (cI, 6, .inl m_deepDoc))] (.int (bI r)) := by
  refine pu_of (by decide) (Nat.le_of_ble_eq_true rfl) ?_
  intro p e s m below meth c ls S hr hlocks hN hK hP hl
  have hx := S.1
  have hb := S.2.1
  have hl : lv_has ls 2 [(0, .ref mA), (1, .int v1)] := hl
  unfold fM_isMark at h
  refine lv_aload_n hx hb dM_isMark_0 rfl (lv_at hl 0 rfl) ?_
  refine gf S hK hP 0 7 30 u_zM w_637 rfl rfl (by decide) rfl dM_isMark_1 ?_
  refine lv_iload_n hx hb dM_isMark_4 rfl (lv_at hl 1 rfl) ?_
  obtain ⟨b5, h⟩ := g_ok h
  refine va_iald hx hb hK hP 20 0 rfl rfl b5 dM_isMark_5 ?_
  refine lv_iconst (v := (2 : Int32)) hx hb dM_isMark_6 (by decide) ?_
  refine lv_icmp_ne (tgt := 48) hx hb dM_isMark_7 (by decide) (fun h7 => ?_) (fun h7 => ?_)
  · have h := g_f h h7
    refine lv_iconst (v := (0 : Int32)) hx hb dM_isMark_48 (by decide) ?_
    cases h
    exact pu_z S hr hlocks dM_isMark_49 rfl
  · have h := g_t h h7
    refine lv_aload_n hx hb dM_isMark_10 rfl (lv_at hl 0 rfl) ?_
    refine gf S hK hP 0 7 11 u_zM w_618 rfl rfl (by decide) rfl dM_isMark_11 ?_
    refine lv_aload_n hx hb dM_isMark_14 rfl (lv_at hl 0 rfl) ?_
    refine gf S hK hP 0 7 29 u_zM w_636 rfl rfl (by decide) rfl dM_isMark_15 ?_
    refine lv_iload_n hx hb dM_isMark_18 rfl (lv_at hl 1 rfl) ?_
    obtain ⟨b19, h⟩ := g_ok h
    refine va_iald hx hb hK hP 19 0 rfl rfl b19 dM_isMark_19 ?_
    obtain ⟨b20, h⟩ := g_ok h
    refine va_iald hx hb hK hP 8 0 rfl rfl b20 dM_isMark_20 ?_
    refine lv_bipush (v := (95 : Int32)) hx hb dM_isMark_21 (by decide) ?_
    refine lv_icmp_ne (tgt := 48) hx hb dM_isMark_23 (by decide) (fun h23 => ?_) (fun h23 => ?_)
    · have h := g_f h h23
      refine lv_iconst (v := (0 : Int32)) hx hb dM_isMark_48 (by decide) ?_
      cases h
      exact pu_z S hr hlocks dM_isMark_49 rfl
    · have h := g_t h h23
      refine lv_aload_n hx hb dM_isMark_26 rfl (lv_at hl 0 rfl) ?_
      refine gf S hK hP 0 7 11 u_zM w_618 rfl rfl (by decide) rfl dM_isMark_27 ?_
      refine lv_aload_n hx hb dM_isMark_30 rfl (lv_at hl 0 rfl) ?_
      refine gf S hK hP 0 7 29 u_zM w_636 rfl rfl (by decide) rfl dM_isMark_31 ?_
      refine lv_iload_n hx hb dM_isMark_34 rfl (lv_at hl 1 rfl) ?_
      obtain ⟨b35, h⟩ := g_ok h
      refine va_iald hx hb hK hP 19 0 rfl rfl b35 dM_isMark_35 ?_
      refine lv_iconst (v := (1 : Int32)) hx hb dM_isMark_36 (by decide) ?_
      refine lv_iadd hx hb dM_isMark_37 ?_
      obtain ⟨b38, h⟩ := g_ok h
      refine va_iald hx hb hK hP 8 0 rfl rfl b38 dM_isMark_38 ?_
      refine lv_bipush (v := (116 : Int32)) hx hb dM_isMark_39 (by decide) ?_
      refine lv_icmp_ne (tgt := 48) hx hb dM_isMark_41 (by decide) (fun h41 => ?_) (fun h41 => ?_)
      · have h := g_f h h41
        refine lv_iconst (v := (0 : Int32)) hx hb dM_isMark_48 (by decide) ?_
        cases h
        exact pu_z S hr hlocks dM_isMark_49 rfl
      · have h := g_t h h41
        refine lv_iconst (v := (1 : Int32)) hx hb dM_isMark_44 (by decide) ?_
        refine lv_goto (tgt := 49) hx hb dM_isMark_45 (by decide) ?_
        cases h
        exact pu_z S hr hlocks dM_isMark_49 rfl
def fM_isClass (v1 : Int32) (m_classes : Int32) : Option (Bool) :=
  if v1 < 0 then (some (false)) else (if m_classes ≤ v1 then (some (false)) else (some (true)))
set_option maxHeartbeats 4000000 in
set_option maxRecDepth 100000 in
theorem cM_isClass (l : Launch) (D : va_G) (cI cJ : ClassId) (mA mA0 mA1 mA2 mA3 mA4 mA5 mA6 mA7 mA8 mA9 mA10 mA11 mA12 mA13 mA14 mA15 mA16 mA17 mA18 mA19 mA20 mA21 mA22 : Nat) (v1 : Int32) (m_classes : Int32) (m_given : Int32) (m_count : Int32) (m_size : Int32) (m_len : Int32) (m_failed : Bool) (m_open : Int32) (m_at : Int32) (m_bad : Bool) (m_docs : Int32) (m_elems : Int32) (m_deep : Int32) (m_parent : (Nat → Int32)) (m_owner : (Nat → Int32)) (m_letters : (Nat → Int32)) (m_sorts : (Nat → Int32)) (m_targets : (Nat → Int32)) (m_cls : (Nat → Int32)) (m_held : (Nat → Int64)) (m_bytes : (Nat → Int32)) (m_out : (Nat → Int32)) (m_openObject : (Nat → Int32)) (m_openStart : (Nat → Int32)) (m_openNext : (Nat → Int32)) (m_docStart : (Nat → Int32)) (m_docDepth : (Nat → Int32)) (m_docNeed : (Nat → Int32)) (m_docMeant : (Nat → Int32)) (m_elemDoc : (Nat → Int32)) (m_elemType : (Nat → Int32)) (m_elemName : (Nat → Int32)) (m_elemNameLen : (Nat → Int32)) (m_elemContent : (Nat → Int32)) (m_elemChild : (Nat → Int32)) (m_deepDoc : (Nat → Int32)) (r : Bool) (h : fM_isClass v1 m_classes = some r) : Pu l yM_isClass bM_isClass 2 (some .boolean) (rL 0) [.ref mA, .int v1] D cI cJ [(mA, .inr (7, [.int m_classes, .ref mA0, .int m_given, .ref mA1, .ref mA2, .ref mA3, .ref mA4, .int m_count, .ref mA5, .ref mA6, .int m_size, .ref mA7, .int m_len, .int (bI m_failed), .ref mA8, .int m_open, .ref mA9, .ref mA10, .ref mA11, .int m_at, .int (bI m_bad), .int m_docs, .ref mA12, .ref mA13, .ref mA14, .ref mA15, .int m_elems, .ref mA16, .ref mA17, .ref mA18, .ref mA19, .ref mA20, .ref mA21, .int m_deep, .ref mA22])), (mA0, .inl (cI, 6, .inl m_parent)), (mA1, .inl (cI, 8, .inl m_owner)), (mA2, .inl (cI, 8, .inl m_letters)), (mA3, .inl (cI, 8, .inl m_sorts)), (mA4, .inl (cI, 8, .inl m_targets)), (mA5, .inl (cI, 12, .inl m_cls)), (mA6, .inl (cJ, 96, .inr (.inl m_held))), (mA7, .inl (cI, 120, .inl m_bytes)), (mA8, .inl (cI, 120, .inl m_out)), (mA9, .inl (cI, 5, .inl m_openObject)), (mA10, .inl (cI, 5, .inl m_openStart)), (mA11, .inl (cI, 5, .inl m_openNext)), (mA12, .inl (cI, 25, .inl m_docStart)), (mA13, .inl (cI, 25, .inl m_docDepth)), (mA14, .inl (cI, 25, .inl m_docNeed)), (mA15, .inl (cI, 25, .inl m_docMeant)), (mA16, .inl (cI, 60, .inl m_elemDoc)), (mA17, .inl (cI, 60, .inl m_elemType)), (mA18, .inl (cI, 60, .inl m_elemName)), (mA19, .inl (cI, 60, .inl m_elemNameLen)), (mA20, .inl (cI, 60, .inl m_elemContent)), (mA21, .inl (cI, 60, .inl m_elemChild)), (mA22, .inl (cI, 6, .inl m_deepDoc))] (.int (bI r)) := by
  refine pu_of (by decide) (Nat.le_of_ble_eq_true rfl) ?_
  intro p e s m below meth c ls S hr hlocks hN hK hP hl
  have hx := S.1
  have hb := S.2.1
  have hl : lv_has ls 2 [(0, .ref mA), (1, .int v1)] := hl
  unfold fM_isClass at h
  refine lv_iload_n hx hb dM_isClass_0 rfl (lv_at hl 1 rfl) ?_
  refine lv_if_lt (tgt := 16) hx hb dM_isClass_1 (by decide) (fun h1 => ?_) (fun h1 => ?_)
  · have h := g_t h h1
    refine lv_iconst (v := (0 : Int32)) hx hb dM_isClass_16 (by decide) ?_
    cases h
    exact pu_z S hr hlocks dM_isClass_17 rfl
  · have h := g_f h h1
    refine lv_iload_n hx hb dM_isClass_4 rfl (lv_at hl 1 rfl) ?_
    refine lv_aload_n hx hb dM_isClass_5 rfl (lv_at hl 0 rfl) ?_
    refine gf S hK hP 0 7 0 u_zM w_607 rfl rfl (by decide) rfl dM_isClass_6 ?_
    refine lv_icmp_ge (tgt := 16) hx hb dM_isClass_9 (by decide) (fun h9 => ?_) (fun h9 => ?_)
    · have h := g_t h h9
      refine lv_iconst (v := (0 : Int32)) hx hb dM_isClass_16 (by decide) ?_
      cases h
      exact pu_z S hr hlocks dM_isClass_17 rfl
    · have h := g_f h h9
      refine lv_iconst (v := (1 : Int32)) hx hb dM_isClass_12 (by decide) ?_
      refine lv_goto (tgt := 17) hx hb dM_isClass_13 (by decide) ?_
      cases h
      exact pu_z S hr hlocks dM_isClass_17 rfl
def fM_number (v1 : Int32) (m_bytes : (Nat → Int32)) : Option (Int32) :=
  if ok v1 120 = true then (if ok (v1 + (1 : Int32)) 120 = true then (if ok (v1 + (2 : Int32)) 120 = true then (if ok (v1 + (3 : Int32)) 120 = true then (some ((((m_bytes v1.toNatClampNeg) ||| ((m_bytes (v1 + (1 : Int32)).toNatClampNeg) <<< ((8 : Int32) &&& 31))) ||| ((m_bytes (v1 + (2 : Int32)).toNatClampNeg) <<< ((16 : Int32) &&& 31))) ||| ((m_bytes (v1 + (3 : Int32)).toNatClampNeg) <<< ((24 : Int32) &&& 31)))) else none) else none) else none) else none
set_option maxHeartbeats 4000000 in
set_option maxRecDepth 100000 in
theorem cM_number (l : Launch) (D : va_G) (cI cJ : ClassId) (mA mA0 mA1 mA2 mA3 mA4 mA5 mA6 mA7 mA8 mA9 mA10 mA11 mA12 mA13 mA14 mA15 mA16 mA17 mA18 mA19 mA20 mA21 mA22 : Nat) (v1 : Int32) (m_classes : Int32) (m_given : Int32) (m_count : Int32) (m_size : Int32) (m_len : Int32) (m_failed : Bool) (m_open : Int32) (m_at : Int32) (m_bad : Bool) (m_docs : Int32) (m_elems : Int32) (m_deep : Int32) (m_parent : (Nat → Int32)) (m_owner : (Nat → Int32)) (m_letters : (Nat → Int32)) (m_sorts : (Nat → Int32)) (m_targets : (Nat → Int32)) (m_cls : (Nat → Int32)) (m_held : (Nat → Int64)) (m_bytes : (Nat → Int32)) (m_out : (Nat → Int32)) (m_openObject : (Nat → Int32)) (m_openStart : (Nat → Int32)) (m_openNext : (Nat → Int32)) (m_docStart : (Nat → Int32)) (m_docDepth : (Nat → Int32)) (m_docNeed : (Nat → Int32)) (m_docMeant : (Nat → Int32)) (m_elemDoc : (Nat → Int32)) (m_elemType : (Nat → Int32)) (m_elemName : (Nat → Int32)) (m_elemNameLen : (Nat → Int32)) (m_elemContent : (Nat → Int32)) (m_elemChild : (Nat → Int32)) (m_deepDoc : (Nat → Int32)) (r : Int32) (h : fM_number v1 m_bytes = some r) : Pu l yM_number bM_number 2 (some .int) (rL 0) [.ref mA, .int v1] D cI cJ [(mA, .inr (7, [.int m_classes, .ref mA0, .int m_given, .ref mA1, .ref mA2, .ref mA3, .ref mA4, .int m_count, .ref mA5, .ref mA6, .int m_size, .ref mA7, .int m_len, .int (bI m_failed), .ref mA8, .int m_open, .ref mA9, .ref mA10, .ref mA11, .int m_at, .int (bI m_bad), .int m_docs, .ref mA12, .ref mA13, .ref mA14, .ref mA15, .int m_elems, .ref mA16, .ref mA17, .ref mA18, .ref mA19, .ref mA20, .ref mA21, .int m_deep, .ref mA22])), (mA0, .inl (cI, 6, .inl m_parent)), (mA1, .inl (cI, 8, .inl m_owner)), (mA2, .inl (cI, 8, .inl m_letters)), (mA3, .inl (cI, 8, .inl m_sorts)), (mA4, .inl (cI, 8, .inl m_targets)), (mA5, .inl (cI, 12, .inl m_cls)), (mA6, .inl (cJ, 96, .inr (.inl m_held))), (mA7, .inl (cI, 120, .inl m_bytes)), (mA8, .inl (cI, 120, .inl m_out)), (mA9, .inl (cI, 5, .inl m_openObject)), (mA10, .inl (cI, 5, .inl m_openStart)), (mA11, .inl (cI, 5, .inl m_openNext)), (mA12, .inl (cI, 25, .inl m_docStart)), (mA13, .inl (cI, 25, .inl m_docDepth)), (mA14, .inl (cI, 25, .inl m_docNeed)), (mA15, .inl (cI, 25, .inl m_docMeant)), (mA16, .inl (cI, 60, .inl m_elemDoc)), (mA17, .inl (cI, 60, .inl m_elemType)), (mA18, .inl (cI, 60, .inl m_elemName)), (mA19, .inl (cI, 60, .inl m_elemNameLen)), (mA20, .inl (cI, 60, .inl m_elemContent)), (mA21, .inl (cI, 60, .inl m_elemChild)), (mA22, .inl (cI, 6, .inl m_deepDoc))] (.int r) := by
  refine pu_of (by decide) (Nat.le_of_ble_eq_true rfl) ?_
  intro p e s m below meth c ls S hr hlocks hN hK hP hl
  have hx := S.1
  have hb := S.2.1
  have hl : lv_has ls 2 [(0, .ref mA), (1, .int v1)] := hl
  unfold fM_number at h
  refine lv_aload_n hx hb dM_number_0 rfl (lv_at hl 0 rfl) ?_
  refine gf S hK hP 0 7 11 u_zM w_618 rfl rfl (by decide) rfl dM_number_1 ?_
  refine lv_iload_n hx hb dM_number_4 rfl (lv_at hl 1 rfl) ?_
  obtain ⟨b5, h⟩ := g_ok h
  refine va_iald hx hb hK hP 8 0 rfl rfl b5 dM_number_5 ?_
  refine lv_aload_n hx hb dM_number_6 rfl (lv_at hl 0 rfl) ?_
  refine gf S hK hP 0 7 11 u_zM w_618 rfl rfl (by decide) rfl dM_number_7 ?_
  refine lv_iload_n hx hb dM_number_10 rfl (lv_at hl 1 rfl) ?_
  refine lv_iconst (v := (1 : Int32)) hx hb dM_number_11 (by decide) ?_
  refine lv_iadd hx hb dM_number_12 ?_
  obtain ⟨b13, h⟩ := g_ok h
  refine va_iald hx hb hK hP 8 0 rfl rfl b13 dM_number_13 ?_
  refine lv_bipush (v := (8 : Int32)) hx hb dM_number_14 (by decide) ?_
  refine lv_ishl hx hb dM_number_16 ?_
  refine lv_ior hx hb dM_number_17 ?_
  refine lv_aload_n hx hb dM_number_18 rfl (lv_at hl 0 rfl) ?_
  refine gf S hK hP 0 7 11 u_zM w_618 rfl rfl (by decide) rfl dM_number_19 ?_
  refine lv_iload_n hx hb dM_number_22 rfl (lv_at hl 1 rfl) ?_
  refine lv_iconst (v := (2 : Int32)) hx hb dM_number_23 (by decide) ?_
  refine lv_iadd hx hb dM_number_24 ?_
  obtain ⟨b25, h⟩ := g_ok h
  refine va_iald hx hb hK hP 8 0 rfl rfl b25 dM_number_25 ?_
  refine lv_bipush (v := (16 : Int32)) hx hb dM_number_26 (by decide) ?_
  refine lv_ishl hx hb dM_number_28 ?_
  refine lv_ior hx hb dM_number_29 ?_
  refine lv_aload_n hx hb dM_number_30 rfl (lv_at hl 0 rfl) ?_
  refine gf S hK hP 0 7 11 u_zM w_618 rfl rfl (by decide) rfl dM_number_31 ?_
  refine lv_iload_n hx hb dM_number_34 rfl (lv_at hl 1 rfl) ?_
  refine lv_iconst (v := (3 : Int32)) hx hb dM_number_35 (by decide) ?_
  refine lv_iadd hx hb dM_number_36 ?_
  obtain ⟨b37, h⟩ := g_ok h
  refine va_iald hx hb hK hP 8 0 rfl rfl b37 dM_number_37 ?_
  refine lv_bipush (v := (24 : Int32)) hx hb dM_number_38 (by decide) ?_
  refine lv_ishl hx hb dM_number_40 ?_
  refine lv_ior hx hb dM_number_41 ?_
  cases h
  exact pu_i S hr hlocks dM_number_42 rfl
def fM_mean_16 (N : Nat) (v1 : Int32) (m_classes : Int32) (m_elems : Int32) (m_parent : (Nat → Int32)) (m_bytes : (Nat → Int32)) (m_docNeed : (Nat → Int32)) (m_elemDoc : (Nat → Int32)) (m_elemType : (Nat → Int32)) (m_elemName : (Nat → Int32)) (m_elemNameLen : (Nat → Int32)) (m_elemContent : (Nat → Int32)) (rc16 : Int32 × Int32 × (Nat → Int32) → Option (Bool × (Nat → Int32))) (v2 : Int32) (v3 : Int32) (m_docMeant : (Nat → Int32)) : Option (Bool × (Nat → Int32)) :=
  if m_elems ≤ v3 then (if (1 : Int32) < v2 then (some (false, m_docMeant)) else (some (true, m_docMeant))) else (if ok v3 60 = true then (if (m_elemDoc v3.toNatClampNeg) = v1 then ((fM_isMark v3 m_bytes m_elemName m_elemNameLen).bind fun u36 => (if u36 = true then (if ok v3 60 = true then (if (m_elemType v3.toNatClampNeg) = (2 : Int32) then (if ok v3 60 = true then ((fM_number (m_elemContent v3.toNatClampNeg) m_bytes).bind fun u62 => (if u62 = (2 : Int32) then (if ok v3 60 = true then (if ok ((m_elemContent v3.toNatClampNeg) + (4 : Int32)) 120 = true then ((fM_isClass ((m_bytes ((m_elemContent v3.toNatClampNeg) + (4 : Int32)).toNatClampNeg) - (65 : Int32)) m_classes).bind fun u92 => (if u92 = true then (if ok v1 25 = true then ((fM_isKind N ((m_bytes ((m_elemContent v3.toNatClampNeg) + (4 : Int32)).toNatClampNeg) - (65 : Int32)) (m_docNeed v1.toNatClampNeg) m_parent).bind fun u107 => (if u107 = true then (if ok v1 25 = true then (rc16 (v2 + (1 : Int32), v3 + (1 : Int32), upd m_docMeant v1.toNatClampNeg ((m_bytes ((m_elemContent v3.toNatClampNeg) + (4 : Int32)).toNatClampNeg) - (65 : Int32)))) else none) else (some (false, m_docMeant)))) else none) else (some (false, m_docMeant)))) else none) else none) else (some (false, m_docMeant)))) else none) else (some (false, m_docMeant))) else none) else (rc16 (v2, v3 + (1 : Int32), m_docMeant)))) else (rc16 (v2, v3 + (1 : Int32), m_docMeant))) else none)
def fM_mean_16l (N : Nat) (v1 : Int32) (m_classes : Int32) (m_elems : Int32) (m_parent : (Nat → Int32)) (m_bytes : (Nat → Int32)) (m_docNeed : (Nat → Int32)) (m_elemDoc : (Nat → Int32)) (m_elemType : (Nat → Int32)) (m_elemName : (Nat → Int32)) (m_elemNameLen : (Nat → Int32)) (m_elemContent : (Nat → Int32)) : Nat → Int32 × Int32 × (Nat → Int32) → Option (Bool × (Nat → Int32)) := lp (fun rc a => fM_mean_16 N v1 m_classes m_elems m_parent m_bytes m_docNeed m_elemDoc m_elemType m_elemName m_elemNameLen m_elemContent rc a.1 a.2.1 a.2.2)
def fM_mean (N : Nat) (v1 : Int32) (m_classes : Int32) (m_elems : Int32) (m_parent : (Nat → Int32)) (m_bytes : (Nat → Int32)) (m_docNeed : (Nat → Int32)) (m_docMeant : (Nat → Int32)) (m_elemDoc : (Nat → Int32)) (m_elemType : (Nat → Int32)) (m_elemName : (Nat → Int32)) (m_elemNameLen : (Nat → Int32)) (m_elemContent : (Nat → Int32)) : Option (Bool × (Nat → Int32)) :=
  if ok v1 25 = true then (if ok v1 25 = true then (fM_mean_16l N v1 m_classes m_elems m_parent m_bytes m_docNeed m_elemDoc m_elemType m_elemName m_elemNameLen m_elemContent N ((0 : Int32), (0 : Int32), upd m_docMeant v1.toNatClampNeg (m_docNeed v1.toNatClampNeg))) else none) else none
set_option maxHeartbeats 4000000 in
set_option maxRecDepth 100000 in
theorem cM_mean (l : Launch) (D : va_G) (cI cJ : ClassId) (mA mA0 mA1 mA2 mA3 mA4 mA5 mA6 mA7 mA8 mA9 mA10 mA11 mA12 mA13 mA14 mA15 mA16 mA17 mA18 mA19 mA20 mA21 mA22 : Nat) (N : Nat) (v1 : Int32) (m_classes : Int32) (m_given : Int32) (m_count : Int32) (m_size : Int32) (m_len : Int32) (m_failed : Bool) (m_open : Int32) (m_at : Int32) (m_bad : Bool) (m_docs : Int32) (m_elems : Int32) (m_deep : Int32) (m_parent : (Nat → Int32)) (m_owner : (Nat → Int32)) (m_letters : (Nat → Int32)) (m_sorts : (Nat → Int32)) (m_targets : (Nat → Int32)) (m_cls : (Nat → Int32)) (m_held : (Nat → Int64)) (m_bytes : (Nat → Int32)) (m_out : (Nat → Int32)) (m_openObject : (Nat → Int32)) (m_openStart : (Nat → Int32)) (m_openNext : (Nat → Int32)) (m_docStart : (Nat → Int32)) (m_docDepth : (Nat → Int32)) (m_docNeed : (Nat → Int32)) (m_docMeant : (Nat → Int32)) (m_elemDoc : (Nat → Int32)) (m_elemType : (Nat → Int32)) (m_elemName : (Nat → Int32)) (m_elemNameLen : (Nat → Int32)) (m_elemContent : (Nat → Int32)) (m_elemChild : (Nat → Int32)) (m_deepDoc : (Nat → Int32)) (r : Bool × (Nat → Int32)) (h : fM_mean N v1 m_classes m_elems m_parent m_bytes m_docNeed m_docMeant m_elemDoc m_elemType m_elemName m_elemNameLen m_elemContent = some r) : Mu l yM_mean bM_mean 5 (some .boolean) (rL 1) [.ref mA, .int v1] D cI cJ [(mA, .inr (7, [.int m_classes, .ref mA0, .int m_given, .ref mA1, .ref mA2, .ref mA3, .ref mA4, .int m_count, .ref mA5, .ref mA6, .int m_size, .ref mA7, .int m_len, .int (bI m_failed), .ref mA8, .int m_open, .ref mA9, .ref mA10, .ref mA11, .int m_at, .int (bI m_bad), .int m_docs, .ref mA12, .ref mA13, .ref mA14, .ref mA15, .int m_elems, .ref mA16, .ref mA17, .ref mA18, .ref mA19, .ref mA20, .ref mA21, .int m_deep, .ref mA22])), (mA0, .inl (cI, 6, .inl m_parent)), (mA1, .inl (cI, 8, .inl m_owner)), (mA2, .inl (cI, 8, .inl m_letters)), (mA3, .inl (cI, 8, .inl m_sorts)), (mA4, .inl (cI, 8, .inl m_targets)), (mA5, .inl (cI, 12, .inl m_cls)), (mA6, .inl (cJ, 96, .inr (.inl m_held))), (mA7, .inl (cI, 120, .inl m_bytes)), (mA8, .inl (cI, 120, .inl m_out)), (mA9, .inl (cI, 5, .inl m_openObject)), (mA10, .inl (cI, 5, .inl m_openStart)), (mA11, .inl (cI, 5, .inl m_openNext)), (mA12, .inl (cI, 25, .inl m_docStart)), (mA13, .inl (cI, 25, .inl m_docDepth)), (mA14, .inl (cI, 25, .inl m_docNeed)), (mA15, .inl (cI, 25, .inl m_docMeant)), (mA16, .inl (cI, 60, .inl m_elemDoc)), (mA17, .inl (cI, 60, .inl m_elemType)), (mA18, .inl (cI, 60, .inl m_elemName)), (mA19, .inl (cI, 60, .inl m_elemNameLen)), (mA20, .inl (cI, 60, .inl m_elemContent)), (mA21, .inl (cI, 60, .inl m_elemChild)), (mA22, .inl (cI, 6, .inl m_deepDoc))] (some (.int (bI r.1))) [(mA, .inr (7, [.int m_classes, .ref mA0, .int m_given, .ref mA1, .ref mA2, .ref mA3, .ref mA4, .int m_count, .ref mA5, .ref mA6, .int m_size, .ref mA7, .int m_len, .int (bI m_failed), .ref mA8, .int m_open, .ref mA9, .ref mA10, .ref mA11, .int m_at, .int (bI m_bad), .int m_docs, .ref mA12, .ref mA13, .ref mA14, .ref mA15, .int m_elems, .ref mA16, .ref mA17, .ref mA18, .ref mA19, .ref mA20, .ref mA21, .int m_deep, .ref mA22])), (mA0, .inl (cI, 6, .inl m_parent)), (mA1, .inl (cI, 8, .inl m_owner)), (mA2, .inl (cI, 8, .inl m_letters)), (mA3, .inl (cI, 8, .inl m_sorts)), (mA4, .inl (cI, 8, .inl m_targets)), (mA5, .inl (cI, 12, .inl m_cls)), (mA6, .inl (cJ, 96, .inr (.inl m_held))), (mA7, .inl (cI, 120, .inl m_bytes)), (mA8, .inl (cI, 120, .inl m_out)), (mA9, .inl (cI, 5, .inl m_openObject)), (mA10, .inl (cI, 5, .inl m_openStart)), (mA11, .inl (cI, 5, .inl m_openNext)), (mA12, .inl (cI, 25, .inl m_docStart)), (mA13, .inl (cI, 25, .inl m_docDepth)), (mA14, .inl (cI, 25, .inl m_docNeed)), (mA15, .inl (cI, 25, .inl r.2)), (mA16, .inl (cI, 60, .inl m_elemDoc)), (mA17, .inl (cI, 60, .inl m_elemType)), (mA18, .inl (cI, 60, .inl m_elemName)), (mA19, .inl (cI, 60, .inl m_elemNameLen)), (mA20, .inl (cI, 60, .inl m_elemContent)), (mA21, .inl (cI, 60, .inl m_elemChild)), (mA22, .inl (cI, 6, .inl m_deepDoc))] := by
  refine mu_of (by decide) (Nat.le_of_ble_eq_true rfl) ?_
  intro p e s m below meth c ls A S hr hlocks hN hK hP hD hA hl
  have hS : va_S A s.heap s.heap [] := va_S.rf
  have hx := S.1
  have hb := S.2.1
  have hl : lv_has ls 5 [(0, .ref mA), (1, .int v1)] := hl
  unfold fM_mean at h
  have t16 : ∀ (k : Nat) (a : Int32 × Int32 × (Nat → Int32)), fM_mean_16l N v1 m_classes m_elems m_parent m_bytes m_docNeed m_elemDoc m_elemType m_elemName m_elemNameLen m_elemContent k a = some r → ∀ (ls : Array Slot) (H : Heap) (locs : List Loc), lv_has ls 5 [(0, .ref mA), (1, .int v1), (2, .int a.1), (3, .int a.2.1)] → va_P D cs [(mA, .inr (7, [.int m_classes, .ref mA0, .int m_given, .ref mA1, .ref mA2, .ref mA3, .ref mA4, .int m_count, .ref mA5, .ref mA6, .int m_size, .ref mA7, .int m_len, .int (bI m_failed), .ref mA8, .int m_open, .ref mA9, .ref mA10, .ref mA11, .int m_at, .int (bI m_bad), .int m_docs, .ref mA12, .ref mA13, .ref mA14, .ref mA15, .int m_elems, .ref mA16, .ref mA17, .ref mA18, .ref mA19, .ref mA20, .ref mA21, .int m_deep, .ref mA22])), (mA0, .inl (cI, 6, .inl m_parent)), (mA1, .inl (cI, 8, .inl m_owner)), (mA2, .inl (cI, 8, .inl m_letters)), (mA3, .inl (cI, 8, .inl m_sorts)), (mA4, .inl (cI, 8, .inl m_targets)), (mA5, .inl (cI, 12, .inl m_cls)), (mA6, .inl (cJ, 96, .inr (.inl m_held))), (mA7, .inl (cI, 120, .inl m_bytes)), (mA8, .inl (cI, 120, .inl m_out)), (mA9, .inl (cI, 5, .inl m_openObject)), (mA10, .inl (cI, 5, .inl m_openStart)), (mA11, .inl (cI, 5, .inl m_openNext)), (mA12, .inl (cI, 25, .inl m_docStart)), (mA13, .inl (cI, 25, .inl m_docDepth)), (mA14, .inl (cI, 25, .inl m_docNeed)), (mA15, .inl (cI, 25, .inl a.2.2)), (mA16, .inl (cI, 60, .inl m_elemDoc)), (mA17, .inl (cI, 60, .inl m_elemType)), (mA18, .inl (cI, 60, .inl m_elemName)), (mA19, .inl (cI, 60, .inl m_elemNameLen)), (mA20, .inl (cI, 60, .inl m_elemContent)), (mA21, .inl (cI, 60, .inl m_elemChild)), (mA22, .inl (cI, 6, .inl m_deepDoc))] H → va_D A [(mA, .inr (7, [.int m_classes, .ref mA0, .int m_given, .ref mA1, .ref mA2, .ref mA3, .ref mA4, .int m_count, .ref mA5, .ref mA6, .int m_size, .ref mA7, .int m_len, .int (bI m_failed), .ref mA8, .int m_open, .ref mA9, .ref mA10, .ref mA11, .int m_at, .int (bI m_bad), .int m_docs, .ref mA12, .ref mA13, .ref mA14, .ref mA15, .int m_elems, .ref mA16, .ref mA17, .ref mA18, .ref mA19, .ref mA20, .ref mA21, .int m_deep, .ref mA22])), (mA0, .inl (cI, 6, .inl m_parent)), (mA1, .inl (cI, 8, .inl m_owner)), (mA2, .inl (cI, 8, .inl m_letters)), (mA3, .inl (cI, 8, .inl m_sorts)), (mA4, .inl (cI, 8, .inl m_targets)), (mA5, .inl (cI, 12, .inl m_cls)), (mA6, .inl (cJ, 96, .inr (.inl m_held))), (mA7, .inl (cI, 120, .inl m_bytes)), (mA8, .inl (cI, 120, .inl m_out)), (mA9, .inl (cI, 5, .inl m_openObject)), (mA10, .inl (cI, 5, .inl m_openStart)), (mA11, .inl (cI, 5, .inl m_openNext)), (mA12, .inl (cI, 25, .inl m_docStart)), (mA13, .inl (cI, 25, .inl m_docDepth)), (mA14, .inl (cI, 25, .inl m_docNeed)), (mA15, .inl (cI, 25, .inl a.2.2)), (mA16, .inl (cI, 60, .inl m_elemDoc)), (mA17, .inl (cI, 60, .inl m_elemType)), (mA18, .inl (cI, 60, .inl m_elemName)), (mA19, .inl (cI, 60, .inl m_elemNameLen)), (mA20, .inl (cI, 60, .inl m_elemContent)), (mA21, .inl (cI, 60, .inl m_elemChild)), (mA22, .inl (cI, 6, .inl m_deepDoc))] → va_S A s.heap H locs → W p l e (rL 1) s m ([.ref mA, .int v1] : List Value).toArray below meth c H locs 0 0 (MQ below (fun _ st oc t => (oc = .returned (some (.int (bI r.1))) ∧ va_P D cs [(mA, .inr (7, [.int m_classes, .ref mA0, .int m_given, .ref mA1, .ref mA2, .ref mA3, .ref mA4, .int m_count, .ref mA5, .ref mA6, .int m_size, .ref mA7, .int m_len, .int (bI m_failed), .ref mA8, .int m_open, .ref mA9, .ref mA10, .ref mA11, .int m_at, .int (bI m_bad), .int m_docs, .ref mA12, .ref mA13, .ref mA14, .ref mA15, .int m_elems, .ref mA16, .ref mA17, .ref mA18, .ref mA19, .ref mA20, .ref mA21, .int m_deep, .ref mA22])), (mA0, .inl (cI, 6, .inl m_parent)), (mA1, .inl (cI, 8, .inl m_owner)), (mA2, .inl (cI, 8, .inl m_letters)), (mA3, .inl (cI, 8, .inl m_sorts)), (mA4, .inl (cI, 8, .inl m_targets)), (mA5, .inl (cI, 12, .inl m_cls)), (mA6, .inl (cJ, 96, .inr (.inl m_held))), (mA7, .inl (cI, 120, .inl m_bytes)), (mA8, .inl (cI, 120, .inl m_out)), (mA9, .inl (cI, 5, .inl m_openObject)), (mA10, .inl (cI, 5, .inl m_openStart)), (mA11, .inl (cI, 5, .inl m_openNext)), (mA12, .inl (cI, 25, .inl m_docStart)), (mA13, .inl (cI, 25, .inl m_docDepth)), (mA14, .inl (cI, 25, .inl m_docNeed)), (mA15, .inl (cI, 25, .inl r.2)), (mA16, .inl (cI, 60, .inl m_elemDoc)), (mA17, .inl (cI, 60, .inl m_elemType)), (mA18, .inl (cI, 60, .inl m_elemName)), (mA19, .inl (cI, 60, .inl m_elemNameLen)), (mA20, .inl (cI, 60, .inl m_elemContent)), (mA21, .inl (cI, 60, .inl m_elemChild)), (mA22, .inl (cI, 6, .inl m_deepDoc))] t.heap) ∧ va_F A st t) ([.ref mA, .int v1] : List Value).toArray s 0 0 A) (F0 m 16 ls []) := by
    unfold fM_mean_16l
    refine lp_some ?_
    intro rc16 hrc16 a h
    obtain ⟨v2, v3, m_docMeant⟩ := a
    intro ls H locs hl hP hD hS
    have h : fM_mean_16 N v1 m_classes m_elems m_parent m_bytes m_docNeed m_elemDoc m_elemType m_elemName m_elemNameLen m_elemContent rc16 v2 v3 m_docMeant = some r := h
    have hl : lv_has ls 5 [(0, .ref mA), (1, .int v1), (2, .int v2), (3, .int v3)] := hl
    have hP : va_P D cs [(mA, .inr (7, [.int m_classes, .ref mA0, .int m_given, .ref mA1, .ref mA2, .ref mA3, .ref mA4, .int m_count, .ref mA5, .ref mA6, .int m_size, .ref mA7, .int m_len, .int (bI m_failed), .ref mA8, .int m_open, .ref mA9, .ref mA10, .ref mA11, .int m_at, .int (bI m_bad), .int m_docs, .ref mA12, .ref mA13, .ref mA14, .ref mA15, .int m_elems, .ref mA16, .ref mA17, .ref mA18, .ref mA19, .ref mA20, .ref mA21, .int m_deep, .ref mA22])), (mA0, .inl (cI, 6, .inl m_parent)), (mA1, .inl (cI, 8, .inl m_owner)), (mA2, .inl (cI, 8, .inl m_letters)), (mA3, .inl (cI, 8, .inl m_sorts)), (mA4, .inl (cI, 8, .inl m_targets)), (mA5, .inl (cI, 12, .inl m_cls)), (mA6, .inl (cJ, 96, .inr (.inl m_held))), (mA7, .inl (cI, 120, .inl m_bytes)), (mA8, .inl (cI, 120, .inl m_out)), (mA9, .inl (cI, 5, .inl m_openObject)), (mA10, .inl (cI, 5, .inl m_openStart)), (mA11, .inl (cI, 5, .inl m_openNext)), (mA12, .inl (cI, 25, .inl m_docStart)), (mA13, .inl (cI, 25, .inl m_docDepth)), (mA14, .inl (cI, 25, .inl m_docNeed)), (mA15, .inl (cI, 25, .inl m_docMeant)), (mA16, .inl (cI, 60, .inl m_elemDoc)), (mA17, .inl (cI, 60, .inl m_elemType)), (mA18, .inl (cI, 60, .inl m_elemName)), (mA19, .inl (cI, 60, .inl m_elemNameLen)), (mA20, .inl (cI, 60, .inl m_elemContent)), (mA21, .inl (cI, 60, .inl m_elemChild)), (mA22, .inl (cI, 6, .inl m_deepDoc))] H := hP
    have hD : va_D A [(mA, .inr (7, [.int m_classes, .ref mA0, .int m_given, .ref mA1, .ref mA2, .ref mA3, .ref mA4, .int m_count, .ref mA5, .ref mA6, .int m_size, .ref mA7, .int m_len, .int (bI m_failed), .ref mA8, .int m_open, .ref mA9, .ref mA10, .ref mA11, .int m_at, .int (bI m_bad), .int m_docs, .ref mA12, .ref mA13, .ref mA14, .ref mA15, .int m_elems, .ref mA16, .ref mA17, .ref mA18, .ref mA19, .ref mA20, .ref mA21, .int m_deep, .ref mA22])), (mA0, .inl (cI, 6, .inl m_parent)), (mA1, .inl (cI, 8, .inl m_owner)), (mA2, .inl (cI, 8, .inl m_letters)), (mA3, .inl (cI, 8, .inl m_sorts)), (mA4, .inl (cI, 8, .inl m_targets)), (mA5, .inl (cI, 12, .inl m_cls)), (mA6, .inl (cJ, 96, .inr (.inl m_held))), (mA7, .inl (cI, 120, .inl m_bytes)), (mA8, .inl (cI, 120, .inl m_out)), (mA9, .inl (cI, 5, .inl m_openObject)), (mA10, .inl (cI, 5, .inl m_openStart)), (mA11, .inl (cI, 5, .inl m_openNext)), (mA12, .inl (cI, 25, .inl m_docStart)), (mA13, .inl (cI, 25, .inl m_docDepth)), (mA14, .inl (cI, 25, .inl m_docNeed)), (mA15, .inl (cI, 25, .inl m_docMeant)), (mA16, .inl (cI, 60, .inl m_elemDoc)), (mA17, .inl (cI, 60, .inl m_elemType)), (mA18, .inl (cI, 60, .inl m_elemName)), (mA19, .inl (cI, 60, .inl m_elemNameLen)), (mA20, .inl (cI, 60, .inl m_elemContent)), (mA21, .inl (cI, 60, .inl m_elemChild)), (mA22, .inl (cI, 6, .inl m_deepDoc))] := hD
    unfold fM_mean_16 at h
    refine lv_iload_n hx hb dM_mean_16 rfl (lv_at hl 3 rfl) ?_
    refine lv_aload_n hx hb dM_mean_17 rfl (lv_at hl 0 rfl) ?_
    refine gf S hK hP 0 7 26 u_zM w_633 rfl rfl (by decide) rfl dM_mean_18 ?_
    refine lv_icmp_ge (tgt := 129) hx hb dM_mean_21 (by decide) (fun h21 => ?_) (fun h21 => ?_)
    · have h := g_t h h21
      refine lv_iload_n hx hb dM_mean_129 rfl (lv_at hl 2 rfl) ?_
      refine lv_iconst (v := (1 : Int32)) hx hb dM_mean_130 (by decide) ?_
      refine lv_icmp_gt (tgt := 138) hx hb dM_mean_131 (by decide) (fun h131 => ?_) (fun h131 => ?_)
      · have h := g_t h h131
        refine lv_iconst (v := (0 : Int32)) hx hb dM_mean_138 (by decide) ?_
        cases h
        exact mu_z S hr hlocks hP hS dM_mean_139 rfl rfl
      · have h := g_f h h131
        refine lv_iconst (v := (1 : Int32)) hx hb dM_mean_134 (by decide) ?_
        refine lv_goto (tgt := 139) hx hb dM_mean_135 (by decide) ?_
        cases h
        exact mu_z S hr hlocks hP hS dM_mean_139 rfl rfl
    · have h := g_f h h21
      refine lv_aload_n hx hb dM_mean_24 rfl (lv_at hl 0 rfl) ?_
      refine gf S hK hP 0 7 27 u_zM w_634 rfl rfl (by decide) rfl dM_mean_25 ?_
      refine lv_iload_n hx hb dM_mean_28 rfl (lv_at hl 3 rfl) ?_
      obtain ⟨b29, h⟩ := g_ok h
      refine va_iald hx hb hK hP 17 0 rfl rfl b29 dM_mean_29 ?_
      refine lv_iload_n hx hb dM_mean_30 rfl (lv_at hl 1 rfl) ?_
      refine lv_icmp_ne (tgt := 123) hx hb dM_mean_31 (by decide) (fun h31 => ?_) (fun h31 => ?_)
      · have h := g_f h h31
        refine lv_iinc (k := 3) (v := v3 + (1 : Int32)) (lv' := [(3, .int (v3 + (1 : Int32))), (0, .ref mA), (1, .int v1), (2, .int v2)]) hx hb dM_mean_123 hl rfl (congrArg (v3 + ·) (by decide : Int32.ofInt (1) = (1 : Int32))) (Nat.le_of_ble_eq_true rfl) rfl (fun ls hl => ?_)
        refine lv_goto (tgt := 16) hx hb dM_mean_126 (by decide) ?_
        exact hrc16 (v2, v3 + (1 : Int32), m_docMeant) h _ _ _ (lv_sub hl [1, 2, 3, 0] rfl) hP hD hS
      · have h := g_t h h31
        refine lv_aload_n hx hb dM_mean_34 rfl (lv_at hl 0 rfl) ?_
        refine lv_iload_n hx hb dM_mean_35 rfl (lv_at hl 3 rfl) ?_
        obtain ⟨u36, e36, h⟩ := g_bind h
        refine pu_v S hN hK hP (rest := []) (cM_isMark l D cI cJ mA mA0 mA1 mA2 mA3 mA4 mA5 mA6 mA7 mA8 mA9 mA10 mA11 mA12 mA13 mA14 mA15 mA16 mA17 mA18 mA19 mA20 mA21 mA22 v3 m_classes m_given m_count m_size m_len m_failed m_open m_at m_bad m_docs m_elems m_deep m_parent m_owner m_letters m_sorts m_targets m_cls m_held m_bytes m_out m_openObject m_openStart m_openNext m_docStart m_docDepth m_docNeed m_docMeant m_elemDoc m_elemType m_elemName m_elemNameLen m_elemContent m_elemChild m_deepDoc u36 e36) k_M_197 [0, 1, 2, 3, 4, 5, 6, 7, 8, 9, 10, 11, 12, 13, 14, 15, 16, 17, 18, 19, 20, 21, 22, 23] rfl 7 rfl rfl ⟨rfl, rfl⟩ ⟨Nat.le_of_ble_eq_true rfl, Nat.le_of_ble_eq_true rfl⟩ rfl hl.1 (Nat.le_of_ble_eq_true rfl) ⟨Nat.le_refl _, Nat.le_refl _⟩ dM_mean_36 rfl ?_
        refine b_ifeq (tgt := 123) hx hb dM_mean_39 (by decide) (fun h39 => ?_) (fun h39 => ?_)
        · have h := g_f h h39
          refine lv_iinc (k := 3) (v := v3 + (1 : Int32)) (lv' := [(3, .int (v3 + (1 : Int32))), (0, .ref mA), (1, .int v1), (2, .int v2)]) hx hb dM_mean_123 hl rfl (congrArg (v3 + ·) (by decide : Int32.ofInt (1) = (1 : Int32))) (Nat.le_of_ble_eq_true rfl) rfl (fun ls hl => ?_)
          refine lv_goto (tgt := 16) hx hb dM_mean_126 (by decide) ?_
          exact hrc16 (v2, v3 + (1 : Int32), m_docMeant) h _ _ _ (lv_sub hl [1, 2, 3, 0] rfl) hP hD hS
        · have h := g_t h h39
          refine lv_iinc (k := 2) (v := v2 + (1 : Int32)) (lv' := [(2, .int (v2 + (1 : Int32))), (0, .ref mA), (1, .int v1), (3, .int v3)]) hx hb dM_mean_42 hl rfl (congrArg (v2 + ·) (by decide : Int32.ofInt (1) = (1 : Int32))) (Nat.le_of_ble_eq_true rfl) rfl (fun ls hl => ?_)
          refine lv_aload_n hx hb dM_mean_45 rfl (lv_at hl 1 rfl) ?_
          refine gf S hK hP 0 7 28 u_zM w_635 rfl rfl (by decide) rfl dM_mean_46 ?_
          refine lv_iload_n hx hb dM_mean_49 rfl (lv_at hl 3 rfl) ?_
          obtain ⟨b50, h⟩ := g_ok h
          refine va_iald hx hb hK hP 18 0 rfl rfl b50 dM_mean_50 ?_
          refine lv_iconst (v := (2 : Int32)) hx hb dM_mean_51 (by decide) ?_
          refine lv_icmp_ne (tgt := 69) hx hb dM_mean_52 (by decide) (fun h52 => ?_) (fun h52 => ?_)
          · have h := g_f h h52
            refine lv_iconst (v := (0 : Int32)) hx hb dM_mean_69 (by decide) ?_
            cases h
            exact mu_z S hr hlocks hP hS dM_mean_70 rfl rfl
          · have h := g_t h h52
            refine lv_aload_n hx hb dM_mean_55 rfl (lv_at hl 1 rfl) ?_
            refine lv_aload_n hx hb dM_mean_56 rfl (lv_at hl 1 rfl) ?_
            refine gf S hK hP 0 7 31 u_zM w_638 rfl rfl (by decide) rfl dM_mean_57 ?_
            refine lv_iload_n hx hb dM_mean_60 rfl (lv_at hl 3 rfl) ?_
            obtain ⟨b61, h⟩ := g_ok h
            refine va_iald hx hb hK hP 21 0 rfl rfl b61 dM_mean_61 ?_
            obtain ⟨u62, e62, h⟩ := g_bind h
            refine pu_v S hN hK hP (rest := []) (cM_number l D cI cJ mA mA0 mA1 mA2 mA3 mA4 mA5 mA6 mA7 mA8 mA9 mA10 mA11 mA12 mA13 mA14 mA15 mA16 mA17 mA18 mA19 mA20 mA21 mA22 (m_elemContent v3.toNatClampNeg) m_classes m_given m_count m_size m_len m_failed m_open m_at m_bad m_docs m_elems m_deep m_parent m_owner m_letters m_sorts m_targets m_cls m_held m_bytes m_out m_openObject m_openStart m_openNext m_docStart m_docDepth m_docNeed m_docMeant m_elemDoc m_elemType m_elemName m_elemNameLen m_elemContent m_elemChild m_deepDoc u62 e62) k_M_183 [0, 1, 2, 3, 4, 5, 6, 7, 8, 9, 10, 11, 12, 13, 14, 15, 16, 17, 18, 19, 20, 21, 22, 23] rfl 7 rfl rfl ⟨rfl, rfl⟩ ⟨Nat.le_of_ble_eq_true rfl, Nat.le_of_ble_eq_true rfl⟩ rfl hl.1 (Nat.le_of_ble_eq_true rfl) ⟨Nat.le_refl _, Nat.le_refl _⟩ dM_mean_62 rfl ?_
            refine lv_iconst (v := (2 : Int32)) hx hb dM_mean_65 (by decide) ?_
            refine lv_icmp_eq (tgt := 71) hx hb dM_mean_66 (by decide) (fun h66 => ?_) (fun h66 => ?_)
            · have h := g_t h h66
              refine lv_aload_n hx hb dM_mean_71 rfl (lv_at hl 1 rfl) ?_
              refine gf S hK hP 0 7 11 u_zM w_618 rfl rfl (by decide) rfl dM_mean_72 ?_
              refine lv_aload_n hx hb dM_mean_75 rfl (lv_at hl 1 rfl) ?_
              refine gf S hK hP 0 7 31 u_zM w_638 rfl rfl (by decide) rfl dM_mean_76 ?_
              refine lv_iload_n hx hb dM_mean_79 rfl (lv_at hl 3 rfl) ?_
              obtain ⟨b80, h⟩ := g_ok h
              refine va_iald hx hb hK hP 21 0 rfl rfl b80 dM_mean_80 ?_
              refine lv_iconst (v := (4 : Int32)) hx hb dM_mean_81 (by decide) ?_
              refine lv_iadd hx hb dM_mean_82 ?_
              obtain ⟨b83, h⟩ := g_ok h
              refine va_iald hx hb hK hP 8 0 rfl rfl b83 dM_mean_83 ?_
              refine lv_bipush (v := (65 : Int32)) hx hb dM_mean_84 (by decide) ?_
              refine lv_isub hx hb dM_mean_86 ?_
              refine lv_istore (lv' := [(4, .int ((m_bytes ((m_elemContent v3.toNatClampNeg) + (4 : Int32)).toNatClampNeg) - (65 : Int32))), (2, .int (v2 + (1 : Int32))), (0, .ref mA), (1, .int v1), (3, .int v3)]) hx hb dM_mean_87 hl (Nat.le_of_ble_eq_true rfl) rfl (fun ls hl => ?_)
              refine lv_aload_n hx hb dM_mean_89 rfl (lv_at hl 2 rfl) ?_
              refine lv_iload hx hb dM_mean_90 (lv_at hl 0 rfl) ?_
              obtain ⟨u92, e92, h⟩ := g_bind h
              refine pu_v S hN hK hP (rest := []) (cM_isClass l D cI cJ mA mA0 mA1 mA2 mA3 mA4 mA5 mA6 mA7 mA8 mA9 mA10 mA11 mA12 mA13 mA14 mA15 mA16 mA17 mA18 mA19 mA20 mA21 mA22 ((m_bytes ((m_elemContent v3.toNatClampNeg) + (4 : Int32)).toNatClampNeg) - (65 : Int32)) m_classes m_given m_count m_size m_len m_failed m_open m_at m_bad m_docs m_elems m_deep m_parent m_owner m_letters m_sorts m_targets m_cls m_held m_bytes m_out m_openObject m_openStart m_openNext m_docStart m_docDepth m_docNeed m_docMeant m_elemDoc m_elemType m_elemName m_elemNameLen m_elemContent m_elemChild m_deepDoc u92 e92) k_M_94 [0, 1, 2, 3, 4, 5, 6, 7, 8, 9, 10, 11, 12, 13, 14, 15, 16, 17, 18, 19, 20, 21, 22, 23] rfl 7 rfl rfl ⟨rfl, rfl⟩ ⟨Nat.le_of_ble_eq_true rfl, Nat.le_of_ble_eq_true rfl⟩ rfl hl.1 (Nat.le_of_ble_eq_true rfl) ⟨Nat.le_refl _, Nat.le_refl _⟩ dM_mean_92 rfl ?_
              refine b_ifeq (tgt := 113) hx hb dM_mean_95 (by decide) (fun h95 => ?_) (fun h95 => ?_)
              · have h := g_f h h95
                refine lv_iconst (v := (0 : Int32)) hx hb dM_mean_113 (by decide) ?_
                cases h
                exact mu_z S hr hlocks hP hS dM_mean_114 rfl rfl
              · have h := g_t h h95
                refine lv_aload_n hx hb dM_mean_98 rfl (lv_at hl 2 rfl) ?_
                refine lv_iload hx hb dM_mean_99 (lv_at hl 0 rfl) ?_
                refine lv_aload_n hx hb dM_mean_101 rfl (lv_at hl 2 rfl) ?_
                refine gf S hK hP 0 7 24 u_zM w_631 rfl rfl (by decide) rfl dM_mean_102 ?_
                refine lv_iload_n hx hb dM_mean_105 rfl (lv_at hl 3 rfl) ?_
                obtain ⟨b106, h⟩ := g_ok h
                refine va_iald hx hb hK hP 15 0 rfl rfl b106 dM_mean_106 ?_
                obtain ⟨u107, e107, h⟩ := g_bind h
                refine pu_v S hN hK hP (rest := []) (cM_isKind l D cI cJ mA mA0 mA1 mA2 mA3 mA4 mA5 mA6 mA7 mA8 mA9 mA10 mA11 mA12 mA13 mA14 mA15 mA16 mA17 mA18 mA19 mA20 mA21 mA22 N ((m_bytes ((m_elemContent v3.toNatClampNeg) + (4 : Int32)).toNatClampNeg) - (65 : Int32)) (m_docNeed v1.toNatClampNeg) m_classes m_given m_count m_size m_len m_failed m_open m_at m_bad m_docs m_elems m_deep m_parent m_owner m_letters m_sorts m_targets m_cls m_held m_bytes m_out m_openObject m_openStart m_openNext m_docStart m_docDepth m_docNeed m_docMeant m_elemDoc m_elemType m_elemName m_elemNameLen m_elemContent m_elemChild m_deepDoc u107 e107) k_M_84 [0, 1, 2, 3, 4, 5, 6, 7, 8, 9, 10, 11, 12, 13, 14, 15, 16, 17, 18, 19, 20, 21, 22, 23] rfl 7 rfl rfl ⟨rfl, rfl⟩ ⟨Nat.le_of_ble_eq_true rfl, Nat.le_of_ble_eq_true rfl⟩ rfl hl.1 (Nat.le_of_ble_eq_true rfl) ⟨Nat.le_refl _, Nat.le_refl _⟩ dM_mean_107 rfl ?_
                refine b_ifne (tgt := 115) hx hb dM_mean_110 (by decide) (fun h110 => ?_) (fun h110 => ?_)
                · have h := g_t h h110
                  refine lv_aload_n hx hb dM_mean_115 rfl (lv_at hl 2 rfl) ?_
                  refine gf S hK hP 0 7 25 u_zM w_632 rfl rfl (by decide) rfl dM_mean_116 ?_
                  refine lv_iload_n hx hb dM_mean_119 rfl (lv_at hl 3 rfl) ?_
                  refine lv_iload hx hb dM_mean_120 (lv_at hl 0 rfl) ?_
                  obtain ⟨b122, h⟩ := g_ok h
                  refine va_iast hx hb hK hP hD hS 16 0 rfl rfl b122 dM_mean_122 (fun H locs hP hD hS => ?_)
                  have hP : va_P D cs [(mA, .inr (7, [.int m_classes, .ref mA0, .int m_given, .ref mA1, .ref mA2, .ref mA3, .ref mA4, .int m_count, .ref mA5, .ref mA6, .int m_size, .ref mA7, .int m_len, .int (bI m_failed), .ref mA8, .int m_open, .ref mA9, .ref mA10, .ref mA11, .int m_at, .int (bI m_bad), .int m_docs, .ref mA12, .ref mA13, .ref mA14, .ref mA15, .int m_elems, .ref mA16, .ref mA17, .ref mA18, .ref mA19, .ref mA20, .ref mA21, .int m_deep, .ref mA22])), (mA0, .inl (cI, 6, .inl m_parent)), (mA1, .inl (cI, 8, .inl m_owner)), (mA2, .inl (cI, 8, .inl m_letters)), (mA3, .inl (cI, 8, .inl m_sorts)), (mA4, .inl (cI, 8, .inl m_targets)), (mA5, .inl (cI, 12, .inl m_cls)), (mA6, .inl (cJ, 96, .inr (.inl m_held))), (mA7, .inl (cI, 120, .inl m_bytes)), (mA8, .inl (cI, 120, .inl m_out)), (mA9, .inl (cI, 5, .inl m_openObject)), (mA10, .inl (cI, 5, .inl m_openStart)), (mA11, .inl (cI, 5, .inl m_openNext)), (mA12, .inl (cI, 25, .inl m_docStart)), (mA13, .inl (cI, 25, .inl m_docDepth)), (mA14, .inl (cI, 25, .inl m_docNeed)), (mA15, .inl (cI, 25, .inl (upd m_docMeant v1.toNatClampNeg ((m_bytes ((m_elemContent v3.toNatClampNeg) + (4 : Int32)).toNatClampNeg) - (65 : Int32))))), (mA16, .inl (cI, 60, .inl m_elemDoc)), (mA17, .inl (cI, 60, .inl m_elemType)), (mA18, .inl (cI, 60, .inl m_elemName)), (mA19, .inl (cI, 60, .inl m_elemNameLen)), (mA20, .inl (cI, 60, .inl m_elemContent)), (mA21, .inl (cI, 60, .inl m_elemChild)), (mA22, .inl (cI, 6, .inl m_deepDoc))] H := hP
                  have hD : va_D A [(mA, .inr (7, [.int m_classes, .ref mA0, .int m_given, .ref mA1, .ref mA2, .ref mA3, .ref mA4, .int m_count, .ref mA5, .ref mA6, .int m_size, .ref mA7, .int m_len, .int (bI m_failed), .ref mA8, .int m_open, .ref mA9, .ref mA10, .ref mA11, .int m_at, .int (bI m_bad), .int m_docs, .ref mA12, .ref mA13, .ref mA14, .ref mA15, .int m_elems, .ref mA16, .ref mA17, .ref mA18, .ref mA19, .ref mA20, .ref mA21, .int m_deep, .ref mA22])), (mA0, .inl (cI, 6, .inl m_parent)), (mA1, .inl (cI, 8, .inl m_owner)), (mA2, .inl (cI, 8, .inl m_letters)), (mA3, .inl (cI, 8, .inl m_sorts)), (mA4, .inl (cI, 8, .inl m_targets)), (mA5, .inl (cI, 12, .inl m_cls)), (mA6, .inl (cJ, 96, .inr (.inl m_held))), (mA7, .inl (cI, 120, .inl m_bytes)), (mA8, .inl (cI, 120, .inl m_out)), (mA9, .inl (cI, 5, .inl m_openObject)), (mA10, .inl (cI, 5, .inl m_openStart)), (mA11, .inl (cI, 5, .inl m_openNext)), (mA12, .inl (cI, 25, .inl m_docStart)), (mA13, .inl (cI, 25, .inl m_docDepth)), (mA14, .inl (cI, 25, .inl m_docNeed)), (mA15, .inl (cI, 25, .inl (upd m_docMeant v1.toNatClampNeg ((m_bytes ((m_elemContent v3.toNatClampNeg) + (4 : Int32)).toNatClampNeg) - (65 : Int32))))), (mA16, .inl (cI, 60, .inl m_elemDoc)), (mA17, .inl (cI, 60, .inl m_elemType)), (mA18, .inl (cI, 60, .inl m_elemName)), (mA19, .inl (cI, 60, .inl m_elemNameLen)), (mA20, .inl (cI, 60, .inl m_elemContent)), (mA21, .inl (cI, 60, .inl m_elemChild)), (mA22, .inl (cI, 6, .inl m_deepDoc))] := hD
                  refine lv_iinc (k := 4) (v := v3 + (1 : Int32)) (lv' := [(3, .int (v3 + (1 : Int32))), (4, .int ((m_bytes ((m_elemContent v3.toNatClampNeg) + (4 : Int32)).toNatClampNeg) - (65 : Int32))), (2, .int (v2 + (1 : Int32))), (0, .ref mA), (1, .int v1)]) hx hb dM_mean_123 hl rfl (congrArg (v3 + ·) (by decide : Int32.ofInt (1) = (1 : Int32))) (Nat.le_of_ble_eq_true rfl) rfl (fun ls hl => ?_)
                  refine lv_goto (tgt := 16) hx hb dM_mean_126 (by decide) ?_
                  exact hrc16 (v2 + (1 : Int32), v3 + (1 : Int32), upd m_docMeant v1.toNatClampNeg ((m_bytes ((m_elemContent v3.toNatClampNeg) + (4 : Int32)).toNatClampNeg) - (65 : Int32))) h _ _ _ (lv_sub hl [3, 4, 2, 0] rfl) hP hD hS
                · have h := g_f h h110
                  refine lv_iconst (v := (0 : Int32)) hx hb dM_mean_113 (by decide) ?_
                  cases h
                  exact mu_z S hr hlocks hP hS dM_mean_114 rfl rfl
            · have h := g_f h h66
              refine lv_iconst (v := (0 : Int32)) hx hb dM_mean_69 (by decide) ?_
              cases h
              exact mu_z S hr hlocks hP hS dM_mean_70 rfl rfl
  refine lv_iconst (v := (0 : Int32)) hx hb dM_mean_0 (by decide) ?_
  refine lv_istore_n (lv' := [(2, .int (0 : Int32)), (0, .ref mA), (1, .int v1)]) hx hb dM_mean_1 rfl hl (Nat.le_of_ble_eq_true rfl) rfl (fun ls hl => ?_)
  refine lv_aload_n hx hb dM_mean_2 rfl (lv_at hl 1 rfl) ?_
  refine gf S hK hP 0 7 25 u_zM w_632 rfl rfl (by decide) rfl dM_mean_3 ?_
  refine lv_iload_n hx hb dM_mean_6 rfl (lv_at hl 2 rfl) ?_
  refine lv_aload_n hx hb dM_mean_7 rfl (lv_at hl 1 rfl) ?_
  refine gf S hK hP 0 7 24 u_zM w_631 rfl rfl (by decide) rfl dM_mean_8 ?_
  refine lv_iload_n hx hb dM_mean_11 rfl (lv_at hl 2 rfl) ?_
  obtain ⟨b12, h⟩ := g_ok h
  refine va_iald hx hb hK hP 15 0 rfl rfl b12 dM_mean_12 ?_
  obtain ⟨b13, h⟩ := g_ok h
  refine va_iast hx hb hK hP hD hS 16 0 rfl rfl b13 dM_mean_13 (fun H locs hP hD hS => ?_)
  have hP : va_P D cs [(mA, .inr (7, [.int m_classes, .ref mA0, .int m_given, .ref mA1, .ref mA2, .ref mA3, .ref mA4, .int m_count, .ref mA5, .ref mA6, .int m_size, .ref mA7, .int m_len, .int (bI m_failed), .ref mA8, .int m_open, .ref mA9, .ref mA10, .ref mA11, .int m_at, .int (bI m_bad), .int m_docs, .ref mA12, .ref mA13, .ref mA14, .ref mA15, .int m_elems, .ref mA16, .ref mA17, .ref mA18, .ref mA19, .ref mA20, .ref mA21, .int m_deep, .ref mA22])), (mA0, .inl (cI, 6, .inl m_parent)), (mA1, .inl (cI, 8, .inl m_owner)), (mA2, .inl (cI, 8, .inl m_letters)), (mA3, .inl (cI, 8, .inl m_sorts)), (mA4, .inl (cI, 8, .inl m_targets)), (mA5, .inl (cI, 12, .inl m_cls)), (mA6, .inl (cJ, 96, .inr (.inl m_held))), (mA7, .inl (cI, 120, .inl m_bytes)), (mA8, .inl (cI, 120, .inl m_out)), (mA9, .inl (cI, 5, .inl m_openObject)), (mA10, .inl (cI, 5, .inl m_openStart)), (mA11, .inl (cI, 5, .inl m_openNext)), (mA12, .inl (cI, 25, .inl m_docStart)), (mA13, .inl (cI, 25, .inl m_docDepth)), (mA14, .inl (cI, 25, .inl m_docNeed)), (mA15, .inl (cI, 25, .inl (upd m_docMeant v1.toNatClampNeg (m_docNeed v1.toNatClampNeg)))), (mA16, .inl (cI, 60, .inl m_elemDoc)), (mA17, .inl (cI, 60, .inl m_elemType)), (mA18, .inl (cI, 60, .inl m_elemName)), (mA19, .inl (cI, 60, .inl m_elemNameLen)), (mA20, .inl (cI, 60, .inl m_elemContent)), (mA21, .inl (cI, 60, .inl m_elemChild)), (mA22, .inl (cI, 6, .inl m_deepDoc))] H := hP
  have hD : va_D A [(mA, .inr (7, [.int m_classes, .ref mA0, .int m_given, .ref mA1, .ref mA2, .ref mA3, .ref mA4, .int m_count, .ref mA5, .ref mA6, .int m_size, .ref mA7, .int m_len, .int (bI m_failed), .ref mA8, .int m_open, .ref mA9, .ref mA10, .ref mA11, .int m_at, .int (bI m_bad), .int m_docs, .ref mA12, .ref mA13, .ref mA14, .ref mA15, .int m_elems, .ref mA16, .ref mA17, .ref mA18, .ref mA19, .ref mA20, .ref mA21, .int m_deep, .ref mA22])), (mA0, .inl (cI, 6, .inl m_parent)), (mA1, .inl (cI, 8, .inl m_owner)), (mA2, .inl (cI, 8, .inl m_letters)), (mA3, .inl (cI, 8, .inl m_sorts)), (mA4, .inl (cI, 8, .inl m_targets)), (mA5, .inl (cI, 12, .inl m_cls)), (mA6, .inl (cJ, 96, .inr (.inl m_held))), (mA7, .inl (cI, 120, .inl m_bytes)), (mA8, .inl (cI, 120, .inl m_out)), (mA9, .inl (cI, 5, .inl m_openObject)), (mA10, .inl (cI, 5, .inl m_openStart)), (mA11, .inl (cI, 5, .inl m_openNext)), (mA12, .inl (cI, 25, .inl m_docStart)), (mA13, .inl (cI, 25, .inl m_docDepth)), (mA14, .inl (cI, 25, .inl m_docNeed)), (mA15, .inl (cI, 25, .inl (upd m_docMeant v1.toNatClampNeg (m_docNeed v1.toNatClampNeg)))), (mA16, .inl (cI, 60, .inl m_elemDoc)), (mA17, .inl (cI, 60, .inl m_elemType)), (mA18, .inl (cI, 60, .inl m_elemName)), (mA19, .inl (cI, 60, .inl m_elemNameLen)), (mA20, .inl (cI, 60, .inl m_elemContent)), (mA21, .inl (cI, 60, .inl m_elemChild)), (mA22, .inl (cI, 6, .inl m_deepDoc))] := hD
  refine lv_iconst (v := (0 : Int32)) hx hb dM_mean_14 (by decide) ?_
  refine lv_istore_n (lv' := [(3, .int (0 : Int32)), (2, .int (0 : Int32)), (0, .ref mA), (1, .int v1)]) hx hb dM_mean_15 rfl hl (Nat.le_of_ble_eq_true rfl) rfl (fun ls hl => ?_)
  exact t16 N ((0 : Int32), (0 : Int32), upd m_docMeant v1.toNatClampNeg (m_docNeed v1.toNatClampNeg)) h _ _ _ (lv_sub hl [2, 3, 1, 0] rfl) hP hD hS
