/-! read, both sides; sound, depth, elements -/
theorem m_read {N B : Nat} (hN : 200 ≤ N) {f : AI} (hy : yI B f) (z1 : Int32) (z2 : Bool) (z3 z4 z5 : Int32) (s1 s2 s3 s4 s5 s6 s7 s8 s9 : AI) : ∃ u, fM_read N (nn B) z1 z2 z3 z4 z5 f s1 s2 s3 s4 s5 s6 s7 s8 s9 = some u ∧ (∀ x, pDoc B f 5 0 0 = some x → x.1 = B → ∃ s9', u = (true, nn B, false, nn x.2.2.length, nn x.2.1.length, nn 0, wr s1 0 (x.2.2.map dS), wr s2 0 (x.2.2.map dD), wr s3 0 (x.2.1.map eHo), wr s4 0 (x.2.1.map eTy), wr s5 0 (x.2.1.map eNm), wr s6 0 (x.2.1.map eNl), wr s7 0 (x.2.1.map eCt), wr s8 0 (x.2.1.map eCh), s9')) ∧ ((∀ x, pDoc B f 5 0 0 = some x → ¬ x.1 = B) → u.1 = false) := by
  have hB := hy.1
  unfold fM_read
  obtain ⟨d1, d2⟩ := m_rdoc hN hB (f := f) (k := 0) (D := 0) (a := 0) (by omega) (by omega) (by omega) s1 s2 s9
  by_cases h4 : 4 ≤ B
  · rw [show fM_readDocument N (nn B) (0 : Int32) false (0 : Int32) (0 : Int32) f s1 s2 s9 = _ from d1 (by omega), o_bind]
    dsimp only
    obtain ⟨i1, i2⟩ := rf hN hy 4 0 (by omega) 121 4 1 0 0 0 (upd s1 0 (nn 0)) (upd s2 0 (nn (0 + 1))) s3 s4 s5 s6 s7 s8 (upd s9 0 (nn 0)) (by omega) (by omega) h4 (by omega) (by omega) (by omega) (upd_at _ _ _) (upd_at _ _ _)
    have hpd : pDoc B f 5 0 0 = (pEls B f (pDoc B f 4) 0 121 4 1).bind fun s => (if n4 f 0 = nn (s.1 + 1 - 0) then some (s.1 + 1, s.2.1, (0, 1) :: s.2.2) else none) := by
      rw [pDoc, if_pos (by omega)]
    by_cases hin : ∀ x, pEls B f (pDoc B f 4) 0 121 4 1 = some x → ¬ n4 f 0 = nn (x.1 + 1 - 0)
    · obtain ⟨j, j1, j2⟩ := i2 hin
      obtain ⟨v, e⟩ := j2 (N - j)
      rw [show N - j + j = N by omega] at e
      refine ⟨_, e, fun x hx => ?_, fun _ => rfl⟩
      exfalso
      rw [hpd] at hx
      cases h2 : pEls B f (pDoc B f 4) 0 121 4 1 with
      | none => rw [h2] at hx; cases hx
      | some s => rw [h2, o_bind, if_neg (hin s h2)] at hx; cases hx
    · obtain ⟨s, hs⟩ := Classical.not_forall.mp hin
      have eS : pEls B f (pDoc B f 4) 0 121 4 1 = some s := Classical.byContradiction (fun z => hs (fun w => absurd w z))
      have hn4 : n4 f 0 = nn (s.1 + 1 - 0) := Classical.byContradiction (fun z => hs (fun _ => z))
      obtain ⟨⟨p1, p2, p3⟩, p4, p5, p6⟩ := pEls_ok (pDoc_ok B f 4) 121 _ _ s eS
      obtain ⟨j, t9, j1, j2, j3⟩ := i1 s eS hn4
      have e := j3 (N - j)
      rw [show N - j + j = N by omega] at e
      obtain ⟨q, hq⟩ : ∃ q, N - j = q + 1 := ⟨N - j - 1, by omega⟩
      rw [hq] at e
      have hpx : pDoc B f 5 0 0 = some (s.1 + 1, s.2.1, (0, 1) :: s.2.2) := by rw [hpd, eS, o_bind, if_pos hn4]
      have e2 : ∀ (a1 : Int32) (c1 c2 : Int32) (t1 t2 t3 t4 t5 t6 t7 t8 t9 : AI), fM_read_29l N (nn B) f (q + 1) (a1, false, c1, c2, nn 0, t1, t2, t3, t4, t5, t6, t7, t8, t9) = if a1 = nn B then some (true, a1, false, c1, c2, nn 0, t1, t2, t3, t4, t5, t6, t7, t8, t9) else some (false, a1, false, c1, c2, nn 0, t1, t2, t3, t4, t5, t6, t7, t8, t9) := by
        intro a1 c1 c2 t1 t2 t3 t4 t5 t6 t7 t8 t9
        show fM_read_29 N (nn B) f (fM_read_29l N (nn B) f q) a1 false c1 c2 (nn 0) t1 t2 t3 t4 t5 t6 t7 t8 t9 = _
        unfold fM_read_29
        rw [if_pos (c := nn 0 ≤ 0) (by decide), if_neg (c := false = true) (by decide)]
      rw [e2] at e
      by_cases hB2 : s.1 + 1 = B
      · rw [if_pos (by rw [hB2])] at e
        refine ⟨_, e, fun x hx hxB => ?_, fun hz => absurd hB2 (hz _ hpx)⟩
        rw [hpx] at hx
        cases hx
        refine ⟨t9, ?_⟩
        dsimp only
        rw [hB2, List.length_cons, Nat.zero_add, Nat.add_comm 1]
        rfl
      · rw [if_neg (by rw [nn_eq (by omega) (by omega)]; exact hB2)] at e
        refine ⟨_, e, fun x hx hxB => ?_, fun _ => rfl⟩
        rw [hpx] at hx
        cases hx
        exact absurd hxB hB2
  · obtain ⟨x, v, e⟩ := d2 (by omega)
    rw [show fM_readDocument N (nn B) (0 : Int32) false (0 : Int32) (0 : Int32) f s1 s2 s9 = _ from e, o_bind]
    obtain ⟨N', eN⟩ : ∃ z, N = z + 1 := ⟨N - 1, by omega⟩
    obtain ⟨w, ew⟩ := rl_fail (N := N) (B := B) (f := f) N' x v.1 0 v.2.1 v.2.2.1 v.2.2.2.1 s3 s4 s5 s6 s7 s8 v.2.2.2.2
    rw [← eN] at ew
    refine ⟨_, ew, fun x hx => ?_, fun _ => rfl⟩
    rw [pDoc, if_neg (by omega)] at hx
    cases hx
/-- the bytes are sound -/
def snd_ (B : Nat) (f : AI) : Prop := ∃ x, pDoc B f 5 0 0 = some x ∧ x.1 = B
theorem not_snd {B : Nat} {f : AI} (h : ¬ snd_ B f) : ∀ x, pDoc B f 5 0 0 = some x → ¬ x.1 = B := fun x hx hz => h ⟨x, hx, hz⟩
theorem q_sound {N B : Nat} (hN : 200 ≤ N) {f : AI} (hy : yI B f) (c1 c2 c3 : Int32) (t n c h i : AI) (z1 : Int32) (z2 : Bool) (z3 z4 z5 : Int32) (s1 s2 s3 s4 s5 s6 s7 s8 s9 : AI) : ∃ u w, fP_sound N (nn B) f c1 c2 c3 t n c h i = some u ∧ fM_sound N (nn B) z1 z2 z3 z4 z5 f s1 s2 s3 s4 s5 s6 s7 s8 s9 = some w ∧ u.1 = w.1 := by
  obtain ⟨u, e1, a1, a2⟩ := o_read hN hy c1 c2 c3 t n c h i
  obtain ⟨w, e2, b1, b2⟩ := m_read hN hy z1 z2 z3 z4 z5 s1 s2 s3 s4 s5 s6 s7 s8 s9
  unfold fP_sound fM_sound
  rw [e1, e2]
  refine ⟨_, _, rfl, rfl, ?_⟩
  show u.1 = w.1
  by_cases hs : snd_ B f
  · obtain ⟨x, hx, hxB⟩ := hs
    obtain ⟨s9', hw⟩ := b1 x hx hxB
    rw [a1 x hx hxB, hw]
  · rw [a2 (not_snd hs), b2 (not_snd hs)]
theorem q_elements {N B : Nat} (hN : 200 ≤ N) {f : AI} (hy : yI B f) (c1 c2 c3 : Int32) (t n c h i : AI) (z1 : Int32) (z2 : Bool) (z3 z4 z5 : Int32) (s1 s2 s3 s4 s5 s6 s7 s8 s9 : AI) : ∃ u w, fP_elements N (nn B) f c1 c2 c3 t n c h i = some u ∧ fM_elements N (nn B) z1 z2 z3 z4 z5 f s1 s2 s3 s4 s5 s6 s7 s8 s9 = some w ∧ u.1 = w.1 := by
  obtain ⟨u, e1, a1, a2⟩ := o_read hN hy c1 c2 c3 t n c h i
  obtain ⟨w, e2, b1, b2⟩ := m_read hN hy z1 z2 z3 z4 z5 s1 s2 s3 s4 s5 s6 s7 s8 s9
  unfold fP_elements fM_elements
  rw [e1, e2, o_bind, o_bind]
  by_cases hs : snd_ B f
  · obtain ⟨x, hx, hxB⟩ := hs
    obtain ⟨s9', hw⟩ := b1 x hx hxB
    rw [a1 x hx hxB, hw]
    exact ⟨_, _, rfl, rfl, rfl⟩
  · rw [a2 (not_snd hs), b2 (not_snd hs)]
    exact ⟨_, _, rfl, rfl, rfl⟩
theorem wr_get : ∀ (l : List Int32) (f : AI) (n j : Nat) (x : Int32), l[j]? = some x → wr f n l (n + j) = x
  | [], _, _, _, _, h => by simp at h
  | y :: l, f, n, 0, x, h => by
    show wr (upd f n y) (n + 1) l n = x
    rw [wr_lt l _ (n + 1) n (by omega), upd_at]
    exact Option.some.inj h
  | y :: l, f, n, j + 1, x, h => by
    show wr (upd f n y) (n + 1) l (n + (j + 1)) = x
    rw [show n + (j + 1) = n + 1 + j by omega]
    exact wr_get l _ (n + 1) j x h
theorem wr_map {α : Type} (g : α → Int32) {l : List α} {f : AI} {j : Nat} {x : α} (h : l[j]? = some x) : wr f 0 (l.map g) j = g x := by
  have := wr_get (l.map g) f 0 j (g x) (by rw [List.getElem?_map, h]; rfl)
  rw [Nat.zero_add] at this
  exact this
theorem m_dep_l {N B : Nat} {f : AI} (q1 : Int32) (q2 : Bool) (q4 q5 : Int32) (s1 s2 s3 s4 s5 s6 s7 s8 s9 : AI) (ds : List Dc) (hl : ds.length ≤ 24) (hd : dsOk ds) : ∀ (k j q m : Nat), j + k = ds.length → k < q → m ≤ 6 → fM_depth_13l N (nn B) f q1 q2 (nn ds.length) q4 q5 s1 (wr s2 0 (ds.map dD)) s3 s4 s5 s6 s7 s8 s9 q (nn m, nn j) = some (nn (mxd m (ds.drop j)), q1, q2, nn ds.length, q4, q5, s1, wr s2 0 (ds.map dD), s3, s4, s5, s6, s7, s8, s9) := by
  intro k
  induction k with
  | zero =>
    intro j q m hj hq hm
    obtain ⟨q, rfl⟩ : ∃ z, q = z + 1 := ⟨q - 1, by omega⟩
    show fM_depth_13 N (nn B) f q1 q2 (nn ds.length) q4 q5 s1 (wr s2 0 (ds.map dD)) s3 s4 s5 s6 s7 s8 s9 (fM_depth_13l N (nn B) f q1 q2 (nn ds.length) q4 q5 s1 (wr s2 0 (ds.map dD)) s3 s4 s5 s6 s7 s8 s9 q) (nn m) (nn j) = _
    unfold fM_depth_13
    rw [if_pos (by rw [nn_le (by omega) (by omega)]; omega), List.drop_eq_nil_of_le (by omega)]
    rfl
  | succ k ih =>
    intro j q m hj hq hm
    obtain ⟨q, rfl⟩ : ∃ z, q = z + 1 := ⟨q - 1, by omega⟩
    show fM_depth_13 N (nn B) f q1 q2 (nn ds.length) q4 q5 s1 (wr s2 0 (ds.map dD)) s3 s4 s5 s6 s7 s8 s9 (fM_depth_13l N (nn B) f q1 q2 (nn ds.length) q4 q5 s1 (wr s2 0 (ds.map dD)) s3 s4 s5 s6 s7 s8 s9 q) (nn m) (nn j) = _
    have hlt : j < ds.length := by omega
    have hg : ds[j]? = some ds[j] := List.getElem?_eq_getElem hlt
    have h5 := hd _ (List.getElem_mem hlt)
    unfold fM_depth_13
    rw [if_neg (by rw [nn_le (by omega) (by omega)]; omega), if_pos (nn_okt (by omega) (by omega)), nn_c (by omega), wr_map dD hg, nn_s]
    have hdr : mxd m (ds.drop j) = mxd (if m < ds[j].2 then ds[j].2 else m) (ds.drop (j + 1)) := by
      rw [List.drop_eq_getElem_cons hlt]
      rfl
    rw [hdr]
    show (if nn ds[j].2 ≤ nn m then _ else _) = _
    rw [c_le (by omega) (by omega)]
    by_cases hle : ds[j].2 ≤ m
    · rw [if_pos hle, if_neg (c := m < ds[j].2) (by omega)]
      exact ih (j + 1) q m (by omega) (by omega) hm
    · rw [if_neg hle, if_pos (c := ok (nn j) 25 = true) (nn_okt (by omega) (by omega)), if_pos (c := m < ds[j].2) (by omega)]
      exact ih (j + 1) q ds[j].2 (by omega) (by omega) (by omega)
theorem q_depth {N B : Nat} (hN : 200 ≤ N) {f : AI} (hy : yI B f) (c1 c2 c3 : Int32) (t n c h i : AI) (z1 : Int32) (z2 : Bool) (z3 z4 z5 : Int32) (s1 s2 s3 s4 s5 s6 s7 s8 s9 : AI) : ∃ u w, fP_depth N (nn B) f c1 c2 c3 t n c h i = some u ∧ fM_depth N (nn B) z1 z2 z3 z4 z5 f s1 s2 s3 s4 s5 s6 s7 s8 s9 = some w ∧ u.1 = w.1 := by
  have hB := hy.1
  obtain ⟨u, e1, a1, a2⟩ := o_read hN hy c1 c2 c3 t n c h i
  obtain ⟨w, e2, b1, b2⟩ := m_read hN hy z1 z2 z3 z4 z5 s1 s2 s3 s4 s5 s6 s7 s8 s9
  unfold fP_depth fM_depth
  rw [e1, e2, o_bind, o_bind]
  by_cases hs : snd_ B f
  · obtain ⟨x, hx, hxB⟩ := hs
    obtain ⟨s9', hw⟩ := b1 x hx hxB
    obtain ⟨⟨p1, p2, p3⟩, p4⟩ := pDoc_ok B f 5 0 0 x hx
    rw [a1 x hx hxB, hw]
    dsimp only
    rw [if_pos (c := true = true) rfl, if_pos (c := true = true) rfl]
    refine ⟨_, _, rfl, m_dep_l (N := N) (B := B) (f := f) (nn B) false (nn x.2.1.length) (nn 0) (wr s1 0 (x.2.2.map dS)) s2 (wr s3 0 (x.2.1.map eHo)) (wr s4 0 (x.2.1.map eTy)) (wr s5 0 (x.2.1.map eNm)) (wr s6 0 (x.2.1.map eNl)) (wr s7 0 (x.2.1.map eCt)) (wr s8 0 (x.2.1.map eCh)) s9' x.2.2 (by omega) (ds_doc B f 5 0 0 x hx) x.2.2.length 0 N 0 (by omega) (by omega) (by omega), rfl⟩
  · rw [a2 (not_snd hs), b2 (not_snd hs)]
    exact ⟨_, _, rfl, rfl, rfl⟩
