/-! reading, the written program: the loop and the recursion -/
def dsOk (ds : List Dc) : Prop := ∀ d, d ∈ ds → d.2 ≤ 5
theorem ds_cont {B : Nat} {f : AI} {rec : Nat → Nat → Pr} (hr : ∀ st dc x, rec st dc = some x → dsOk x.2.2) {ty ct dc : Nat} {x : Nat × List El × List Dc} (h : pCont B f rec ty ct dc = some x) : dsOk x.2.2 := by
  unfold pCont at h
  have nil : dsOk ([] : List Dc) := fun _ h => by cases h
  split at h
  · split at h
    · cases h; exact nil
    · cases h
  · split at h
    · exact hr _ _ _ h
    · split at h
      · split at h
        · cases h; exact nil
        · cases h
      · split at h
        · cases h; exact nil
        · split at h
          · split at h
            · cases h; exact nil
            · cases h
          · split at h
            · split at h
              · cases h; exact nil
              · cases h
            · cases h
theorem ds_el {B : Nat} {f : AI} {rec : Nat → Nat → Pr} (hr : ∀ st dc x, rec st dc = some x → dsOk x.2.2) {a dc ho : Nat} {x : Nat × List El × List Dc} (h : pEl B f rec a dc ho = some x) : dsOk x.2.2 := by
  unfold pEl at h
  split at h
  · cases h1 : pCont B f rec (bv f a) (tx B f (a + 1) + 1) dc with
    | none => rw [h1] at h; cases h
    | some r =>
      rw [h1] at h
      cases h
      exact (show dsOk r.2.2 from ds_cont hr h1)
  · cases h
theorem ds_els {B : Nat} {f : AI} {rec : Nat → Nat → Pr} (hr : ∀ st dc x, rec st dc = some x → dsOk x.2.2) {ho : Nat} : ∀ (k a dc : Nat) (x : Nat × List El × List Dc), pEls B f rec ho k a dc = some x → dsOk x.2.2
  | 0, _, _, _, h => by cases h
  | k + 1, a, dc, x, h => by
    unfold pEls at h
    split at h
    · split at h
      · cases h
        exact fun _ h => by cases h
      · cases h1 : pEl B f rec a dc ho with
        | none => rw [h1] at h; cases h
        | some r =>
          rw [h1] at h
          cases h2 : pEls B f rec ho k r.1 (dc + r.2.2.length) with
          | none => rw [o_bind, h2] at h; cases h
          | some s =>
            rw [o_bind, h2] at h
            cases h
            intro d hd
            rcases List.mem_append.mp hd with q | q
            · exact ds_el hr h1 d q
            · exact ds_els hr k _ _ s h2 d q
    · cases h
theorem ds_doc (B : Nat) (f : AI) : ∀ r st dc x, pDoc B f r st dc = some x → dsOk x.2.2
  | 0, _, _, _, h => by cases h
  | r + 1, st, dc, x, h => by
    unfold pDoc at h
    split at h
    · cases h1 : pEls B f (pDoc B f r) dc 121 (st + 4) (dc + 1) with
      | none => rw [h1] at h; cases h
      | some s =>
        rw [h1, o_bind] at h
        split at h
        · cases h
          intro d hd
          rcases List.mem_cons.mp hd with q | q
          · rw [q]; show 5 - r ≤ 5; omega
          · exact ds_els (fun st dc x h => ds_doc B f r st dc x h) 121 _ _ s h1 d q
        · cases h
    · cases h
theorem mxd_le : ∀ (ds : List Dc) (m : Nat), dsOk ds → m ≤ 6 → mxd m ds ≤ 6
  | [], m, _, h => h
  | d :: ds, m, hd, h => by
    show mxd (if m < d.2 then d.2 else m) ds ≤ 6
    refine mxd_le ds _ (fun x hx => hd x (List.mem_cons_of_mem _ hx)) ?_
    have := hd d List.mem_cons_self
    split <;> omega
def pFin (f : AI) (st : Nat) (s : Pr) : Pr := s.bind fun x => if n4 f st = nn (x.1 + 1 - st) then some (x.1 + 1, x.2.1, x.2.2) else none
theorem oOut_app (E0 D0 m0 : Nat) (t n c h i : AI) (e1 : List El) (d1 : List Dc) (a : Nat) (e2 : List El) (d2 : List Dc) : oOut (E0 + e1.length) (D0 + d1.length) (mxd m0 d1) (wr t E0 (e1.map eTy)) (wr n E0 (e1.map eNm)) (wr c E0 (e1.map eCt)) (wr h E0 (e1.map eHo)) (wr i E0 (e1.map eCh)) (a, e2, d2) = oOut E0 D0 m0 t n c h i (a, e1 ++ e2, d1 ++ d2) := by
  unfold oOut mxd
  simp only [List.map_append, wr_app, List.length_append, List.length_map, List.foldl_append, Nat.add_assoc]
section OLOOP
variable {N B : Nat} {f : AI} {rec : Nat → Nat → Pr} {rk : Int32 × Int32 × Int32 × Int32 × Int32 × AI × AI × AI × AI × AI → Option (Int32 × Int32 × Int32 × Int32 × AI × AI × AI × AI × AI)} {d : Int32} {st ho : Nat}
theorem o_exit (hN : 200 ≤ N) (hy : yI B f) (hst : st + 4 ≤ B) {a : Nat} (ha : st + 4 ≤ a) (ha2 : a < 1000000) (E0 D0 m0 : Nat) (t n c h i : AI) : Po E0 D0 m0 t n c h i (pFin f st (if a < B ∧ bv f a = 0 then some (a, [], []) else none)) ((fB_at (nn a) (nn B) f).bind fun u104 => if u104 = 0 then ((fB_intAt N (nn st) (nn B) f).bind fun u115 => if u115 = (nn a + (1 : Int32)) - nn st then some (nn a + (1 : Int32), nn E0, nn D0, nn m0, t, n, c, h, i) else some ((-1 : Int32), nn E0, nn D0, nn m0, t, n, c, h, i)) else some ((-1 : Int32), nn E0, nn D0, nn m0, t, n, c, h, i)) := by
  have hB := hy.1
  rw [o_at hB (by omega), o_bind]
  by_cases hc : a < B ∧ bv f a = 0
  · rw [if_pos ((av_0 hy _).mpr hc), if_pos hc, o_int hN hy hst, o_bind, nn_s, nn_sub (by omega)]
    show Po E0 D0 m0 t n c h i (if n4 f st = nn (a + 1 - st) then some (a + 1, [], []) else none) _
    by_cases h3 : n4 f st = nn (a + 1 - st)
    · rw [if_pos h3, if_pos h3]
      exact Po_nil _
    · rw [if_neg h3, if_neg h3]
      exact Po_none _
  · rw [if_neg (fun z => hc ((av_0 hy _).mp z)), if_neg hc]
    exact Po_none _
theorem o_loopN (q : Nat) (j : Int32) (s : Int32 × Int32 × Int32 × AI × AI × AI × AI × AI) : ∃ u, fO_readDocumentS_63l N rk (nn st) d (nn B) f (nn ho) (q + 1) (-1, j, s) = some u ∧ u.1 = -1 := by
  obtain ⟨s1, s2, s3, s4, s5, s6, s7, s8⟩ := s
  show ∃ u, fO_readDocumentS_63 N rk (nn st) d (nn B) f (nn ho) (fO_readDocumentS_63l N rk (nn st) d (nn B) f (nn ho) q) (-1) j s1 s2 s3 s4 s5 s6 s7 s8 = some u ∧ u.1 = -1
  unfold fO_readDocumentS_63
  rw [o_atN, o_bind, o_bind]
  by_cases h : (120 : Int32) ≤ j
  · rw [if_pos h, if_neg (by decide)]; exact ⟨_, rfl, rfl⟩
  · rw [if_neg h, if_pos (by decide), if_neg (by decide)]; exact ⟨_, rfl, rfl⟩
theorem o_loop (hN : 200 ≤ N) (hy : yI B f) (hR : Rd B rec rk (d + 1)) (hro : recOk B rec) (hrd : ∀ st dc x, rec st dc = some x → dsOk x.2.2) (hst : st + 4 ≤ B) : ∀ (k j q a E0 D0 m0 : Nat) (t n c h i : AI), j + k = 120 → k < q → st + 4 ≤ a → a ≤ B → 4 * D0 + 2 * E0 ≤ a → 1 ≤ D0 → m0 ≤ 6 → Po E0 D0 m0 t n c h i (pFin f st (pEls B f rec ho (k + 1) a D0)) (fO_readDocumentS_63l N rk (nn st) d (nn B) f (nn ho) q (nn a, nn j, nn E0, nn D0, nn m0, t, n, c, h, i)) := by
  have hB := hy.1
  intro k
  induction k with
  | zero =>
    intro j q a E0 D0 m0 t n c h i hj hq ha ha2 h1 hD hm
    obtain ⟨q, rfl⟩ : ∃ z, q = z + 1 := ⟨q - 1, by omega⟩
    show Po E0 D0 m0 t n c h i _ (fO_readDocumentS_63 N rk (nn st) d (nn B) f (nn ho) (fO_readDocumentS_63l N rk (nn st) d (nn B) f (nn ho) q) (nn a) (nn j) (nn E0) (nn D0) (nn m0) t n c h i)
    unfold fO_readDocumentS_63
    rw [if_pos (c := (120 : Int32) ≤ nn j) (by rw [show (120 : Int32) = nn 120 from rfl, nn_le (by omega) (by omega)]; omega)]
    have e : pEls B f rec ho (0 + 1) a D0 = if a < B ∧ bv f a = 0 then some (a, [], []) else none := by
      unfold pEls
      by_cases h1 : a < B
      · by_cases h2 : bv f a = 0
        · rw [if_pos h1, if_pos h2, if_pos ⟨h1, h2⟩]
        · rw [if_pos h1, if_neg h2, if_neg (fun z => h2 z.2)]
          cases pEl B f rec a D0 ho <;> rfl
      · rw [if_neg h1, if_neg (fun z => h1 z.1)]
    rw [e]
    exact o_exit hN hy hst ha (by omega) E0 D0 m0 t n c h i
  | succ k ih =>
    intro j q a E0 D0 m0 t n c h i hj hq ha ha2 h1 hD hm
    obtain ⟨q, rfl⟩ : ∃ z, q = z + 1 := ⟨q - 1, by omega⟩
    show Po E0 D0 m0 t n c h i _ (fO_readDocumentS_63 N rk (nn st) d (nn B) f (nn ho) (fO_readDocumentS_63l N rk (nn st) d (nn B) f (nn ho) q) (nn a) (nn j) (nn E0) (nn D0) (nn m0) t n c h i)
    unfold fO_readDocumentS_63
    rw [if_neg (c := (120 : Int32) ≤ nn j) (by rw [show (120 : Int32) = nn 120 from rfl, nn_le (by omega) (by omega)]; omega)]
    by_cases hc : a < B ∧ 1 ≤ bv f a
    · rw [o_at hB (by omega), o_bind, if_neg (c := av B f a ≤ 0) (by rw [av_le0 hy]; exact fun z => z hc)]
      have e : pEls B f rec ho (k + 1 + 1) a D0 = (pEl B f rec a D0 ho).bind fun r => (pEls B f rec ho (k + 1) r.1 (D0 + r.2.2.length)).map fun s => (s.1, r.2.1 ++ s.2.1, r.2.2 ++ s.2.2) := by
        rw [pEls, if_pos hc.1, if_neg (by omega)]
      rw [e]
      obtain ⟨u, eu, a1, a2⟩ := o_elem hN hy hR hc.1 ho t n c h i h1 hm (by omega)
      rw [eu, o_bind, nn_s]
      cases hel : pEl B f rec a D0 ho with
      | none =>
        have hu := a2 hel
        obtain ⟨q, rfl⟩ : ∃ z, q = z + 1 := ⟨q - 1, by omega⟩
        rw [hu]
        obtain ⟨w, ew, hw⟩ := o_loopN (N := N) (B := B) (f := f) (rk := rk) (d := d) (st := st) (ho := ho) q (nn (j + 1)) (u.2.1, u.2.2.1, u.2.2.2.1, u.2.2.2.2.1, u.2.2.2.2.2.1, u.2.2.2.2.2.2.1, u.2.2.2.2.2.2.2.1, u.2.2.2.2.2.2.2.2)
        exact ⟨w, ew, fun x hx => (by cases hx), fun _ => hw⟩
      | some r =>
        have hu := a1 r hel
        obtain ⟨⟨p1, p2, p3⟩, p4, p5⟩ := pEl_ok hro hel
        rw [hu]
        obtain ⟨w, ew, b1, b2⟩ := ih (j + 1) q r.1 (E0 + r.2.1.length) (D0 + r.2.2.length) (mxd m0 r.2.2) (wr t E0 (r.2.1.map eTy)) (wr n E0 (r.2.1.map eNm)) (wr c E0 (r.2.1.map eCt)) (wr h E0 (r.2.1.map eHo)) (wr i E0 (r.2.1.map eCh)) (by omega) (by omega) (by omega) p2 (by omega) (by omega) (mxd_le _ _ (ds_el hrd hel) hm)
        refine ⟨w, ew, fun x hx => ?_, fun hx => ?_⟩
        · cases h2 : pEls B f rec ho (k + 1) r.1 (D0 + r.2.2.length) with
          | none => rw [o_bind, h2] at hx; cases hx
          | some s =>
            rw [o_bind, h2] at hx
            change (if n4 f st = nn (s.1 + 1 - st) then some (s.1 + 1, r.2.1 ++ s.2.1, r.2.2 ++ s.2.2) else none) = some x at hx
            by_cases h3 : n4 f st = nn (s.1 + 1 - st)
            · rw [if_pos h3] at hx
              cases hx
              rw [b1 (s.1 + 1, s.2.1, s.2.2) (by rw [h2]; show (if _ then _ else _) = _; rw [if_pos h3]), oOut_app]
            · rw [if_neg h3] at hx; cases hx
        · refine b2 ?_
          cases h2 : pEls B f rec ho (k + 1) r.1 (D0 + r.2.2.length) with
          | none => rfl
          | some s =>
            rw [o_bind, h2] at hx
            change (if n4 f st = nn (s.1 + 1 - st) then some (s.1 + 1, r.2.1 ++ s.2.1, r.2.2 ++ s.2.2) else none) = none at hx
            show (if n4 f st = nn (s.1 + 1 - st) then some (s.1 + 1, s.2.1, s.2.2) else none) = none
            by_cases h3 : n4 f st = nn (s.1 + 1 - st)
            · rw [if_pos h3] at hx; cases hx
            · rw [if_neg h3]
    · have e : pEls B f rec ho (k + 1 + 1) a D0 = if a < B ∧ bv f a = 0 then some (a, [], []) else none := by
        rw [pEls]
        by_cases h1 : a < B
        · by_cases h2 : bv f a = 0
          · rw [if_pos h1, if_pos h2, if_pos ⟨h1, h2⟩]
          · omega
        · rw [if_neg h1, if_neg (fun z => h1 z.1)]
      rw [e]
      have hex := o_exit hN hy hst ha (show a < 1000000 by omega) E0 D0 m0 t n c h i
      rw [o_at hB (by omega), o_bind] at hex ⊢
      rw [if_pos (c := av B f a ≤ 0) ((av_le0 hy a).mpr hc)]
      exact hex
end OLOOP
theorem o_docS {N B : Nat} (hN : 200 ≤ N) {f : AI} (hy : yI B f) {r d : Nat} (hd : d + r = 5) {rk : Int32 × Int32 × Int32 × Int32 × Int32 × AI × AI × AI × AI × AI → Option (Int32 × Int32 × Int32 × Int32 × AI × AI × AI × AI × AI)} (hR : Rd B (pDoc B f r) rk (nn (d + 1))) {st E0 D0 m0 : Nat} (t n c h i : AI) (h1 : 4 * D0 + 2 * E0 ≤ st) (hst : st ≤ B) (hm : m0 ≤ 6) : Po E0 D0 m0 t n c h i (pDoc B f (r + 1) st D0) (fO_readDocumentS N rk (nn st) (nn d) (nn E0) (nn D0) (nn m0) t n c h i (nn B) f) := by
  have hB := hy.1
  have hR' : Rd B (pDoc B f r) rk (nn d + 1) := by rw [nn_s]; exact hR
  unfold fO_readDocumentS pDoc
  rw [if_neg (c := (5 : Int32) < nn d) (by rw [show (5 : Int32) = nn 5 from rfl, nn_lt (by omega) (by omega)]; omega)]
  by_cases hs : st + 4 ≤ B
  · rw [if_neg (c := (30 : Int32) ≤ nn D0) (by rw [show (30 : Int32) = nn 30 from rfl, nn_le (by omega) (by omega)]; omega), show fB_holds (nn st) (4 : Int32) (nn B) = some (decide (st + 4 ≤ B)) from o_holds (k := 4) hB (by omega) (by omega) trivial, o_bind, decide_eq_true hs, if_pos (c := true = true) rfl, if_pos hs, show nn st + (4 : Int32) = nn (st + 4) from nn_add st 4, nn_s]
    have hmx : (if nn m0 < nn d then nn d else nn m0) = nn (if m0 < d then d else m0) := by
      rw [c_lt (by omega) (by omega)]
      by_cases hl : m0 < d
      · rw [if_pos hl, if_pos hl]
      · rw [if_neg hl, if_neg hl]
    rw [hmx]
    obtain ⟨u, e, a1, a2⟩ := o_loop (ho := D0) hN hy hR' (pDoc_ok B f r) (ds_doc B f r) hs 120 0 N (st + 4) E0 (D0 + 1) (if m0 < d then d else m0) t n c h i (by omega) (by omega) (by omega) hs (by omega) (by omega) (by split <;> omega)
    refine ⟨u, e, fun x hx => ?_, fun hx => ?_⟩
    · cases h2 : pEls B f (pDoc B f r) D0 121 (st + 4) (D0 + 1) with
      | none => rw [h2] at hx; cases hx
      | some s =>
        rw [h2, o_bind] at hx
        by_cases h3 : n4 f st = nn (s.1 + 1 - st)
        · rw [if_pos h3] at hx
          cases hx
          rw [a1 (s.1 + 1, s.2.1, s.2.2) (by show pFin f st (pEls B f (pDoc B f r) D0 121 (st + 4) (D0 + 1)) = _; rw [h2]; show (if _ then _ else _) = _; rw [if_pos h3])]
          unfold oOut
          dsimp only
          rw [List.length_cons, show D0 + 1 + s.2.2.length = D0 + (s.2.2.length + 1) by omega, show 5 - r = d by omega]
          rfl
        · rw [if_neg h3] at hx; cases hx
    · refine a2 ?_
      show pFin f st (pEls B f (pDoc B f r) D0 121 (st + 4) (D0 + 1)) = none
      cases h2 : pEls B f (pDoc B f r) D0 121 (st + 4) (D0 + 1) with
      | none => rfl
      | some s =>
        rw [h2, o_bind] at hx
        show (if n4 f st = nn (s.1 + 1 - st) then _ else none) = none
        by_cases h3 : n4 f st = nn (s.1 + 1 - st)
        · rw [if_pos h3] at hx; cases hx
        · rw [if_neg h3]
  · rw [if_neg hs, show fB_holds (nn st) (4 : Int32) (nn B) = some (decide (st + 4 ≤ B)) from o_holds (k := 4) hB (by omega) (by omega) trivial, o_bind, decide_eq_false hs, if_neg (c := false = true) (by decide)]
    by_cases h30 : (30 : Int32) ≤ nn D0
    · rw [if_pos h30]; exact Po_none _
    · rw [if_neg h30]; exact Po_none _
theorem o_doc {N B : Nat} (hN : 200 ≤ N) {f : AI} (hy : yI B f) : ∀ (q d : Nat), 1 ≤ d → d ≤ 6 → 7 - d ≤ q → Rd B (pDoc B f (6 - d)) (fO_readDocumentl N (nn B) f q) (nn d) := by
  intro q
  induction q with
  | zero => intro d h1 h2 h3; omega
  | succ q ih =>
    intro d h1 h2 h3 st E0 D0 m0 t n c h i g1 g2 g3
    show Po E0 D0 m0 t n c h i (pDoc B f (6 - d) st D0) (fO_readDocumentS N (fO_readDocumentl N (nn B) f q) (nn st) (nn d) (nn E0) (nn D0) (nn m0) t n c h i (nn B) f)
    by_cases h6 : d = 6
    · subst h6
      unfold fO_readDocumentS
      rw [if_pos (c := (5 : Int32) < nn 6) (by decide)]
      exact Po_none _
    · obtain ⟨r, hr⟩ : ∃ r, 6 - d = r + 1 := ⟨5 - d, by omega⟩
      rw [hr]
      refine o_docS hN hy (by omega) ?_ t n c h i g1 g2 g3
      have := ih (d + 1) (by omega) (by omega) (by omega)
      rw [show 6 - (d + 1) = r by omega] at this
      exact this
/-- what read answers and leaves -/
theorem o_read {N B : Nat} (hN : 200 ≤ N) {f : AI} (hy : yI B f) (s1 s2 s3 : Int32) (t n c h i : AI) : ∃ u, fO_read N s1 s2 s3 t n c h i (nn B) f = some u ∧ (∀ x, pDoc B f 5 0 0 = some x → x.1 = B → u = (true, nn x.2.1.length, nn x.2.2.length, nn (mxd 0 x.2.2), wr t 0 (x.2.1.map eTy), wr n 0 (x.2.1.map eNm), wr c 0 (x.2.1.map eCt), wr h 0 (x.2.1.map eHo), wr i 0 (x.2.1.map eCh))) ∧ ((∀ x, pDoc B f 5 0 0 = some x → ¬ x.1 = B) → u.1 = false) := by
  have hB := hy.1
  unfold fO_read
  obtain ⟨u, e, a1, a2⟩ := o_doc hN hy 7 1 (by omega) (by omega) (by omega) 0 0 0 0 t n c h i (by omega) (by omega) (by omega)
  rw [show fO_readDocument N 7 (0 : Int32) (1 : Int32) (0 : Int32) (0 : Int32) (0 : Int32) t n c h i (nn B) f = some u from e, o_bind]
  cases hp : pDoc B f 5 0 0 with
  | none =>
    have := a2 hp
    have hne : ¬ u.1 = nn B := by rw [this]; intro z; exact nn_ne1 (a := B) (by omega) z.symm
    rw [if_neg hne]
    exact ⟨_, rfl, fun x hx => (by cases hx), fun _ => rfl⟩
  | some x =>
    have hu := a1 x hp
    have hx1 := (pDoc_ok B f 5 0 0 x hp).1.2.1
    by_cases hB2 : x.1 = B
    · rw [if_pos (by rw [hu]; show nn x.1 = nn B; rw [hB2])]
      refine ⟨_, rfl, fun y hy _ => ?_, fun hz => absurd hB2 (hz x rfl)⟩
      cases hy
      rw [hu]
      unfold oOut
      dsimp only
      rw [Nat.zero_add, Nat.zero_add]
    · rw [if_neg (by rw [hu]; show ¬ nn x.1 = nn B; rw [nn_eq (by omega) (by omega)]; exact hB2)]
      refine ⟨_, rfl, fun y hy hz => ?_, fun _ => rfl⟩
      cases hy
      exact absurd hz hB2
