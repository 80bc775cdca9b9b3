/-! reading: what stands in the bytes, as lists of elements and documents -/
abbrev El : Type := Nat × Nat × Nat × Nat × Nat × Int32
abbrev Dc : Type := Nat × Nat
def eTy (e : El) : Int32 := nn e.1
def eNm (e : El) : Int32 := nn e.2.1
def eNl (e : El) : Int32 := nn e.2.2.1
def eCt (e : El) : Int32 := nn e.2.2.2.1
def eHo (e : El) : Int32 := nn e.2.2.2.2.1
def eCh (e : El) : Int32 := e.2.2.2.2.2
def bv (f : AI) (a : Nat) : Nat := (f a).toNatClampNeg
def txE (B : Nat) (f : AI) : Nat → Nat → Nat
  | 0, a => a
  | k + 1, a => if a < B ∧ 1 ≤ bv f a ∧ bv f a ≤ 127 then txE B f k (a + 1) else a
def tx (B : Nat) (f : AI) (a : Nat) : Nat := txE B f 120 a
def n4 (f : AI) (a : Nat) : Int32 := ((f a ||| (f (a + 1) <<< ((8 : Int32) &&& 31))) ||| (f (a + 2) <<< ((16 : Int32) &&& 31))) ||| (f (a + 3) <<< ((24 : Int32) &&& 31))
abbrev Pr : Type := Option (Nat × List El × List Dc)
def pCont (B : Nat) (f : AI) (rec : Nat → Nat → Pr) (ty ct dc : Nat) : Pr :=
  if ty = 2 then (if tx B f (ct + 4) < B ∧ bv f (tx B f (ct + 4)) = 0 ∧ n4 f ct = nn (tx B f (ct + 4) + 1 - (ct + 4)) then some (tx B f (ct + 4) + 1, [], []) else none) else
  if ty = 3 then rec ct dc else
  if ty = 8 then (if ct < B ∧ (bv f ct = 0 ∨ bv f ct = 1) then some (ct + 1, [], []) else none) else
  if ty = 10 then some (ct, [], []) else
  if ty = 16 then (if ct + 4 ≤ B then some (ct + 4, [], []) else none) else
  if ty = 18 then (if ct + 8 ≤ B then some (ct + 8, [], []) else none) else none
def pEl (B : Nat) (f : AI) (rec : Nat → Nat → Pr) (a dc ho : Nat) : Pr :=
  if tx B f (a + 1) < B ∧ bv f (tx B f (a + 1)) = 0 then (pCont B f rec (bv f a) (tx B f (a + 1) + 1) dc).map (fun r => (r.1, (bv f a, a + 1, tx B f (a + 1) - (a + 1), tx B f (a + 1) + 1, ho, if bv f a = 3 then nn dc else -1) :: r.2.1, r.2.2)) else none
def pEls (B : Nat) (f : AI) (rec : Nat → Nat → Pr) (ho : Nat) : Nat → Nat → Nat → Pr
  | 0, _, _ => none
  | k + 1, a, dc => if a < B then (if bv f a = 0 then some (a, [], []) else (pEl B f rec a dc ho).bind fun r => (pEls B f rec ho k r.1 (dc + r.2.2.length)).map fun s => (s.1, r.2.1 ++ s.2.1, r.2.2 ++ s.2.2)) else none
def pDoc (B : Nat) (f : AI) : Nat → Nat → Nat → Pr
  | 0, _, _ => none
  | r + 1, st, dc => if st + 4 ≤ B then (pEls B f (pDoc B f r) dc 121 (st + 4) (dc + 1)).bind fun s => (if n4 f st = nn (s.1 + 1 - st) then some (s.1 + 1, s.2.1, (st, 5 - r) :: s.2.2) else none) else none
theorem tx_ge (B : Nat) (f : AI) : ∀ k a, a ≤ txE B f k a ∧ txE B f k a ≤ a + k
  | 0, a => ⟨Nat.le_refl _, Nat.le_refl _⟩
  | k + 1, a => by
    unfold txE
    by_cases h : a < B ∧ 1 ≤ bv f a ∧ bv f a ≤ 127
    · rw [if_pos h]
      have := tx_ge B f k (a + 1)
      omega
    · rw [if_neg h]
      omega
theorem tx_le (B : Nat) (f : AI) (a : Nat) : a ≤ tx B f a := (tx_ge B f 120 a).1
/-- inside a text: bytes 1 .. 127 -/
theorem tx_in (B : Nat) (f : AI) : ∀ k a j, a ≤ j → j < txE B f k a → j < B ∧ 1 ≤ bv f j ∧ bv f j ≤ 127
  | 0, a, j, h1, h2 => by unfold txE at h2; omega
  | k + 1, a, j, h1, h2 => by
    unfold txE at h2
    by_cases h : a < B ∧ 1 ≤ bv f a ∧ bv f a ≤ 127
    · rw [if_pos h] at h2
      by_cases e : j = a
      · rw [e]; exact h
      · exact tx_in B f k (a + 1) j (by omega) h2
    · rw [if_neg h] at h2
      omega
/-- behind a text: no byte 1 .. 127 -/
theorem tx_out (B : Nat) (f : AI) : ∀ k a, B ≤ a + k → ¬ (txE B f k a < B ∧ 1 ≤ bv f (txE B f k a) ∧ bv f (txE B f k a) ≤ 127)
  | 0, a, h => by
    unfold txE
    omega
  | k + 1, a, h => by
    unfold txE
    by_cases h1 : a < B ∧ 1 ≤ bv f a ∧ bv f a ≤ 127
    · rw [if_pos h1]
      exact tx_out B f k (a + 1) (by omega)
    · rw [if_neg h1]
      exact h1
/-- how far a parse has come, and how much it has found -/
def pOk (B : Nat) (a0 : Nat) (x : Nat × List El × List Dc) : Prop := a0 ≤ x.1 ∧ x.1 ≤ B ∧ 4 * x.2.2.length + 2 * x.2.1.length + a0 ≤ x.1
def recOk (B : Nat) (rec : Nat → Nat → Pr) : Prop := ∀ st dc x, rec st dc = some x → pOk B st x ∧ x.2.2.length ≤ x.2.1.length + 1
theorem pCont_ok {B : Nat} {f : AI} {rec : Nat → Nat → Pr} (hr : recOk B rec) {ty ct dc : Nat} (hct : ct ≤ B) {x : Nat × List El × List Dc} (h : pCont B f rec ty ct dc = some x) : pOk B ct x ∧ x.2.2.length ≤ x.2.1.length + 1 := by
  have nil : ∀ b, ct ≤ b → b ≤ B → pOk B ct (b, [], []) ∧ ([] : List Dc).length ≤ ([] : List El).length + 1 := fun b h1 h2 => ⟨⟨h1, h2, by simpa using h1⟩, by simp⟩
  unfold pCont at h
  by_cases h2 : ty = 2
  · rw [if_pos h2] at h
    by_cases hc : tx B f (ct + 4) < B ∧ bv f (tx B f (ct + 4)) = 0 ∧ n4 f ct = nn (tx B f (ct + 4) + 1 - (ct + 4))
    · rw [if_pos hc] at h
      cases h
      have := tx_le B f (ct + 4)
      exact nil _ (by omega) (by omega)
    · rw [if_neg hc] at h; cases h
  · rw [if_neg h2] at h
    by_cases h3 : ty = 3
    · rw [if_pos h3] at h
      exact hr ct dc x h
    · rw [if_neg h3] at h
      by_cases h8 : ty = 8
      · rw [if_pos h8] at h
        by_cases hc : ct < B ∧ (bv f ct = 0 ∨ bv f ct = 1)
        · rw [if_pos hc] at h
          cases h
          exact nil _ (by omega) (by omega)
        · rw [if_neg hc] at h; cases h
      · rw [if_neg h8] at h
        by_cases h10 : ty = 10
        · rw [if_pos h10] at h
          cases h
          exact nil _ (by omega) (by omega)
        · rw [if_neg h10] at h
          by_cases h16 : ty = 16
          · rw [if_pos h16] at h
            by_cases hc : ct + 4 ≤ B
            · rw [if_pos hc] at h
              cases h
              exact nil _ (by omega) (by omega)
            · rw [if_neg hc] at h; cases h
          · rw [if_neg h16] at h
            by_cases h18 : ty = 18
            · rw [if_pos h18] at h
              by_cases hc : ct + 8 ≤ B
              · rw [if_pos hc] at h
                cases h
                exact nil _ (by omega) (by omega)
              · rw [if_neg hc] at h; cases h
            · rw [if_neg h18] at h; cases h
theorem pEl_ok {B : Nat} {f : AI} {rec : Nat → Nat → Pr} (hr : recOk B rec) {a dc ho : Nat} {x : Nat × List El × List Dc} (h : pEl B f rec a dc ho = some x) : pOk B a x ∧ x.2.2.length ≤ x.2.1.length ∧ a + 2 ≤ x.1 := by
  unfold pEl at h
  by_cases hc : tx B f (a + 1) < B ∧ bv f (tx B f (a + 1)) = 0
  · rw [if_pos hc] at h
    cases h1 : pCont B f rec (bv f a) (tx B f (a + 1) + 1) dc with
    | none => rw [h1] at h; cases h
    | some r =>
      rw [h1] at h
      cases h
      have := tx_le B f (a + 1)
      obtain ⟨⟨p1, p2, p3⟩, p4⟩ := pCont_ok hr (by omega) h1
      refine ⟨⟨?_, p2, ?_⟩, ?_, ?_⟩
      · show a ≤ r.1; omega
      · show 4 * r.2.2.length + 2 * (_ :: r.2.1).length + a ≤ r.1
        rw [List.length_cons]; omega
      · show r.2.2.length ≤ (_ :: r.2.1).length
        rw [List.length_cons]; omega
      · show a + 2 ≤ r.1; omega
  · rw [if_neg hc] at h; cases h
theorem pEls_ok {B : Nat} {f : AI} {rec : Nat → Nat → Pr} (hr : recOk B rec) {ho : Nat} : ∀ (k a dc : Nat) (x : Nat × List El × List Dc), pEls B f rec ho k a dc = some x → pOk B a x ∧ x.2.2.length ≤ x.2.1.length ∧ x.1 < B ∧ bv f x.1 = 0
  | 0, _, _, _, h => by cases h
  | k + 1, a, dc, x, h => by
    unfold pEls at h
    by_cases ha : a < B
    · rw [if_pos ha] at h
      by_cases hb : bv f a = 0
      · rw [if_pos hb] at h
        cases h
        exact ⟨⟨Nat.le_refl _, by omega, by simp⟩, by simp, ha, hb⟩
      · rw [if_neg hb] at h
        cases h1 : pEl B f rec a dc ho with
        | none => rw [h1] at h; cases h
        | some r =>
          rw [h1] at h
          cases h2 : pEls B f rec ho k r.1 (dc + r.2.2.length) with
          | none => rw [o_bind, h2] at h; cases h
          | some s =>
            rw [o_bind, h2] at h
            cases h
            obtain ⟨⟨p1, p2, p3⟩, p4, p5⟩ := pEl_ok hr h1
            obtain ⟨⟨q1, q2, q3⟩, q4, q5, q6⟩ := pEls_ok hr k _ _ s h2
            refine ⟨⟨?_, q2, ?_⟩, ?_, q5, q6⟩
            · show a ≤ s.1; omega
            · show 4 * (r.2.2 ++ s.2.2).length + 2 * (r.2.1 ++ s.2.1).length + a ≤ s.1
              rw [List.length_append, List.length_append]; omega
            · show (r.2.2 ++ s.2.2).length ≤ (r.2.1 ++ s.2.1).length
              rw [List.length_append, List.length_append]; omega
    · rw [if_neg ha] at h; cases h
theorem pDoc_ok (B : Nat) (f : AI) : ∀ r, recOk B (pDoc B f r)
  | 0 => fun _ _ _ h => by cases h
  | r + 1 => fun st dc x h => by
    unfold pDoc at h
    by_cases hs : st + 4 ≤ B
    · rw [if_pos hs] at h
      cases h1 : pEls B f (pDoc B f r) dc 121 (st + 4) (dc + 1) with
      | none => rw [h1] at h; cases h
      | some s =>
        rw [h1, o_bind] at h
        by_cases hn : n4 f st = nn (s.1 + 1 - st)
        · rw [if_pos hn] at h
          cases h
          obtain ⟨⟨q1, q2, q3⟩, q4, q5, q6⟩ := pEls_ok (pDoc_ok B f r) 121 _ _ s h1
          refine ⟨⟨?_, ?_, ?_⟩, ?_⟩
          · show st ≤ s.1 + 1; omega
          · show s.1 + 1 ≤ B; omega
          · show 4 * (_ :: s.2.2).length + 2 * s.2.1.length + st ≤ s.1 + 1
            rw [List.length_cons]; omega
          · show (_ :: s.2.2).length ≤ s.2.1.length + 1
            rw [List.length_cons]; omega
        · rw [if_neg hn] at h; cases h
    · rw [if_neg hs] at h; cases h
