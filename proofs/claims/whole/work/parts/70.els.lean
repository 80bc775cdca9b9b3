/-! what is known of the elements that were read -/
def gEl (B : Nat) (f : AI) (e : El) : Prop := e.2.1 + e.2.2.1 < B ∧ (∀ j, e.2.1 ≤ j → j < e.2.1 + e.2.2.1 → 1 ≤ bv f j ∧ bv f j ≤ 127) ∧ bv f (e.2.1 + e.2.2.1) = 0 ∧ e.2.2.2.1 = e.2.1 + e.2.2.1 + 1 ∧ (e.1 = 2 → e.2.2.2.1 + 5 ≤ B) ∧ (e.1 = 8 → e.2.2.2.1 < B) ∧ (e.1 = 16 → e.2.2.2.1 + 4 ≤ B) ∧ (e.1 = 18 → e.2.2.2.1 + 8 ≤ B) ∧ (e.1 = 2 ∨ e.1 = 3 ∨ e.1 = 8 ∨ e.1 = 10 ∨ e.1 = 16 ∨ e.1 = 18)
/-- holders and inner documents: elements of the document ho, and of documents from dc on -/
def tEl (ho dc hi : Nat) (e : El) : Prop := (e.2.2.2.2.1 = ho ∨ dc ≤ e.2.2.2.2.1) ∧ e.2.2.2.2.1 < hi ∧ (e.1 = 3 → ∃ d, e.2.2.2.2.2 = nn d ∧ e.2.2.2.2.1 < d ∧ dc ≤ d ∧ d < hi) ∧ (¬ e.1 = 3 → e.2.2.2.2.2 = -1)
def pS (B : Nat) (f : AI) (ho dc : Nat) (els : List El) (ds : List Dc) : Prop := (∀ e, e ∈ els → gEl B f e ∧ tEl ho dc (dc + ds.length) e) ∧ ∀ d, dc ≤ d → d < dc + ds.length → ∃ e, e ∈ els ∧ e.1 = 3 ∧ e.2.2.2.2.2 = nn d ∧ e.2.2.2.2.1 < d
def recS (B : Nat) (f : AI) (rec : Nat → Nat → Pr) : Prop := ∀ st dc x, rec st dc = some x → 1 ≤ x.2.2.length ∧ pS B f dc (dc + 1) x.2.1 (x.2.2.drop 1)
theorem tEl_up {ho dc hi hi' : Nat} {e : El} (h : tEl ho dc hi e) (hh : hi ≤ hi') : tEl ho dc hi' e := by
  obtain ⟨h1, h2, h3, h4⟩ := h
  refine ⟨h1, by omega, fun z => ?_, h4⟩
  obtain ⟨d, a, b, c, g⟩ := h3 z
  exact ⟨d, a, b, c, by omega⟩
theorem pCont_ty {B : Nat} {f : AI} {rec : Nat → Nat → Pr} {ty ct dc : Nat} {x : Nat × List El × List Dc} (h : pCont B f rec ty ct dc = some x) : (ty = 2 → ct + 5 ≤ B) ∧ (ty = 8 → ct < B) ∧ (ty = 16 → ct + 4 ≤ B) ∧ (ty = 18 → ct + 8 ≤ B) ∧ (ty = 2 ∨ ty = 3 ∨ ty = 8 ∨ ty = 10 ∨ ty = 16 ∨ ty = 18) ∧ (ty = 3 → rec ct dc = some x) ∧ (¬ ty = 3 → x.2.1 = [] ∧ x.2.2 = []) := by
  have htx := tx_le B f (ct + 4)
  unfold pCont at h
  split at h
  · rename_i h2
    split at h
    · rename_i hc
      cases h
      exact ⟨fun _ => by omega, fun _ => by omega, fun _ => by omega, fun _ => by omega, Or.inl h2, fun _ => by omega, fun _ => ⟨rfl, rfl⟩⟩
    · cases h
  · split at h
    · rename_i h3
      exact ⟨fun _ => by omega, fun _ => by omega, fun _ => by omega, fun _ => by omega, Or.inr (Or.inl h3), fun _ => h, fun z => absurd h3 z⟩
    · split at h
      · rename_i h8
        split at h
        · rename_i hc
          cases h
          exact ⟨fun _ => by omega, fun _ => hc.1, fun _ => by omega, fun _ => by omega, by omega, fun _ => by omega, fun _ => ⟨rfl, rfl⟩⟩
        · cases h
      · split at h
        · rename_i h10
          cases h
          exact ⟨fun _ => by omega, fun _ => by omega, fun _ => by omega, fun _ => by omega, by omega, fun _ => by omega, fun _ => ⟨rfl, rfl⟩⟩
        · split at h
          · split at h
            · cases h
              exact ⟨fun _ => by omega, fun _ => by omega, fun _ => by omega, fun _ => by omega, by omega, fun _ => by omega, fun _ => ⟨rfl, rfl⟩⟩
            · cases h
          · split at h
            · split at h
              · cases h
                exact ⟨fun _ => by omega, fun _ => by omega, fun _ => by omega, fun _ => by omega, by omega, fun _ => by omega, fun _ => ⟨rfl, rfl⟩⟩
              · cases h
            · cases h
theorem pS_el {B : Nat} {f : AI} {rec : Nat → Nat → Pr} (hr : recS B f rec) {a dc ho : Nat} (hho : ho < dc) {x : Nat × List El × List Dc} (h : pEl B f rec a dc ho = some x) : pS B f ho dc x.2.1 x.2.2 := by
  have htx := tx_le B f (a + 1)
  unfold pEl at h
  by_cases hc : tx B f (a + 1) < B ∧ bv f (tx B f (a + 1)) = 0
  · rw [if_pos hc] at h
    cases h1 : pCont B f rec (bv f a) (tx B f (a + 1) + 1) dc with
    | none => rw [h1] at h; cases h
    | some r =>
      rw [h1] at h
      cases h
      obtain ⟨c1, c2, c3, c4, c5, c6, c7⟩ := pCont_ty h1
      have hin := tx_in B f 120 (a + 1)
      have g0 : ∀ ch, gEl B f (bv f a, a + 1, tx B f (a + 1) - (a + 1), tx B f (a + 1) + 1, ho, ch) := by
        intro ch
        refine ⟨?_, ?_, ?_, ?_, c1, c2, c3, c4, c5⟩
        · show a + 1 + (tx B f (a + 1) - (a + 1)) < B; omega
        · intro j hj1 hj2
          have hj2 : j < a + 1 + (tx B f (a + 1) - (a + 1)) := hj2
          exact (hin j hj1 (show j < tx B f (a + 1) by omega)).2
        · show bv f (a + 1 + (tx B f (a + 1) - (a + 1))) = 0
          rw [show a + 1 + (tx B f (a + 1) - (a + 1)) = tx B f (a + 1) by omega]
          exact hc.2
        · show tx B f (a + 1) + 1 = a + 1 + (tx B f (a + 1) - (a + 1)) + 1; omega
      by_cases h3 : bv f a = 3
      · obtain ⟨l1, s1, s2⟩ := hr _ _ r (c6 h3)
        have hlen : dc + 1 + (r.2.2.drop 1).length = dc + r.2.2.length := by rw [List.length_drop]; omega
        rw [hlen] at s2
        refine ⟨fun e he => ?_, fun d hd1 hd2 => ?_⟩
        · rcases List.mem_cons.mp he with q | q
          · rw [q]
            refine ⟨g0 _, Or.inl rfl, ?_, fun _ => ⟨dc, by show (if bv f a = 3 then nn dc else -1) = _; rw [if_pos h3], hho, Nat.le_refl _, ?_⟩, fun z => absurd h3 z⟩
            · show ho < dc + r.2.2.length; omega
            · show dc < dc + r.2.2.length; omega
          · obtain ⟨g1, g2⟩ := s1 e q
            rw [hlen] at g2
            obtain ⟨t1, t2, t3, t4⟩ := g2
            refine ⟨g1, Or.inr (t1.elim (fun z => Nat.le_of_eq z.symm) (fun z => Nat.le_of_succ_le z)), t2, fun z => ?_, t4⟩
            obtain ⟨d, a1, a2, a3, a4⟩ := t3 z
            exact ⟨d, a1, a2, Nat.le_of_succ_le a3, a4⟩
        · by_cases e : d = dc
          · exact ⟨_, List.mem_cons_self, h3, by show (if bv f a = 3 then nn dc else -1) = _; rw [if_pos h3, e], by show ho < d; omega⟩
          · obtain ⟨el, m1, m2⟩ := s2 d (by omega) hd2
            exact ⟨el, List.mem_cons_of_mem _ m1, m2⟩
      · obtain ⟨e1, e2⟩ := c7 h3
        refine ⟨fun e he => ?_, fun d hd1 hd2 => ?_⟩
        · change e ∈ _ :: r.2.1 at he
          rw [e1] at he
          rw [List.mem_singleton.mp he]
          refine ⟨g0 _, Or.inl rfl, ?_, fun z => absurd z h3, fun _ => ?_⟩
          · show ho < dc + r.2.2.length; omega
          · show (if bv f a = 3 then nn dc else -1) = _; rw [if_neg h3]
        · change d < dc + r.2.2.length at hd2
          rw [e2] at hd2
          simp at hd2
          omega
  · rw [if_neg hc] at h; cases h
theorem pS_app {B : Nat} {f : AI} {ho dc : Nat} {e1 e2 : List El} {d1 d2 : List Dc} (h1 : pS B f ho dc e1 d1) (h2 : pS B f ho (dc + d1.length) e2 d2) : pS B f ho dc (e1 ++ e2) (d1 ++ d2) := by
  refine ⟨fun e he => ?_, fun d hd1 hd2 => ?_⟩
  · rcases List.mem_append.mp he with q | q
    · obtain ⟨a, b⟩ := h1.1 e q
      exact ⟨a, tEl_up b (by rw [List.length_append]; omega)⟩
    · obtain ⟨a, t1, t2, t3, t4⟩ := h2.1 e q
      refine ⟨a, t1.elim Or.inl (fun z => Or.inr (by omega)), by rw [List.length_append]; omega, fun z => ?_, t4⟩
      obtain ⟨d, a1, a2, a3, a4⟩ := t3 z
      exact ⟨d, a1, a2, by omega, by rw [List.length_append]; omega⟩
  · rw [List.length_append] at hd2
    by_cases hd : d < dc + d1.length
    · obtain ⟨e, m1, m2⟩ := h1.2 d hd1 hd
      exact ⟨e, List.mem_append_left _ m1, m2⟩
    · obtain ⟨e, m1, m2⟩ := h2.2 d (by omega) (by omega)
      exact ⟨e, List.mem_append_right _ m1, m2⟩
theorem pS_els {B : Nat} {f : AI} {rec : Nat → Nat → Pr} (hr : recS B f rec) {ho : Nat} : ∀ (k a dc : Nat) (x : Nat × List El × List Dc), ho < dc → pEls B f rec ho k a dc = some x → pS B f ho dc x.2.1 x.2.2
  | 0, _, _, _, _, h => by cases h
  | k + 1, a, dc, x, hho, h => by
    unfold pEls at h
    by_cases ha : a < B
    · rw [if_pos ha] at h
      by_cases hb : bv f a = 0
      · rw [if_pos hb] at h
        cases h
        exact ⟨fun e he => (by cases he), fun d h1 h2 => by simp at h2; omega⟩
      · rw [if_neg hb] at h
        cases h1 : pEl B f rec a dc ho with
        | none => rw [h1] at h; cases h
        | some r =>
          rw [h1] at h
          cases h2 : pEls B f rec ho k r.1 (dc + r.2.2.length) with
          | none => rw [o_bind, h2] at h; cases h
          | some s =>
            rw [o_bind, h2] at h
            cases h
            exact pS_app (pS_el hr hho h1) (pS_els hr k _ _ s (by omega) h2)
    · rw [if_neg ha] at h; cases h
theorem pS_doc (B : Nat) (f : AI) : ∀ r, recS B f (pDoc B f r)
  | 0 => fun _ _ _ h => by cases h
  | r + 1 => fun st dc x h => by
    unfold pDoc at h
    by_cases hs : st + 4 ≤ B
    · rw [if_pos hs] at h
      cases h1 : pEls B f (pDoc B f r) dc 121 (st + 4) (dc + 1) with
      | none => rw [h1] at h; cases h
      | some s =>
        rw [h1, o_bind] at h
        by_cases hn : n4 f st = nn (s.1 + 1 - st)
        · rw [if_pos hn] at h
          cases h
          exact ⟨by show 1 ≤ (_ :: s.2.2).length; rw [List.length_cons]; omega, pS_els (pS_doc B f r) 121 _ _ s (by omega) h1⟩
        · rw [if_neg hn] at h; cases h
    · rw [if_neg hs] at h; cases h
