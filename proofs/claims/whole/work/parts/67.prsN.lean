/-! reading, the reference: elements -/
abbrev R14 : Type := Int32 × Bool × Int32 × Int32 × Int32 × AI × AI × AI × AI × AI × AI × AI × AI × AI
section MRE
variable {N B : Nat} {f : AI} {a D E k ho : Nat} (s1 s2 s3 s4 s5 s6 s7 s8 s9 : AI)
/-- the head of an element is no head -/
theorem m_reH (hN : 200 ≤ N) (hy : yI B f) (ha : a < B) (hk : k < 5) (hD : D < 25) (hE : E < 60) (hc : ¬ (tx B f (a + 1) < B ∧ bv f (tx B f (a + 1)) = 0)) : ∃ x v, fM_readElement N (nn (bv f a)) (nn B) (nn (a + 1)) false (nn D) (nn E) (nn (k + 1)) f s1 s2 s3 s4 s5 s6 s7 s8 s9 = some (x, true, v) := by
  have hB := hy.1
  have hok : ok (nn E) 60 = true := nn_okt (by omega) hE
  have hok2 : ok (nn k) 6 = true := nn_okt (by omega) (by omega)
  obtain ⟨x, a', ha', e⟩ := (m_line hN hy (a := a + 1) (by omega)).2 hc
  unfold fM_readElement
  simp only [nn_p, if_pos hok, if_pos hok2]
  rw [e, o_bind]
  dsimp only
  obtain ⟨b1, g1, e1⟩ := m_skipT hN hB (f := f) (K := 4) (by omega) ha'
  obtain ⟨b2, g2, e2⟩ := m_skipT hN hB (f := f) (K := 8) (by omega) ha'
  obtain ⟨y, b3, g3, e3⟩ := m_lineT hN hB (f := f) g1
  obtain ⟨y4, v4, e4⟩ := m_rdocT hN hB (f := f) (k := k + 1) (by omega) hD ha' s1 s2 s9
  have e5 : ∃ z w, fM_next (nn B) (nn a') true f = some (z, w, true) := by
    by_cases hl : a' < B
    · exact ⟨_, _, m_next hB hl true⟩
    · exact ⟨_, _, m_nextF hB (by omega) (by omega) true⟩
  obtain ⟨z5, w5, e5⟩ := e5
  rw [show fM_skip N (4 : Int32) (nn B) (nn a') true f = _ from e1, show fM_skip N (8 : Int32) (nn B) (nn a') true f = _ from e2, o_bind, o_bind, o_bind, e4, o_bind, e5, o_bind]
  dsimp only
  rw [e3, o_bind]
  simp only [if_true]
  split
  · exact ⟨_, _, rfl⟩
  · split
    · exact ⟨_, _, rfl⟩
    · split
      · exact ⟨_, _, rfl⟩
      · split
        · exact ⟨_, _, rfl⟩
        · split
          · exact ⟨_, _, rfl⟩
          · exact ⟨_, _, rfl⟩
/-- an element whose content is a document -/
theorem m_re3 (hN : 200 ≤ N) (hy : yI B f) (ha : a < B) (hk : k < 5) (hE : E < 60) (hho : s9 k = nn ho) (h3 : bv f a = 3) (hc : tx B f (a + 1) < B ∧ bv f (tx B f (a + 1)) = 0) : fM_readElement N (nn (bv f a)) (nn B) (nn (a + 1)) false (nn D) (nn E) (nn (k + 1)) f s1 s2 s3 s4 s5 s6 s7 s8 s9 = (fM_readDocument N (nn B) (nn (tx B f (a + 1) + 1)) false (nn D) (nn (k + 1)) f s1 s2 s9).bind fun u => some (u.1, u.2.1, u.2.2.1, nn (E + 1), u.2.2.2.1, u.2.2.2.2.1, u.2.2.2.2.2.1, upd s3 E (nn ho), upd s4 E (nn (bv f a)), upd s5 E (nn (a + 1)), upd s6 E (nn (tx B f (a + 1) - (a + 1))), upd s7 E (nn (tx B f (a + 1) + 1)), upd s8 E (nn D), u.2.2.2.2.2.2) := by
  have hB := hy.1
  have hok : ok (nn E) 60 = true := nn_okt (by omega) hE
  have hok2 : ok (nn k) 6 = true := nn_okt (by omega) (by omega)
  unfold fM_readElement
  simp only [nn_p, if_pos hok, if_pos hok2]
  rw [(m_line hN hy (a := a + 1) (by omega)).1 hc, o_bind]
  dsimp only
  rw [h3, if_neg (c := nn 3 = (2 : Int32)) (by decide), if_pos (c := nn 3 = (3 : Int32)) rfl]
  simp only [nn_c (show E < 2147483648 by omega), nn_c (show k < 2147483648 by omega), hho, nn_s, upd_same]
/-- an element whose content is none -/
theorem m_reP (hN : 200 ≤ N) (hy : yI B f) (rec : Nat → Nat → Pr) (ha : a < B) (hk : k < 5) (hD : D < 25) (hE : E < 60) (hho : s9 k = nn ho) (h3 : ¬ bv f a = 3) : (∀ x, pEl B f rec a D ho = some x → fM_readElement N (nn (bv f a)) (nn B) (nn (a + 1)) false (nn D) (nn E) (nn (k + 1)) f s1 s2 s3 s4 s5 s6 s7 s8 s9 = some (nn x.1, false, nn D, nn (E + 1), nn (k + 1), s1, s2, upd s3 E (nn ho), upd s4 E (nn (bv f a)), upd s5 E (nn (a + 1)), upd s6 E (nn (tx B f (a + 1) - (a + 1))), upd s7 E (nn (tx B f (a + 1) + 1)), upd s8 E (-1), s9) ∧ x.2.1 = [(bv f a, a + 1, tx B f (a + 1) - (a + 1), tx B f (a + 1) + 1, ho, -1)] ∧ x.2.2 = []) ∧ (pEl B f rec a D ho = none → ∃ x v, fM_readElement N (nn (bv f a)) (nn B) (nn (a + 1)) false (nn D) (nn E) (nn (k + 1)) f s1 s2 s3 s4 s5 s6 s7 s8 s9 = some (x, true, v)) := by
  have hB := hy.1
  have hok : ok (nn E) 60 = true := nn_okt (by omega) hE
  have hok2 : ok (nn k) 6 = true := nn_okt (by omega) (by omega)
  obtain ⟨eb, hb⟩ := bv_eq hy ha
  by_cases hc : tx B f (a + 1) < B ∧ bv f (tx B f (a + 1)) = 0
  · unfold pEl
    rw [if_pos hc, if_neg h3]
    generalize hct : tx B f (a + 1) + 1 = ct
    have hctB : ct ≤ B := by omega
    have hline := (m_line hN hy (a := a + 1) (by omega)).1 hc
    rw [hct] at hline
    have key : (∀ b, pCont B f rec (bv f a) ct D = some (b, [], []) → fM_readElement N (nn (bv f a)) (nn B) (nn (a + 1)) false (nn D) (nn E) (nn (k + 1)) f s1 s2 s3 s4 s5 s6 s7 s8 s9 = some (nn b, false, nn D, nn (E + 1), nn (k + 1), s1, s2, upd s3 E (nn ho), upd s4 E (nn (bv f a)), upd s5 E (nn (a + 1)), upd s6 E (nn (tx B f (a + 1) - (a + 1))), upd s7 E (nn ct), upd s8 E (-1), s9)) ∧ (pCont B f rec (bv f a) ct D = none → ∃ x v, fM_readElement N (nn (bv f a)) (nn B) (nn (a + 1)) false (nn D) (nn E) (nn (k + 1)) f s1 s2 s3 s4 s5 s6 s7 s8 s9 = some (x, true, v)) ∧ (∀ x, pCont B f rec (bv f a) ct D = some x → ∃ b, x = (b, [], [])) := by
      unfold fM_readElement pCont
      simp only [nn_p, if_pos hok, if_pos hok2]
      rw [hline, o_bind]
      dsimp only
      simp only [nn_c (show E < 2147483648 by omega), nn_c (show k < 2147483648 by omega), hho, nn_s, upd_at]
      have q2 : nn (bv f a) = (2 : Int32) ↔ bv f a = 2 := nn_eq (b := 2) (by omega) (by omega)
      have q3 : nn (bv f a) = (3 : Int32) ↔ bv f a = 3 := nn_eq (b := 3) (by omega) (by omega)
      have q8 : nn (bv f a) = (8 : Int32) ↔ bv f a = 8 := nn_eq (b := 8) (by omega) (by omega)
      have q10 : nn (bv f a) = (10 : Int32) ↔ bv f a = 10 := nn_eq (b := 10) (by omega) (by omega)
      have q16 : nn (bv f a) = (16 : Int32) ↔ bv f a = 16 := nn_eq (b := 16) (by omega) (by omega)
      have q18 : nn (bv f a) = (18 : Int32) ↔ bv f a = 18 := nn_eq (b := 18) (by omega) (by omega)
      obtain ⟨k4, f4⟩ := m_skip hN hB (f := f) (K := 4) (by omega) hctB false
      obtain ⟨k8, f8⟩ := m_skip hN hB (f := f) (K := 8) (by omega) hctB false
      by_cases h2 : bv f a = 2
      · rw [if_pos (q2.mpr h2), if_pos h2]
        by_cases h4 : ct + 4 ≤ B
        · rw [show fM_skip N (4 : Int32) (nn B) (nn ct) false f = _ from k4 h4, o_bind]
          dsimp only
          have htx := tx_le B f (ct + 4)
          by_cases hl : tx B f (ct + 4) < B ∧ bv f (tx B f (ct + 4)) = 0
          · rw [(m_line hN hy h4).1 hl, o_bind]
            dsimp only
            rw [if_neg (c := false = true) (by decide), m_num4 (by omega), o_bind, nn_s, show tx B f (ct + 4) - (ct + 4) + 1 = tx B f (ct + 4) + 1 - (ct + 4) by omega]
            by_cases hn : n4 f ct = nn (tx B f (ct + 4) + 1 - (ct + 4))
            · rw [if_pos hn, if_pos ⟨hl.1, hl.2, hn⟩]
              refine ⟨fun b hb => ?_, fun h => (by cases h), fun x hx => ?_⟩
              · cases hb; rfl
              · cases hx; exact ⟨_, rfl⟩
            · rw [if_neg hn, if_neg (fun z => hn z.2.2)]
              exact ⟨fun b hb => (by cases hb), fun _ => ⟨_, _, rfl⟩, fun x hx => (by cases hx)⟩
          · obtain ⟨y, a', _, e⟩ := (m_line hN hy h4).2 hl
            rw [e, o_bind]
            dsimp only
            rw [if_pos (c := true = true) rfl, if_neg (fun z => hl ⟨z.1, z.2.1⟩)]
            exact ⟨fun b hb => (by cases hb), fun _ => ⟨_, _, rfl⟩, fun x hx => (by cases hx)⟩
        · obtain ⟨a', ha', e⟩ := f4 h4
          obtain ⟨y, b3, _, e3⟩ := m_lineT hN hB (f := f) ha'
          rw [show fM_skip N (4 : Int32) (nn B) (nn ct) false f = _ from e, o_bind]
          dsimp only
          rw [e3, o_bind]
          dsimp only
          have htx := tx_le B f (ct + 4)
          rw [if_pos (c := true = true) rfl, if_neg (by omega)]
          exact ⟨fun b hb => (by cases hb), fun _ => ⟨_, _, rfl⟩, fun x hx => (by cases hx)⟩
      · rw [if_neg (fun z => h2 (q2.mp z)), if_neg h2, if_neg (fun z => h3 (q3.mp z)), if_neg h3]
        by_cases h8 : bv f a = 8
        · rw [if_pos (q8.mpr h8), if_pos h8]
          by_cases hl : ct < B
          · obtain ⟨ec, hcb⟩ := bv_eq hy hl
            rw [m_next hB hl, o_bind]
            dsimp only
            have hle : f ct ≤ (1 : Int32) ↔ bv f ct ≤ 1 := by
              rw [ec, show (1 : Int32) = nn 1 from rfl, nn_le (by omega) (by omega)]
            rw [if_neg (c := false = true) (by decide)]
            by_cases h1 : bv f ct ≤ 1
            · rw [if_pos (hle.mpr h1), if_pos ⟨hl, by omega⟩]
              refine ⟨fun b hb => ?_, fun h => (by cases h), fun x hx => ?_⟩
              · cases hb; rfl
              · cases hx; exact ⟨_, rfl⟩
            · rw [if_neg (fun z => h1 (hle.mp z)), if_neg (by omega)]
              exact ⟨fun b hb => (by cases hb), fun _ => ⟨_, _, rfl⟩, fun x hx => (by cases hx)⟩
          · rw [m_nextF hB (by omega) (by omega), o_bind]
            dsimp only
            rw [if_pos (c := true = true) rfl, if_neg (fun z => hl z.1)]
            exact ⟨fun b hb => (by cases hb), fun _ => ⟨_, _, rfl⟩, fun x hx => (by cases hx)⟩
        · rw [if_neg (fun z => h8 (q8.mp z)), if_neg h8]
          by_cases h16 : bv f a = 16
          · rw [if_pos (q16.mpr h16), if_pos (q16.mpr h16), if_neg (show ¬ bv f a = 10 by omega), if_pos h16]
            by_cases h4 : ct + 4 ≤ B
            · rw [show fM_skip N (4 : Int32) (nn B) (nn ct) false f = _ from k4 h4, o_bind, if_pos h4]
              refine ⟨fun b hb => ?_, fun h => (by cases h), fun x hx => ?_⟩
              · cases hb; rfl
              · cases hx; exact ⟨_, rfl⟩
            · obtain ⟨a', ha', e⟩ := f4 h4
              rw [show fM_skip N (4 : Int32) (nn B) (nn ct) false f = _ from e, o_bind, if_neg h4]
              exact ⟨fun b hb => (by cases hb), fun _ => ⟨_, _, rfl⟩, fun x hx => (by cases hx)⟩
          · rw [if_neg (fun z => h16 (q16.mp z))]
            by_cases h18 : bv f a = 18
            · rw [if_pos (q18.mpr h18), if_neg (fun z => h16 (q16.mp z)), if_neg (show ¬ bv f a = 10 by omega), if_neg h16, if_pos h18]
              by_cases h4 : ct + 8 ≤ B
              · rw [show fM_skip N (8 : Int32) (nn B) (nn ct) false f = _ from k8 h4, o_bind, if_pos h4]
                refine ⟨fun b hb => ?_, fun h => (by cases h), fun x hx => ?_⟩
                · cases hb; rfl
                · cases hx; exact ⟨_, rfl⟩
              · obtain ⟨a', ha', e⟩ := f8 h4
                rw [show fM_skip N (8 : Int32) (nn B) (nn ct) false f = _ from e, o_bind, if_neg h4]
                exact ⟨fun b hb => (by cases hb), fun _ => ⟨_, _, rfl⟩, fun x hx => (by cases hx)⟩
            · rw [if_neg (fun z => h18 (q18.mp z)), if_neg (c := false = true) (by decide)]
              by_cases h10 : bv f a = 10
              · rw [if_pos (q10.mpr h10), if_pos h10]
                refine ⟨fun b hb => ?_, fun h => (by cases h), fun x hx => ?_⟩
                · cases hb; rfl
                · cases hx; exact ⟨_, rfl⟩
              · rw [if_neg (fun z => h10 (q10.mp z)), if_neg h10, if_neg h16, if_neg h18]
                exact ⟨fun b hb => (by cases hb), fun _ => ⟨_, _, rfl⟩, fun x hx => (by cases hx)⟩
    obtain ⟨k1, k2, k3⟩ := key
    constructor
    · intro x hx
      cases hp : pCont B f rec (bv f a) ct D with
      | none => rw [hp] at hx; cases hx
      | some r =>
        rw [hp] at hx
        cases hx
        obtain ⟨b, rfl⟩ := k3 r hp
        exact ⟨k1 b hp, rfl, rfl⟩
    · intro hx
      cases hp : pCont B f rec (bv f a) ct D with
      | none => exact k2 hp
      | some r => rw [hp] at hx; cases hx
  · have hn : pEl B f rec a D ho = none := by unfold pEl; rw [if_neg hc]
    exact ⟨fun x hx => (by rw [hn] at hx; cases hx), fun _ => m_reH s1 s2 s3 s4 s5 s6 s7 s8 s9 hN hy ha hk hD hE hc⟩
end MRE
