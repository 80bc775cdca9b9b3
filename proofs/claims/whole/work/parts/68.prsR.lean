/-! reading, the reference: its loop over the open documents -/
def dS (d : Dc) : Int32 := nn d.1
def dD (d : Dc) : Int32 := nn d.2
section RL
variable {N B : Nat} {f : AI}
theorem rl_fail (q : Nat) (x D E dp : Int32) (s1 s2 s3 s4 s5 s6 s7 s8 s9 : AI) : ∃ v, fM_read_29l N (nn B) f (q + 1) (x, true, D, E, dp, s1, s2, s3, s4, s5, s6, s7, s8, s9) = some (false, v) := by
  show ∃ v, fM_read_29 N (nn B) f (fM_read_29l N (nn B) f q) x true D E dp s1 s2 s3 s4 s5 s6 s7 s8 s9 = some (false, v)
  unfold fM_read_29
  by_cases h : dp ≤ 0
  · rw [if_pos h, if_pos rfl]; exact ⟨_, rfl⟩
  · rw [if_neg h, if_pos rfl, if_pos rfl]; exact ⟨_, rfl⟩
theorem rl_step (q a k : Nat) (hk : k < 5) (D E : Int32) (s1 s2 s3 s4 s5 s6 s7 s8 s9 : AI) : fM_read_29l N (nn B) f (q + 1) (nn a, false, D, E, nn (k + 1), s1, s2, s3, s4, s5, s6, s7, s8, s9) = fM_read_29 N (nn B) f (fM_read_29l N (nn B) f q) (nn a) false D E (nn (k + 1)) s1 s2 s3 s4 s5 s6 s7 s8 s9 := rfl
theorem rl_eof (hB : B ≤ 120) (q : Nat) {a k : Nat} (ha : a = B) (hk : k < 5) (D E : Int32) (s1 s2 s3 s4 s5 s6 s7 s8 s9 : AI) : fM_read_29l N (nn B) f (q + 1) (nn a, false, D, E, nn (k + 1), s1, s2, s3, s4, s5, s6, s7, s8, s9) = fM_read_29l N (nn B) f q (nn a, true, D, E, nn k, s1, s2, s3, s4, s5, s6, s7, s8, s9) := by
  rw [rl_step q a k hk]
  unfold fM_read_29
  rw [if_neg (c := nn (k + 1) ≤ 0) (by rw [show (0 : Int32) = nn 0 from rfl, nn_le (by omega) (by omega)]; omega), if_neg (c := false = true) (by decide), m_nextF hB (by omega) (by omega), o_bind]
  dsimp only
  rw [if_pos (c := (0 : Int32) ≤ 0) (by decide), if_pos (c := true = true) rfl, nn_p]
theorem rl_end (hy : yI B f) (q : Nat) {a k dcur st : Nat} (ha : a < B) (hb : bv f a = 0) (hk : k < 5) (hd : dcur < 25) (hst : st + 4 ≤ a) (D E : Int32) (s1 s2 s3 s4 s5 s6 s7 s8 s9 : AI) (h9 : s9 k = nn dcur) (h1 : s1 dcur = nn st) : fM_read_29l N (nn B) f (q + 1) (nn a, false, D, E, nn (k + 1), s1, s2, s3, s4, s5, s6, s7, s8, s9) = if n4 f st = nn (a + 1 - st) then fM_read_29l N (nn B) f q (nn (a + 1), false, D, E, nn k, s1, s2, s3, s4, s5, s6, s7, s8, s9) else fM_read_29l N (nn B) f q (nn (a + 1), true, D, E, nn k, s1, s2, s3, s4, s5, s6, s7, s8, s9) := by
  have hB := hy.1
  have hok : ok (nn k) 6 = true := nn_okt (by omega) (by omega)
  have hok2 : ok (nn dcur) 25 = true := nn_okt (by omega) hd
  obtain ⟨eb, -⟩ := bv_eq hy ha
  have e0 : f a = 0 := by rw [eb, hb]; rfl
  rw [rl_step q a k hk]
  unfold fM_read_29
  rw [if_neg (c := nn (k + 1) ≤ 0) (by rw [show (0 : Int32) = nn 0 from rfl, nn_le (by omega) (by omega)]; omega), if_neg (c := false = true) (by decide), m_next hB ha, o_bind]
  dsimp only
  rw [e0, if_pos (c := (0 : Int32) ≤ 0) (by decide), if_neg (c := false = true) (by decide)]
  simp only [nn_p, if_pos hok, nn_c (show k < 2147483648 by omega), h9, if_pos hok2, nn_c (show dcur < 2147483648 by omega), h1]
  rw [m_num4 (by omega), o_bind, nn_sub (by omega)]
theorem rl_el (hy : yI B f) (q : Nat) {a k : Nat} (ha : a < B) (hb : 1 ≤ bv f a) (hk : k < 5) (D E : Int32) (s1 s2 s3 s4 s5 s6 s7 s8 s9 : AI) : fM_read_29l N (nn B) f (q + 1) (nn a, false, D, E, nn (k + 1), s1, s2, s3, s4, s5, s6, s7, s8, s9) = (fM_readElement N (nn (bv f a)) (nn B) (nn (a + 1)) false D E (nn (k + 1)) f s1 s2 s3 s4 s5 s6 s7 s8 s9).bind fun u => fM_read_29l N (nn B) f q u := by
  have hB := hy.1
  obtain ⟨eb, hb2⟩ := bv_eq hy ha
  rw [rl_step q a k hk]
  unfold fM_read_29
  rw [if_neg (c := nn (k + 1) ≤ 0) (by rw [show (0 : Int32) = nn 0 from rfl, nn_le (by omega) (by omega)]; omega), if_neg (c := false = true) (by decide), m_next hB ha, o_bind]
  dsimp only
  rw [eb, if_neg (c := nn (bv f a) ≤ 0) (by rw [show (0 : Int32) = nn 0 from rfl, nn_le (by omega) (by omega)]; omega), if_neg (c := false = true) (by decide)]
end RL
theorem wr3 {α : Type} (g : α → Int32) (s : AI) (E : Nat) (e : α) (l1 l2 : List α) : wr (wr (upd s E (g e)) (E + 1) (l1.map g)) (E + (e :: l1).length) (l2.map g) = wr s E ((e :: l1 ++ l2).map g) := by
  rw [List.length_cons, show E + (l1.length + 1) = E + 1 + (l1.map g).length by rw [List.length_map]; omega, ← wr_app, ← List.map_append]
  rfl
theorem wr_in {α : Type} (g : α → Int32) (s : AI) (E : Nat) (l1 l2 : List α) : wr (wr s E (l1.map g)) (E + l1.length) (l2.map g) = wr s E ((l1 ++ l2).map g) := by
  rw [List.map_append, wr_app, List.length_map]
/-- the loop goes on behind an element -/
theorem rf_go {N B : Nat} {f : AI} {rec : Nat → Nat → Pr} (hro : recOk B rec) {k : Nat} {m : Nat} (a D E dcur st : Nat) (s1 s2 s3 s4 s5 s6 s7 s8 s9 : AI) (ha : a < B) (hb : 1 ≤ bv f a) (r : Nat × List El × List Dc) (hel : pEl B f rec a D dcur = some r) (hr1 : a + 2 ≤ r.1) (j1 : Nat) (hj1 : j1 ≤ r.1 - a) (t9 : AI) (ht9 : ∀ y, y < k → t9 y = s9 y)
    (hgo : ∀ q, fM_read_29l N (nn B) f (q + j1) (nn a, false, nn D, nn E, nn (k + 1), s1, s2, s3, s4, s5, s6, s7, s8, s9) = fM_read_29l N (nn B) f q (nn r.1, false, nn (D + r.2.2.length), nn (E + r.2.1.length), nn (k + 1), wr s1 D (r.2.2.map dS), wr s2 D (r.2.2.map dD), wr s3 E (r.2.1.map eHo), wr s4 E (r.2.1.map eTy), wr s5 E (r.2.1.map eNm), wr s6 E (r.2.1.map eNl), wr s7 E (r.2.1.map eCt), wr s8 E (r.2.1.map eCh), t9))
    (ih : ((∀ x, pEls B f rec dcur m r.1 (D + r.2.2.length) = some x → n4 f st = nn (x.1 + 1 - st) → ∃ j s9', j ≤ x.1 + 1 - r.1 ∧ (∀ y, y < k → s9' y = t9 y) ∧ ∀ q, fM_read_29l N (nn B) f (q + j) (nn r.1, false, nn (D + r.2.2.length), nn (E + r.2.1.length), nn (k + 1), (wr s1 D (r.2.2.map dS)), (wr s2 D (r.2.2.map dD)), (wr s3 E (r.2.1.map eHo)), (wr s4 E (r.2.1.map eTy)), (wr s5 E (r.2.1.map eNm)), (wr s6 E (r.2.1.map eNl)), (wr s7 E (r.2.1.map eCt)), (wr s8 E (r.2.1.map eCh)), t9) = fM_read_29l N (nn B) f q (nn (x.1 + 1), false, nn ((D + r.2.2.length) + x.2.2.length), nn ((E + r.2.1.length) + x.2.1.length), nn k, wr (wr s1 D (r.2.2.map dS)) (D + r.2.2.length) (x.2.2.map dS), wr (wr s2 D (r.2.2.map dD)) (D + r.2.2.length) (x.2.2.map dD), wr (wr s3 E (r.2.1.map eHo)) (E + r.2.1.length) (x.2.1.map eHo), wr (wr s4 E (r.2.1.map eTy)) (E + r.2.1.length) (x.2.1.map eTy), wr (wr s5 E (r.2.1.map eNm)) (E + r.2.1.length) (x.2.1.map eNm), wr (wr s6 E (r.2.1.map eNl)) (E + r.2.1.length) (x.2.1.map eNl), wr (wr s7 E (r.2.1.map eCt)) (E + r.2.1.length) (x.2.1.map eCt), wr (wr s8 E (r.2.1.map eCh)) (E + r.2.1.length) (x.2.1.map eCh), s9')) ∧ ((∀ x, pEls B f rec dcur m r.1 (D + r.2.2.length) = some x → ¬ n4 f st = nn (x.1 + 1 - st)) → ∃ j, j ≤ B + 4 - r.1 ∧ ∀ q, ∃ v, fM_read_29l N (nn B) f (q + j) (nn r.1, false, nn (D + r.2.2.length), nn (E + r.2.1.length), nn (k + 1), (wr s1 D (r.2.2.map dS)), (wr s2 D (r.2.2.map dD)), (wr s3 E (r.2.1.map eHo)), (wr s4 E (r.2.1.map eTy)), (wr s5 E (r.2.1.map eNm)), (wr s6 E (r.2.1.map eNl)), (wr s7 E (r.2.1.map eCt)), (wr s8 E (r.2.1.map eCh)), t9) = some (false, v)))) (hrB : r.1 ≤ B) : (∀ x, pEls B f rec dcur (m + 1) a D = some x → n4 f st = nn (x.1 + 1 - st) → ∃ j s9', j ≤ x.1 + 1 - a ∧ (∀ y, y < k → s9' y = s9 y) ∧ ∀ q, fM_read_29l N (nn B) f (q + j) (nn a, false, nn D, nn E, nn (k + 1), s1, s2, s3, s4, s5, s6, s7, s8, s9) = fM_read_29l N (nn B) f q (nn (x.1 + 1), false, nn (D + x.2.2.length), nn (E + x.2.1.length), nn k, wr s1 D (x.2.2.map dS), wr s2 D (x.2.2.map dD), wr s3 E (x.2.1.map eHo), wr s4 E (x.2.1.map eTy), wr s5 E (x.2.1.map eNm), wr s6 E (x.2.1.map eNl), wr s7 E (x.2.1.map eCt), wr s8 E (x.2.1.map eCh), s9')) ∧ ((∀ x, pEls B f rec dcur (m + 1) a D = some x → ¬ n4 f st = nn (x.1 + 1 - st)) → ∃ j, j ≤ B + 4 - a ∧ ∀ q, ∃ v, fM_read_29l N (nn B) f (q + j) (nn a, false, nn D, nn E, nn (k + 1), s1, s2, s3, s4, s5, s6, s7, s8, s9) = some (false, v)) := by
  obtain ⟨i1, i2⟩ := ih
  have e : pEls B f rec dcur (m + 1) a D = (pEls B f rec dcur m r.1 (D + r.2.2.length)).map fun s => (s.1, r.2.1 ++ s.2.1, r.2.2 ++ s.2.2) := by
    rw [pEls, if_pos ha, if_neg (by omega), hel]
    rfl
  constructor
  · intro x hx hn
    rw [e] at hx
    cases h2 : pEls B f rec dcur m r.1 (D + r.2.2.length) with
    | none => rw [h2] at hx; cases hx
    | some s =>
      rw [h2] at hx
      cases hx
      obtain ⟨j, s9', k1, k2, k3⟩ := i1 s h2 hn
      have hge := (pEls_ok hro _ _ _ s h2).1.1
      refine ⟨j + j1, s9', by show j + j1 ≤ s.1 + 1 - a; omega, fun y hy => by rw [k2 y hy, ht9 y hy], fun q => ?_⟩
      rw [show q + (j + j1) = (q + j) + j1 by omega, hgo, k3]
      simp only [wr_in, List.length_append, Nat.add_assoc]
  · intro hx
    obtain ⟨j, k1, k2⟩ := i2 (fun s hs hn => hx (s.1, r.2.1 ++ s.2.1, r.2.2 ++ s.2.2) (by rw [e, hs]; rfl) hn)
    refine ⟨j + j1, by omega, fun q => ?_⟩
    rw [show q + (j + j1) = (q + j) + j1 by omega, hgo]
    exact k2 q
/-- one turn of the loop -/
theorem rf_step {N B : Nat} (hN : 200 ≤ N) {f : AI} (hy : yI B f) {r k : Nat} (hk : k + 1 + r = 5) (hnest : (r = 0 ∧ k = 4) ∨ ∃ r', r = r' + 1 ∧ k + 1 < 5 ∧ (∀ (a D E dcur st : Nat) (s1 s2 s3 s4 s5 s6 s7 s8 s9 : AI), B < a + 121 → st + 4 ≤ a → a ≤ B → dcur < D → D ≤ E + 1 → 4 * D + 2 * E ≤ a → s9 (k + 1) = nn dcur → s1 dcur = nn st → ((∀ x, pEls B f (pDoc B f r') dcur 121 a D = some x → n4 f st = nn (x.1 + 1 - st) → ∃ j s9', j ≤ x.1 + 1 - a ∧ (∀ y, y < (k + 1) → s9' y = s9 y) ∧ ∀ q, fM_read_29l N (nn B) f (q + j) (nn a, false, nn D, nn E, nn ((k + 1) + 1), s1, s2, s3, s4, s5, s6, s7, s8, s9) = fM_read_29l N (nn B) f q (nn (x.1 + 1), false, nn (D + x.2.2.length), nn (E + x.2.1.length), nn (k + 1), wr s1 D (x.2.2.map dS), wr s2 D (x.2.2.map dD), wr s3 E (x.2.1.map eHo), wr s4 E (x.2.1.map eTy), wr s5 E (x.2.1.map eNm), wr s6 E (x.2.1.map eNl), wr s7 E (x.2.1.map eCt), wr s8 E (x.2.1.map eCh), s9')) ∧ ((∀ x, pEls B f (pDoc B f r') dcur 121 a D = some x → ¬ n4 f st = nn (x.1 + 1 - st)) → ∃ j, j ≤ B + 4 - a ∧ ∀ q, ∃ v, fM_read_29l N (nn B) f (q + j) (nn a, false, nn D, nn E, nn ((k + 1) + 1), s1, s2, s3, s4, s5, s6, s7, s8, s9) = some (false, v))))) {m : Nat} (ihm : ∀ (a D E dcur st : Nat) (s1 s2 s3 s4 s5 s6 s7 s8 s9 : AI), B < a + m → st + 4 ≤ a → a ≤ B → dcur < D → D ≤ E + 1 → 4 * D + 2 * E ≤ a → s9 k = nn dcur → s1 dcur = nn st → ((∀ x, pEls B f (pDoc B f r) dcur m a D = some x → n4 f st = nn (x.1 + 1 - st) → ∃ j s9', j ≤ x.1 + 1 - a ∧ (∀ y, y < k → s9' y = s9 y) ∧ ∀ q, fM_read_29l N (nn B) f (q + j) (nn a, false, nn D, nn E, nn (k + 1), s1, s2, s3, s4, s5, s6, s7, s8, s9) = fM_read_29l N (nn B) f q (nn (x.1 + 1), false, nn (D + x.2.2.length), nn (E + x.2.1.length), nn k, wr s1 D (x.2.2.map dS), wr s2 D (x.2.2.map dD), wr s3 E (x.2.1.map eHo), wr s4 E (x.2.1.map eTy), wr s5 E (x.2.1.map eNm), wr s6 E (x.2.1.map eNl), wr s7 E (x.2.1.map eCt), wr s8 E (x.2.1.map eCh), s9')) ∧ ((∀ x, pEls B f (pDoc B f r) dcur m a D = some x → ¬ n4 f st = nn (x.1 + 1 - st)) → ∃ j, j ≤ B + 4 - a ∧ ∀ q, ∃ v, fM_read_29l N (nn B) f (q + j) (nn a, false, nn D, nn E, nn (k + 1), s1, s2, s3, s4, s5, s6, s7, s8, s9) = some (false, v)))) : ∀ (a D E dcur st : Nat) (s1 s2 s3 s4 s5 s6 s7 s8 s9 : AI), B < a + (m + 1) → st + 4 ≤ a → a ≤ B → dcur < D → D ≤ E + 1 → 4 * D + 2 * E ≤ a → s9 k = nn dcur → s1 dcur = nn st → ((∀ x, pEls B f (pDoc B f r) dcur (m + 1) a D = some x → n4 f st = nn (x.1 + 1 - st) → ∃ j s9', j ≤ x.1 + 1 - a ∧ (∀ y, y < k → s9' y = s9 y) ∧ ∀ q, fM_read_29l N (nn B) f (q + j) (nn a, false, nn D, nn E, nn (k + 1), s1, s2, s3, s4, s5, s6, s7, s8, s9) = fM_read_29l N (nn B) f q (nn (x.1 + 1), false, nn (D + x.2.2.length), nn (E + x.2.1.length), nn k, wr s1 D (x.2.2.map dS), wr s2 D (x.2.2.map dD), wr s3 E (x.2.1.map eHo), wr s4 E (x.2.1.map eTy), wr s5 E (x.2.1.map eNm), wr s6 E (x.2.1.map eNl), wr s7 E (x.2.1.map eCt), wr s8 E (x.2.1.map eCh), s9')) ∧ ((∀ x, pEls B f (pDoc B f r) dcur (m + 1) a D = some x → ¬ n4 f st = nn (x.1 + 1 - st)) → ∃ j, j ≤ B + 4 - a ∧ ∀ q, ∃ v, fM_read_29l N (nn B) f (q + j) (nn a, false, nn D, nn E, nn (k + 1), s1, s2, s3, s4, s5, s6, s7, s8, s9) = some (false, v))) := by
  have hB := hy.1
  intro a D E dcur st s1 s2 s3 s4 s5 s6 s7 s8 s9 hm hst haB hdD hDE hcnt h9 h1
  by_cases haB2 : a < B
  · by_cases hb0 : bv f a = 0
    · have e : pEls B f (pDoc B f r) dcur (m + 1) a D = some (a, [], []) := by rw [pEls, if_pos haB2, if_pos hb0]
      constructor
      · intro x hx hn
        rw [e] at hx
        cases hx
        refine ⟨1, s9, by show 1 ≤ a + 1 - a; omega, fun _ _ => rfl, fun q => ?_⟩
        rw [rl_end hy q haB2 hb0 (by omega) (by omega) hst _ _ s1 s2 s3 s4 s5 s6 s7 s8 s9 h9 h1, if_pos hn]
        rfl
      · intro hx
        have hn := hx _ e
        refine ⟨2, by omega, fun q => ?_⟩
        rw [show q + 2 = (q + 1) + 1 from rfl, rl_end hy (q + 1) haB2 hb0 (by omega) (by omega) hst _ _ s1 s2 s3 s4 s5 s6 s7 s8 s9 h9 h1, if_neg hn]
        exact rl_fail q _ _ _ _ s1 s2 s3 s4 s5 s6 s7 s8 s9
    · have hb1 : 1 ≤ bv f a := by omega
      have failed : pEl B f (pDoc B f r) a D dcur = none → (∃ j, j ≤ B + 4 - a ∧ ∀ q, ∃ v, fM_read_29l N (nn B) f (q + j) (nn a, false, nn D, nn E, nn (k + 1), s1, s2, s3, s4, s5, s6, s7, s8, s9) = some (false, v)) → (∀ x, pEls B f (pDoc B f r) dcur (m + 1) a D = some x → n4 f st = nn (x.1 + 1 - st) → ∃ j s9', j ≤ x.1 + 1 - a ∧ (∀ y, y < k → s9' y = s9 y) ∧ ∀ q, fM_read_29l N (nn B) f (q + j) (nn a, false, nn D, nn E, nn (k + 1), s1, s2, s3, s4, s5, s6, s7, s8, s9) = fM_read_29l N (nn B) f q (nn (x.1 + 1), false, nn (D + x.2.2.length), nn (E + x.2.1.length), nn k, wr s1 D (x.2.2.map dS), wr s2 D (x.2.2.map dD), wr s3 E (x.2.1.map eHo), wr s4 E (x.2.1.map eTy), wr s5 E (x.2.1.map eNm), wr s6 E (x.2.1.map eNl), wr s7 E (x.2.1.map eCt), wr s8 E (x.2.1.map eCh), s9')) ∧ ((∀ x, pEls B f (pDoc B f r) dcur (m + 1) a D = some x → ¬ n4 f st = nn (x.1 + 1 - st)) → ∃ j, j ≤ B + 4 - a ∧ ∀ q, ∃ v, fM_read_29l N (nn B) f (q + j) (nn a, false, nn D, nn E, nn (k + 1), s1, s2, s3, s4, s5, s6, s7, s8, s9) = some (false, v)) := by
        intro h j
        have e : pEls B f (pDoc B f r) dcur (m + 1) a D = none := by rw [pEls, if_pos haB2, if_neg hb0, h]; rfl
        exact ⟨fun x hx => (by rw [e] at hx; cases hx), fun _ => j⟩
      by_cases h3 : bv f a = 3
      · by_cases hc : tx B f (a + 1) < B ∧ bv f (tx B f (a + 1)) = 0
        · have hre := m_re3 (N := N) (D := D) s1 s2 s3 s4 s5 s6 s7 s8 s9 hN hy haB2 (by omega : k < 5) (by omega : E < 60) h9 h3 hc
          have htx := tx_le B f (a + 1)
          have hpel : pEl B f (pDoc B f r) a D dcur = (pDoc B f r (tx B f (a + 1) + 1) D).map (fun z => (z.1, (bv f a, a + 1, tx B f (a + 1) - (a + 1), tx B f (a + 1) + 1, dcur, nn D) :: z.2.1, z.2.2)) := by
            unfold pEl
            rw [if_pos hc, if_pos h3]
            unfold pCont
            rw [if_neg (by omega), if_pos h3]
          generalize hct : tx B f (a + 1) + 1 = ct at hre hpel
          rcases hnest with ⟨rfl, hk4⟩ | ⟨r', rfl, hk5, ihn⟩
          · refine failed (by rw [hpel]; rfl) ⟨2, by omega, fun q => ?_⟩
            rw [show q + 2 = (q + 1) + 1 from rfl, rl_el hy (q + 1) haB2 hb1 (by omega) _ _ s1 s2 s3 s4 s5 s6 s7 s8 s9, hre, m_rdoc5 (by omega) (by omega), o_bind, o_bind]
            exact rl_fail q _ _ _ _ _ _ _ _ _ _ _ _ _
          · obtain ⟨d1, d2⟩ := m_rdoc hN hB (f := f) (k := k + 1) (D := D) (a := ct) hk5 (by omega) (by omega) s1 s2 s9
            by_cases h4 : ct + 4 ≤ B
            · have hgo1 : ∀ q, fM_read_29l N (nn B) f (q + 1) (nn a, false, nn D, nn E, nn (k + 1), s1, s2, s3, s4, s5, s6, s7, s8, s9) = fM_read_29l N (nn B) f q (nn (ct + 4), false, nn (D + 1), nn (E + 1), nn (k + 1 + 1), upd s1 D (nn ct), upd s2 D (nn (k + 1 + 1)), upd s3 E (nn dcur), upd s4 E (nn (bv f a)), upd s5 E (nn (a + 1)), upd s6 E (nn (tx B f (a + 1) - (a + 1))), upd s7 E (nn ct), upd s8 E (nn D), upd s9 (k + 1) (nn D)) := by
                intro q
                rw [rl_el hy q haB2 hb1 (by omega) _ _ s1 s2 s3 s4 s5 s6 s7 s8 s9, hre, d1 h4, o_bind, o_bind]
              obtain ⟨n1, n2⟩ := ihn (ct + 4) (D + 1) (E + 1) D ct (upd s1 D (nn ct)) (upd s2 D (nn (k + 1 + 1))) (upd s3 E (nn dcur)) (upd s4 E (nn (bv f a))) (upd s5 E (nn (a + 1))) (upd s6 E (nn (tx B f (a + 1) - (a + 1)))) (upd s7 E (nn ct)) (upd s8 E (nn D)) (upd s9 (k + 1) (nn D)) (by omega) (by omega) h4 (by omega) (by omega) (by omega) (upd_at _ _ _) (upd_at _ _ _)
              have hpd : pDoc B f (r' + 1) ct D = (pEls B f (pDoc B f r') D 121 (ct + 4) (D + 1)).bind fun s => (if n4 f ct = nn (s.1 + 1 - ct) then some (s.1 + 1, s.2.1, (ct, 5 - r') :: s.2.2) else none) := by
                rw [pDoc, if_pos h4]
              by_cases hin : ∀ x, pEls B f (pDoc B f r') D 121 (ct + 4) (D + 1) = some x → ¬ n4 f ct = nn (x.1 + 1 - ct)
              · obtain ⟨j, j1, j2⟩ := n2 hin
                refine failed ?_ ⟨j + 1, by omega, fun q => ?_⟩
                · rw [hpel, hpd]
                  cases h2 : pEls B f (pDoc B f r') D 121 (ct + 4) (D + 1) with
                  | none => rfl
                  | some s => rw [o_bind, if_neg (hin s h2)]; rfl
                · rw [show q + (j + 1) = (q + j) + 1 by omega, hgo1]
                  exact j2 q
              · obtain ⟨s, hs⟩ := Classical.not_forall.mp hin
                have eS : pEls B f (pDoc B f r') D 121 (ct + 4) (D + 1) = some s := Classical.byContradiction (fun z => hs (fun w => absurd w z))
                have hn4 : n4 f ct = nn (s.1 + 1 - ct) := Classical.byContradiction (fun z => hs (fun _ => z))
                obtain ⟨j, t9, j1, j2, j3⟩ := n1 s eS hn4
                obtain ⟨⟨p1, p2, p3⟩, p4, p5, p6⟩ := pEls_ok (pDoc_ok B f r') 121 _ _ s eS
                have hel : pEl B f (pDoc B f (r' + 1)) a D dcur = some (s.1 + 1, (bv f a, a + 1, tx B f (a + 1) - (a + 1), ct, dcur, nn D) :: s.2.1, (ct, k + 1 + 1) :: s.2.2) := by
                  rw [hpel, hpd, eS, o_bind, if_pos hn4, show 5 - r' = k + 1 + 1 by omega]
                  rfl
                refine rf_go (pDoc_ok B f (r' + 1)) (m := m) a D E dcur st s1 s2 s3 s4 s5 s6 s7 s8 s9 haB2 hb1 _ hel (by show a + 2 ≤ s.1 + 1; omega) (j + 1) (by show j + 1 ≤ s.1 + 1 - a; omega) t9 (fun y hy2 => by rw [j2 y (by omega), upd_ne _ _ (by omega)]) (fun q => ?_) (ihm _ _ _ dcur st _ _ _ _ _ _ _ _ t9 ?_ ?_ ?_ ?_ ?_ ?_ ?_ ?_) (by show s.1 + 1 ≤ B; omega)
                · rw [show q + (j + 1) = (q + j) + 1 by omega, hgo1, j3, List.length_cons, List.length_cons, show D + 1 + s.2.2.length = D + (s.2.2.length + 1) by omega, show E + 1 + s.2.1.length = E + (s.2.1.length + 1) by omega]
                  rfl
                · show B < s.1 + 1 + m; omega
                · show st + 4 ≤ s.1 + 1; omega
                · show s.1 + 1 ≤ B; omega
                · show dcur < D + (_ :: s.2.2).length; omega
                · show D + (_ :: s.2.2).length ≤ E + (_ :: s.2.1).length + 1
                  rw [List.length_cons, List.length_cons]; omega
                · show 4 * (D + (_ :: s.2.2).length) + 2 * (E + (_ :: s.2.1).length) ≤ s.1 + 1
                  rw [List.length_cons, List.length_cons]; omega
                · rw [j2 k (by omega), upd_ne _ _ (by omega)]; exact h9
                · rw [wr_lt _ _ _ _ hdD]; exact h1
            · obtain ⟨x, v, e⟩ := d2 h4
              refine failed ?_ ⟨2, by omega, fun q => ?_⟩
              · rw [hpel, pDoc, if_neg h4]; rfl
              · rw [show q + 2 = (q + 1) + 1 from rfl, rl_el hy (q + 1) haB2 hb1 (by omega) _ _ s1 s2 s3 s4 s5 s6 s7 s8 s9, hre, e, o_bind, o_bind]
                exact rl_fail q _ _ _ _ _ _ _ _ _ _ _ _ _
        · obtain ⟨x, v, e⟩ := m_reH (N := N) (D := D) s1 s2 s3 s4 s5 s6 s7 s8 s9 hN hy haB2 (by omega : k < 5) (by omega) (by omega : E < 60) hc
          refine failed (by unfold pEl; rw [if_neg hc]) ⟨2, by omega, fun q => ?_⟩
          rw [show q + 2 = (q + 1) + 1 from rfl, rl_el hy (q + 1) haB2 hb1 (by omega) _ _ s1 s2 s3 s4 s5 s6 s7 s8 s9, e, o_bind]
          exact rl_fail q _ _ _ _ _ _ _ _ _ _ _ _ _
      · obtain ⟨g1, g2⟩ := m_reP (N := N) (D := D) s1 s2 s3 s4 s5 s6 s7 s8 s9 hN hy (pDoc B f r) haB2 (by omega : k < 5) (by omega) (by omega : E < 60) h9 h3
        cases hel : pEl B f (pDoc B f r) a D dcur with
        | none =>
          obtain ⟨x, v, e⟩ := g2 hel
          refine failed hel ⟨2, by omega, fun q => ?_⟩
          rw [show q + 2 = (q + 1) + 1 from rfl, rl_el hy (q + 1) haB2 hb1 (by omega) _ _ s1 s2 s3 s4 s5 s6 s7 s8 s9, e, o_bind]
          exact rl_fail q _ _ _ _ _ _ _ _ _ _ _ _ _
        | some x =>
          obtain ⟨e1, e2, e3⟩ := g1 x hel
          obtain ⟨⟨p1, p2, p3⟩, p4, p5⟩ := pEl_ok (pDoc_ok B f r) hel
          obtain ⟨x1, x2, x3⟩ := x
          dsimp only at e1 e2 e3 p1 p2 p3 p4 p5
          subst e2 e3
          refine rf_go (pDoc_ok B f r) (m := m) a D E dcur st s1 s2 s3 s4 s5 s6 s7 s8 s9 haB2 hb1 _ hel p5 1 (by show 1 ≤ x1 - a; omega) s9 (fun _ _ => rfl) (fun q => ?_) (ihm _ _ _ dcur st _ _ _ _ _ _ _ _ s9 ?_ ?_ ?_ ?_ ?_ ?_ h9 ?_) p2
          · rw [rl_el hy q haB2 hb1 (by omega) _ _ s1 s2 s3 s4 s5 s6 s7 s8 s9, e1, o_bind]
            rfl
          · show B < x1 + m; omega
          · show st + 4 ≤ x1; omega
          · exact p2
          · show dcur < D + 0; omega
          · show D + 0 ≤ E + 1 + 1; omega
          · show 4 * (D + 0) + 2 * (E + 1) ≤ x1; omega
          · exact h1
  · have e : pEls B f (pDoc B f r) dcur (m + 1) a D = none := by rw [pEls, if_neg haB2]
    refine ⟨fun x hx => (by rw [e] at hx; cases hx), fun _ => ⟨2, by omega, fun q => ?_⟩⟩
    rw [show q + 2 = (q + 1) + 1 from rfl, rl_eof hB (q + 1) (show a = B by omega) (by omega) _ _ s1 s2 s3 s4 s5 s6 s7 s8 s9]
    exact rl_fail q _ _ _ _ s1 s2 s3 s4 s5 s6 s7 s8 s9
theorem rf {N B : Nat} (hN : 200 ≤ N) {f : AI} (hy : yI B f) : ∀ (r k : Nat), k + 1 + r = 5 → ∀ (m : Nat), ∀ (a D E dcur st : Nat) (s1 s2 s3 s4 s5 s6 s7 s8 s9 : AI), B < a + m → st + 4 ≤ a → a ≤ B → dcur < D → D ≤ E + 1 → 4 * D + 2 * E ≤ a → s9 k = nn dcur → s1 dcur = nn st → ((∀ x, pEls B f (pDoc B f r) dcur m a D = some x → n4 f st = nn (x.1 + 1 - st) → ∃ j s9', j ≤ x.1 + 1 - a ∧ (∀ y, y < k → s9' y = s9 y) ∧ ∀ q, fM_read_29l N (nn B) f (q + j) (nn a, false, nn D, nn E, nn (k + 1), s1, s2, s3, s4, s5, s6, s7, s8, s9) = fM_read_29l N (nn B) f q (nn (x.1 + 1), false, nn (D + x.2.2.length), nn (E + x.2.1.length), nn k, wr s1 D (x.2.2.map dS), wr s2 D (x.2.2.map dD), wr s3 E (x.2.1.map eHo), wr s4 E (x.2.1.map eTy), wr s5 E (x.2.1.map eNm), wr s6 E (x.2.1.map eNl), wr s7 E (x.2.1.map eCt), wr s8 E (x.2.1.map eCh), s9')) ∧ ((∀ x, pEls B f (pDoc B f r) dcur m a D = some x → ¬ n4 f st = nn (x.1 + 1 - st)) → ∃ j, j ≤ B + 4 - a ∧ ∀ q, ∃ v, fM_read_29l N (nn B) f (q + j) (nn a, false, nn D, nn E, nn (k + 1), s1, s2, s3, s4, s5, s6, s7, s8, s9) = some (false, v))) := by
  have hB := hy.1
  intro r
  induction r with
  | zero =>
    intro k hk m
    induction m with
    | zero => intro a D E dcur st s1 s2 s3 s4 s5 s6 s7 s8 s9 h1 h2 h3; omega
    | succ m ihm => exact rf_step hN hy (by omega) (Or.inl ⟨rfl, by omega⟩) ihm
  | succ r ih =>
    intro k hk m
    induction m with
    | zero => intro a D E dcur st s1 s2 s3 s4 s5 s6 s7 s8 s9 h1 h2 h3; omega
    | succ m ihm => exact rf_step hN hy (by omega) (Or.inr ⟨r, rfl, by omega, ih (k + 1) (by omega) 121⟩) ihm
