/-! reading, the reference -/
theorem m_next {B : Nat} (hB : B ≤ 120) {f : AI} {a : Nat} (ha : a < B) (b : Bool) : fM_next (nn B) (nn a) b f = some (f a, nn (a + 1), b) := by
  unfold fM_next
  rw [c_lt (by omega) (by omega), if_pos ha, nn_s, nn_p, if_pos (nn_okt (by omega) (by omega)), nn_c (by omega)]
theorem m_nextF {B : Nat} (hB : B ≤ 120) {f : AI} {a : Nat} (ha : B ≤ a) (ha2 : a < 1000000) (b : Bool) : fM_next (nn B) (nn a) b f = some (0, nn a, true) := by
  unfold fM_next
  rw [c_lt (by omega) (by omega), if_neg (by omega)]
theorem m_skip_l {N B : Nat} (hB : B ≤ 120) {f : AI} (K : Nat) (hK : K ≤ 8) : ∀ (k i q a : Nat) (b : Bool), i + k = K → k < q → a ≤ B → (a + k ≤ B → fM_skip_2l N (nn K) (nn B) f q (nn i, nn a, b) = some (nn (a + k), b)) ∧ (¬ a + k ≤ B → ∃ a', a' ≤ B ∧ fM_skip_2l N (nn K) (nn B) f q (nn i, nn a, b) = some (nn a', true)) := by
  intro k
  induction k with
  | zero =>
    intro i q a b hi hq ha
    obtain ⟨q, rfl⟩ : ∃ z, q = z + 1 := ⟨q - 1, by omega⟩
    refine ⟨fun _ => ?_, fun h => absurd ha h⟩
    show fM_skip_2 N (nn K) (nn B) f (fM_skip_2l N (nn K) (nn B) f q) (nn i) (nn a) b = _
    unfold fM_skip_2
    rw [if_pos (by rw [nn_le (by omega) (by omega)]; omega)]
    rfl
  | succ k ih =>
    intro i q a b hi hq ha
    obtain ⟨q, rfl⟩ : ∃ z, q = z + 1 := ⟨q - 1, by omega⟩
    have e : fM_skip_2l N (nn K) (nn B) f (q + 1) (nn i, nn a, b) = (fM_next (nn B) (nn a) b f).bind fun u => fM_skip_2l N (nn K) (nn B) f q (nn (i + 1), u.2.1, u.2.2) := by
      show fM_skip_2 N (nn K) (nn B) f (fM_skip_2l N (nn K) (nn B) f q) (nn i) (nn a) b = _
      unfold fM_skip_2
      rw [if_neg (by rw [nn_le (by omega) (by omega)]; omega), nn_s]
    rw [e]
    by_cases hl : a < B
    · rw [m_next hB hl, o_bind]
      dsimp only
      obtain ⟨i1, i2⟩ := ih (i + 1) q (a + 1) b (by omega) (by omega) (by omega)
      refine ⟨fun h => ?_, fun h => i2 (by omega)⟩
      rw [i1 (by omega), show a + 1 + k = a + (k + 1) by omega]
    · rw [m_nextF hB (by omega) (by omega), o_bind]
      dsimp only
      obtain ⟨i1, i2⟩ := ih (i + 1) q a true (by omega) (by omega) ha
      refine ⟨fun h => by omega, fun h => ?_⟩
      by_cases hk : a + k ≤ B
      · exact ⟨a + k, hk, i1 hk⟩
      · exact i2 hk
theorem m_skip {N B : Nat} (hN : 200 ≤ N) (hB : B ≤ 120) {f : AI} {K : Nat} (hK : K ≤ 8) {a : Nat} (ha : a ≤ B) (b : Bool) : (a + K ≤ B → fM_skip N (nn K) (nn B) (nn a) b f = some (nn (a + K), b)) ∧ (¬ a + K ≤ B → ∃ a', a' ≤ B ∧ fM_skip N (nn K) (nn B) (nn a) b f = some (nn a', true)) :=
  m_skip_l hB K hK K 0 N a b (by omega) (by omega) ha
theorem m_skipT {N B : Nat} (hN : 200 ≤ N) (hB : B ≤ 120) {f : AI} {K : Nat} (hK : K ≤ 8) {a : Nat} (ha : a ≤ B) : ∃ a', a' ≤ B ∧ fM_skip N (nn K) (nn B) (nn a) true f = some (nn a', true) := by
  obtain ⟨h1, h2⟩ := m_skip hN hB (f := f) hK ha true
  by_cases h : a + K ≤ B
  · exact ⟨_, h, h1 h⟩
  · exact h2 h
/-- a line that is read while something is bad stays bad -/
theorem m_lineT {N B : Nat} (hN : 200 ≤ N) (hB : B ≤ 120) {f : AI} {a : Nat} (ha : a ≤ B) : ∃ x a', a' ≤ B ∧ fM_line N (nn B) (nn a) true f = some (x, nn a', true) := by
  unfold fM_line
  obtain ⟨N', e⟩ : ∃ z, N = z + 1 := ⟨N - 1, by omega⟩
  have stop : ∀ v2 a', fM_line_7l N (nn B) f (N' + 1) (0, v2, a', true) = some (0, a', true) := by
    intro v2 a'
    show fM_line_7 N (nn B) f (fM_line_7l N (nn B) f N') 0 v2 a' true = _
    unfold fM_line_7
    by_cases h : v2 ≤ 0
    · rw [if_pos h]
    · rw [if_neg h, if_pos rfl]
  rw [← e] at stop
  by_cases hl : a < B
  · rw [m_next hB hl, o_bind]
    exact ⟨0, a + 1, by omega, stop _ _⟩
  · rw [m_nextF hB (by omega) (by omega), o_bind]
    exact ⟨0, a, ha, stop _ _⟩
theorem m_line_l {N B : Nat} {f : AI} (hy : yI B f) : ∀ (k q e c : Nat), B ≤ e + k → k + 1 < q → e < B → (txE B f k e < B ∧ bv f (txE B f k e) = 0 → fM_line_7l N (nn B) f q (nn c, f e, nn (e + 1), false) = some (nn (c + (txE B f k e - e)), nn (txE B f k e + 1), false)) ∧ (¬ (txE B f k e < B ∧ bv f (txE B f k e) = 0) → ∃ x a', a' ≤ B ∧ fM_line_7l N (nn B) f q (nn c, f e, nn (e + 1), false) = some (x, nn a', true)) := by
  have hB := hy.1
  intro k
  induction k with
  | zero => intro q e c h1 h2 h3; omega
  | succ k ih =>
    intro q e c h1 h2 h3
    obtain ⟨q, rfl⟩ : ∃ z, q = z + 1 := ⟨q - 1, by omega⟩
    obtain ⟨eb, hb⟩ := bv_eq hy h3
    have hstep : fM_line_7l N (nn B) f (q + 1) (nn c, f e, nn (e + 1), false) = if f e ≤ 0 then some (nn c, nn (e + 1), false) else (if f e ≤ (127 : Int32) then ((fM_next (nn B) (nn (e + 1)) false f).bind fun u => fM_line_7l N (nn B) f q (nn (c + 1), u.1, u.2.1, u.2.2)) else ((fM_next (nn B) (nn (e + 1)) true f).bind fun u => fM_line_7l N (nn B) f q (nn (c + 1), u.1, u.2.1, u.2.2))) := by
      show fM_line_7 N (nn B) f (fM_line_7l N (nn B) f q) (nn c) (f e) (nn (e + 1)) false = _
      unfold fM_line_7
      rw [if_neg (c := false = true) (by decide), if_neg (c := false = true) (by decide), nn_s]
    have h0 : f e ≤ 0 ↔ bv f e = 0 := by
      rw [eb, show (0 : Int32) = nn 0 from rfl, nn_le (by omega) (by omega)]
      omega
    have h127 : f e ≤ (127 : Int32) ↔ bv f e ≤ 127 := by
      rw [eb, show (127 : Int32) = nn 127 from rfl, nn_le (by omega) (by omega)]
    have stop : ∀ (v1 v2 : Int32) (a' : Int32), fM_line_7l N (nn B) f q (v1, v2, a', true) = some (v1, a', true) := by
      intro v1 v2 a'
      obtain ⟨q, rfl⟩ : ∃ z, q = z + 1 := ⟨q - 1, by omega⟩
      show fM_line_7 N (nn B) f (fM_line_7l N (nn B) f q) v1 v2 a' true = _
      unfold fM_line_7
      by_cases h : v2 ≤ 0
      · rw [if_pos h]
      · rw [if_neg h, if_pos rfl]
    rw [hstep]
    unfold txE
    by_cases hz : bv f e = 0
    · rw [if_pos (h0.mpr hz), if_neg (c := e < B ∧ 1 ≤ bv f e ∧ bv f e ≤ 127) (by omega)]
      refine ⟨fun _ => ?_, fun h => absurd ⟨h3, hz⟩ h⟩
      rw [show c + (e - e) = c by omega]
    · rw [if_neg (fun z => hz (h0.mp z))]
      by_cases h7 : bv f e ≤ 127
      · rw [if_pos (h127.mpr h7), if_pos (c := e < B ∧ 1 ≤ bv f e ∧ bv f e ≤ 127) ⟨h3, by omega, h7⟩]
        by_cases hl : e + 1 < B
        · rw [m_next hB hl, o_bind]
          dsimp only
          obtain ⟨i1, i2⟩ := ih q (e + 1) (c + 1) (by omega) (by omega) hl
          have hge := (tx_ge B f k (e + 1)).1
          refine ⟨fun h => ?_, i2⟩
          rw [i1 h, show c + 1 + (txE B f k (e + 1) - (e + 1)) = c + (txE B f k (e + 1) - e) by omega]
        · rw [m_nextF hB (by omega) (by omega), o_bind]
          dsimp only
          rw [stop]
          have hge := (tx_ge B f k (e + 1)).1
          exact ⟨fun h => by omega, fun _ => ⟨_, e + 1, by omega, rfl⟩⟩
      · rw [if_neg (fun z => h7 (h127.mp z)), if_neg (c := e < B ∧ 1 ≤ bv f e ∧ bv f e ≤ 127) (fun z => h7 z.2.2)]
        refine ⟨fun h => absurd h.2 hz, fun _ => ?_⟩
        by_cases hl : e + 1 < B
        · rw [m_next hB hl, o_bind]
          dsimp only
          rw [stop]
          exact ⟨_, e + 2, by omega, rfl⟩
        · rw [m_nextF hB (by omega) (by omega), o_bind]
          dsimp only
          rw [stop]
          exact ⟨_, e + 1, by omega, rfl⟩
theorem m_line {N B : Nat} (hN : 200 ≤ N) {f : AI} (hy : yI B f) {a : Nat} (ha : a ≤ B) : (tx B f a < B ∧ bv f (tx B f a) = 0 → fM_line N (nn B) (nn a) false f = some (nn (tx B f a - a), nn (tx B f a + 1), false)) ∧ (¬ (tx B f a < B ∧ bv f (tx B f a) = 0) → ∃ x a', a' ≤ B ∧ fM_line N (nn B) (nn a) false f = some (x, nn a', true)) := by
  have hB := hy.1
  unfold fM_line
  by_cases hl : a < B
  · rw [m_next hB hl, o_bind]
    dsimp only
    obtain ⟨i1, i2⟩ := m_line_l (N := N) hy 120 N a 0 (by omega) (by omega) hl
    refine ⟨fun h => ?_, i2⟩
    have := i1 h
    rw [Nat.zero_add] at this
    exact this
  · rw [m_nextF hB (by omega) (by omega), o_bind]
    dsimp only
    obtain ⟨N', e⟩ : ∃ z, N = z + 1 := ⟨N - 1, by omega⟩
    have stop : fM_line_7l N (nn B) f (N' + 1) (0, 0, nn a, true) = some (0, nn a, true) := by
      show fM_line_7 N (nn B) f (fM_line_7l N (nn B) f N') 0 0 (nn a) true = _
      unfold fM_line_7
      rw [if_pos (by decide)]
    rw [← e] at stop
    have := tx_le B f a
    exact ⟨fun h => by omega, fun _ => ⟨0, a, ha, stop⟩⟩
theorem m_num4 {f : AI} {a : Nat} (ha : a + 4 ≤ 120) : fM_number (nn a) f = some (n4 f a) := by
  unfold fM_number
  rw [nn_s, show nn a + (2 : Int32) = nn (a + 2) from nn_add a 2, show nn a + (3 : Int32) = nn (a + 3) from nn_add a 3, if_pos (nn_okt (by omega) (by omega)), if_pos (nn_okt (by omega) (by omega)), if_pos (nn_okt (by omega) (by omega)), if_pos (nn_okt (by omega) (by omega)), nn_c (by omega), nn_c (by omega), nn_c (by omega), nn_c (by omega)]
  rfl
theorem m_rdoc {N B : Nat} (hN : 200 ≤ N) (hB : B ≤ 120) {f : AI} {k D a : Nat} (hk : k < 5) (hD : D < 25) (ha : a ≤ B) (s1 s2 s9 : AI) : (a + 4 ≤ B → fM_readDocument N (nn B) (nn a) false (nn D) (nn k) f s1 s2 s9 = some (nn (a + 4), false, nn (D + 1), nn (k + 1), upd s1 D (nn a), upd s2 D (nn (k + 1)), upd s9 k (nn D))) ∧ (¬ a + 4 ≤ B → ∃ x v, fM_readDocument N (nn B) (nn a) false (nn D) (nn k) f s1 s2 s9 = some (x, true, v)) := by
  have hok : ok (nn D) 25 = true := nn_okt (by omega) hD
  have hok2 : ok (nn k) 6 = true := nn_okt (by omega) (by omega)
  unfold fM_readDocument
  rw [show (5 : Int32) = nn 5 from rfl, c_lt (by omega) (by omega), if_pos hk]
  simp only [if_pos hok, if_pos hok2, nn_s, nn_c (show D < 2147483648 by omega), nn_c (show k < 2147483648 by omega)]
  obtain ⟨h1, h2⟩ := m_skip hN hB (f := f) (K := 4) (by omega) ha false
  refine ⟨fun h => ?_, fun h => ?_⟩
  · rw [show fM_skip N (4 : Int32) (nn B) (nn a) false f = _ from h1 h, o_bind]
  · obtain ⟨a', _, e⟩ := h2 h
    rw [show fM_skip N (4 : Int32) (nn B) (nn a) false f = _ from e, o_bind]
    exact ⟨_, _, rfl⟩
theorem m_rdocT {N B : Nat} (hN : 200 ≤ N) (hB : B ≤ 120) {f : AI} {k D a : Nat} (hk : k < 6) (hD : D < 25) (ha : a ≤ B) (s1 s2 s9 : AI) : ∃ x v, fM_readDocument N (nn B) (nn a) true (nn D) (nn k) f s1 s2 s9 = some (x, true, v) := by
  have hok : ok (nn D) 25 = true := nn_okt (by omega) hD
  have hok2 : ok (nn k) 6 = true := nn_okt (by omega) (by omega)
  unfold fM_readDocument
  rw [show (5 : Int32) = nn 5 from rfl, c_lt (by omega) (by omega)]
  simp only [if_pos hok, if_pos hok2]
  obtain ⟨a', _, e⟩ := m_skipT hN hB (f := f) (K := 4) (by omega) ha
  by_cases h5 : k < 5
  · rw [if_pos h5, show fM_skip N (4 : Int32) (nn B) (nn a) true f = _ from e, o_bind]
    exact ⟨_, _, rfl⟩
  · rw [if_neg h5]
    exact ⟨_, _, rfl⟩
theorem m_rdoc5 {N B : Nat} {f : AI} {k : Nat} (hk : 5 ≤ k) (hk2 : k < 100) (a : Int32) (b : Bool) (D : Int32) (s1 s2 s9 : AI) : fM_readDocument N (nn B) a b D (nn k) f s1 s2 s9 = some (a, true, D, nn k, s1, s2, s9) := by
  unfold fM_readDocument
  rw [show (5 : Int32) = nn 5 from rfl, c_lt (by omega) (by omega), if_neg (by omega)]
