/-! the reference: its writers -/
def MW (op : Int32 → Bool → AI → Option (Int32 × Bool × AI)) (l : List Int32) : Prop :=
  (∀ (n : Nat) (g : AI), n ≤ 120 → (n + l.length ≤ 120 → op (nn n) false g = some (nn (n + l.length), false, wr g n l)) ∧ (¬ n + l.length ≤ 120 → ∃ m g', m ≤ 120 ∧ op (nn n) false g = some (nn m, true, g'))) ∧ ∀ (n : Nat) (g : AI), n ≤ 120 → ∃ m g', m ≤ 120 ∧ op (nn n) true g = some (nn m, true, g')
theorem MW_seq {op1 op2 : Int32 → Bool → AI → Option (Int32 × Bool × AI)} {l1 l2 : List Int32} (h1 : MW op1 l1) (h2 : MW op2 l2) : MW (fun n b g => (op1 n b g).bind fun u => op2 u.1 u.2.1 u.2.2) (l1 ++ l2) := by
  refine ⟨fun n g hn => ⟨fun hl => ?_, fun hl => ?_⟩, fun n g hn => ?_⟩
  · rw [List.length_append] at hl
    dsimp only
    rw [(h1.1 n g hn).1 (by omega), o_bind]
    dsimp only
    rw [(h2.1 (n + l1.length) _ (by omega)).1 (by omega), wr_app, List.length_append, Nat.add_assoc]
  · rw [List.length_append] at hl
    dsimp only
    by_cases h : n + l1.length ≤ 120
    · rw [(h1.1 n g hn).1 h, o_bind]
      exact (h2.1 (n + l1.length) _ h).2 (by omega)
    · obtain ⟨m, g', hm, e⟩ := (h1.1 n g hn).2 h
      rw [e, o_bind]
      exact h2.2 m g' hm
  · dsimp only
    obtain ⟨m, g', hm, e⟩ := h1.2 n g hn
    rw [e, o_bind]
    exact h2.2 m g' hm
theorem m_write (v : Int32) : MW (fM_write v) [v] := by
  refine ⟨fun n g hn => ⟨fun hl => ?_, fun hl => ?_⟩, fun n g hn => ?_⟩
  · simp only [List.length_cons, List.length_nil] at hl ⊢
    unfold fM_write
    rw [show (120 : Int32) = nn 120 from rfl, c_lt (by omega) (by omega), if_pos (by omega), if_pos (nn_okt (by omega) (by omega)), nn_c (by omega), nn_s]
    rfl
  · simp only [List.length_cons, List.length_nil] at hl
    unfold fM_write
    rw [show (120 : Int32) = nn 120 from rfl, c_lt (by omega) (by omega), if_neg (by omega)]
    exact ⟨n, g, hn, rfl⟩
  · unfold fM_write
    rw [show (120 : Int32) = nn 120 from rfl, c_lt (by omega) (by omega)]
    by_cases h : n < 120
    · rw [if_pos h, if_pos (nn_okt (by omega) (by omega)), nn_s]
      exact ⟨n + 1, _, by omega, rfl⟩
    · rw [if_neg h]
      exact ⟨n, g, hn, rfl⟩
theorem m_num_l {N : Nat} (v : Int64) (K : Nat) (hK : K ≤ 8) : ∀ (k i q : Nat), i + k = K → k < q → MW (fun n b g => fM_writeNumber_3l N v (nn K) q (nn i, n, b, g)) (num v k i) := by
  intro k
  induction k with
  | zero =>
    intro i q hi hq
    obtain ⟨q, rfl⟩ : ∃ z, q = z + 1 := ⟨q - 1, by omega⟩
    have e : ∀ n b g, fM_writeNumber_3l N v (nn K) (q + 1) (nn i, n, b, g) = some (n, b, g) := by
      intro n b g
      show fM_writeNumber_3 N v (nn K) (fM_writeNumber_3l N v (nn K) q) (nn i) n b g = _
      unfold fM_writeNumber_3
      rw [if_pos (by rw [nn_le (by omega) (by omega)]; omega)]
    refine ⟨fun n g hn => ⟨fun hl => e _ _ _, fun hl => absurd hn hl⟩, fun n g hn => ⟨n, g, hn, e _ _ _⟩⟩
  | succ k ih =>
    intro i q hi hq
    obtain ⟨q, rfl⟩ : ∃ z, q = z + 1 := ⟨q - 1, by omega⟩
    have e : ∀ n b g, fM_writeNumber_3l N v (nn K) (q + 1) (nn i, n, b, g) = (fM_write (lowB v (nn i)) n b g).bind fun u => fM_writeNumber_3l N v (nn K) q (nn (i + 1), u.1, u.2.1, u.2.2) := by
      intro n b g
      show fM_writeNumber_3 N v (nn K) (fM_writeNumber_3l N v (nn K) q) (nn i) n b g = _
      unfold fM_writeNumber_3
      rw [if_neg (by rw [nn_le (by omega) (by omega)]; omega), lowB_m, nn_s]
    have h := MW_seq (m_write (lowB v (nn i))) (ih (i + 1) q (by omega) (by omega))
    have e2 : (fun n b g => fM_writeNumber_3l N v (nn K) (q + 1) (nn i, n, b, g)) = (fun n b g => (fM_write (lowB v (nn i)) n b g).bind fun u => fM_writeNumber_3l N v (nn K) q (nn (i + 1), u.1, u.2.1, u.2.2)) := by
      funext n b g
      exact e n b g
    rw [e2]
    exact h
theorem m_num {N : Nat} (hN : 10 ≤ N) (v : Int64) {K : Nat} (hK : K ≤ 8) : MW (fM_writeNumber N v (nn K)) (num v K 0) :=
  m_num_l v K hK K 0 N (by omega) (by omega)
/-- four zeros; then the mark -/
theorem m_zero {N : Nat} (hN : 10 ≤ N) : MW (fM_writeNumber N 0 4) [0, 0, 0, 0] := num0 ▸ m_num hN 0 (K := 4) (by omega)
def m_mk (N : Nat) (c : Int32) (n : Int32) (b : Bool) (g : AI) : Option (Int32 × Bool × AI) :=
  (fM_write 2 n b g).bind fun u75 => ((fM_write 95 u75.1 u75.2.1 u75.2.2).bind fun u81 => ((fM_write 116 u81.1 u81.2.1 u81.2.2).bind fun u87 => ((fM_write 0 u87.1 u87.2.1 u87.2.2).bind fun u92 => ((fM_writeNumber N 2 4 u92.1 u92.2.1 u92.2.2).bind fun u100 => ((fM_write (65 + c) u100.1 u100.2.1 u100.2.2).bind fun u113 => fM_write 0 u113.1 u113.2.1 u113.2.2)))))
theorem m_mark {N : Nat} (hN : 10 ≤ N) (c : Int32) : MW (m_mk N c) [2, 95, 116, 0, 2, 0, 0, 0, 65 + c, 0] :=
  MW_seq (m_write 2) (MW_seq (m_write 95) (MW_seq (m_write 116) (MW_seq (m_write 0) (MW_seq (num2 ▸ m_num hN 2 (K := 4) (by omega) : MW (fM_writeNumber N 2 4) [2, 0, 0, 0]) (MW_seq (m_write (65 + c)) (m_write 0))))))
