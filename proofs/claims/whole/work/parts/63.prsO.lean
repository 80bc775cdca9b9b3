/-! reading, the written program -/
def av (B : Nat) (f : AI) (a : Nat) : Int32 := if a < B then f a else -1
theorem bv_eq {B : Nat} {f : AI} (hy : yI B f) {a : Nat} (ha : a < B) : f a = nn (bv f a) ∧ bv f a < 256 := by
  obtain ⟨k, hk, e⟩ := hy.2 a ha
  unfold bv
  rw [e, nn_c (by omega)]
  exact ⟨rfl, hk⟩
theorem o_at {B : Nat} {f : AI} (hB : B ≤ 120) {a : Nat} (ha : a < 2147483648) : fB_at (nn a) (nn B) f = some (av B f a) := by
  unfold fB_at av
  rw [if_neg (nn_neg ha), c_le (by omega) ha, nn_c ha]
  by_cases h : a < B
  · rw [if_neg (by omega), if_pos (nn_okt ha (by omega)), if_pos h]
  · rw [if_pos (by omega), if_neg h]
theorem o_atN {b : Int32} {f : AI} : fB_at (-1) b f = some (-1) := by
  unfold fB_at
  rw [if_pos neg1_lt]
theorem av_le0 {B : Nat} {f : AI} (hy : yI B f) (a : Nat) : av B f a ≤ 0 ↔ ¬ (a < B ∧ 1 ≤ bv f a) := by
  unfold av
  by_cases h : a < B
  · obtain ⟨e, hb⟩ := bv_eq hy h
    rw [if_pos h, e, show (0 : Int32) = nn 0 from rfl, nn_le (by omega) (by omega)]
    omega
  · rw [if_neg h]
    constructor
    · intro _ z; exact h z.1
    · intro _; decide
theorem av_0 {B : Nat} {f : AI} (hy : yI B f) (a : Nat) : av B f a = 0 ↔ a < B ∧ bv f a = 0 := by
  unfold av
  by_cases h : a < B
  · obtain ⟨e, hb⟩ := bv_eq hy h
    rw [if_pos h, e, show (0 : Int32) = nn 0 from rfl, nn_eq (by omega) (by omega)]
    omega
  · rw [if_neg h]
    constructor
    · intro z; exact absurd z (by decide)
    · intro z; exact absurd z.1 h
theorem av_127 {B : Nat} {f : AI} (hy : yI B f) {a : Nat} (h : a < B) : 127 < av B f a ↔ 127 < bv f a := by
  unfold av
  obtain ⟨e, hb⟩ := bv_eq hy h
  rw [if_pos h, e, show (127 : Int32) = nn 127 from rfl, nn_lt (by omega) (by omega)]
theorem o_tx_l {N B : Nat} {f : AI} (hy : yI B f) (v : Int32) : ∀ (k j q e : Nat), j + k = 120 → k < q → e < 1000000 → fO_endOfText_4l N v (nn B) f q (nn e, nn j) = some (nn (txE B f k e)) := by
  have hB := hy.1
  intro k
  induction k with
  | zero =>
    intro j q e hj hq he
    obtain ⟨q, rfl⟩ : ∃ z, q = z + 1 := ⟨q - 1, by omega⟩
    show fO_endOfText_4 N v (nn B) f (fO_endOfText_4l N v (nn B) f q) (nn e) (nn j) = _
    unfold fO_endOfText_4
    rw [if_pos (by rw [show (120 : Int32) = nn 120 from rfl, nn_le (by omega) (by omega)]; omega)]
    rfl
  | succ k ih =>
    intro j q e hj hq he
    obtain ⟨q, rfl⟩ : ∃ z, q = z + 1 := ⟨q - 1, by omega⟩
    show fO_endOfText_4 N v (nn B) f (fO_endOfText_4l N v (nn B) f q) (nn e) (nn j) = _
    unfold fO_endOfText_4
    rw [if_neg (by rw [show (120 : Int32) = nn 120 from rfl, nn_le (by omega) (by omega)]; omega), o_at hB (by omega), o_bind, o_bind, nn_s, nn_s, txE]
    by_cases h1 : e < B ∧ 1 ≤ bv f e
    · rw [if_neg (by rw [av_le0 hy]; exact fun z => z h1)]
      by_cases h2 : bv f e ≤ 127
      · rw [if_neg (by rw [av_127 hy h1.1]; omega), if_pos (c := e < B ∧ 1 ≤ bv f e ∧ bv f e ≤ 127) ⟨h1.1, h1.2, h2⟩]
        by_cases hq : e + 1 < 1000000
        · exact ih (j + 1) q (e + 1) (by omega) (by omega) hq
        · omega
      · rw [if_pos (by rw [av_127 hy h1.1]; omega), if_neg (c := e < B ∧ 1 ≤ bv f e ∧ bv f e ≤ 127) (fun z => h2 z.2.2)]
    · rw [if_pos (by rw [av_le0 hy]; exact h1), if_neg (c := e < B ∧ 1 ≤ bv f e ∧ bv f e ≤ 127) (fun z => h1 ⟨z.1, z.2.1⟩)]
theorem o_tx {N B : Nat} (hN : 200 ≤ N) {f : AI} (hy : yI B f) {a : Nat} (ha : a < 1000000) : fO_endOfText N (nn a) (nn B) f = some (nn (tx B f a)) :=
  o_tx_l hy (nn a) 120 0 N a (by omega) (by omega) ha
theorem b255 {k : Nat} (hk : k < 256) : nn k &&& (255 : Int32) = nn k := by
  have h : ∀ y : Fin 256, (nn y.val &&& (255 : Int32)) = nn y.val := by decide +kernel
  exact h ⟨k, hk⟩
theorem n4_eq (x y z w : Int32) : (((((((0 : Int32) <<< ((8 : Int32) &&& 31)) ||| w) <<< ((8 : Int32) &&& 31)) ||| z) <<< ((8 : Int32) &&& 31)) ||| y) <<< ((8 : Int32) &&& 31) ||| x = ((x ||| (y <<< ((8 : Int32) &&& 31))) ||| (z <<< ((16 : Int32) &&& 31))) ||| (w <<< ((24 : Int32) &&& 31)) := by
  apply Int32.toBitVec_inj.mp
  show ((((((0#32 <<< 8) ||| w.toBitVec) <<< 8) ||| z.toBitVec) <<< 8) ||| y.toBitVec) <<< 8 ||| x.toBitVec = ((x.toBitVec ||| (y.toBitVec <<< 8)) ||| (z.toBitVec <<< 16)) ||| (w.toBitVec <<< 24)
  generalize x.toBitVec = x
  generalize y.toBitVec = y
  generalize z.toBitVec = z
  generalize w.toBitVec = w
  apply BitVec.eq_of_getLsbD_eq
  intro i hi
  simp only [BitVec.getLsbD_or, BitVec.getLsbD_shiftLeft, BitVec.getLsbD_zero, hi, decide_true, Bool.true_and, Bool.and_false, Bool.false_or]
  by_cases h8 : i < 8
  · simp [h8, show i < 16 by omega, show i < 24 by omega]
  · by_cases h16 : i < 16
    · simp [h8, h16, show i < 24 by omega, show i - 8 < 8 by omega, show i - 8 < 32 by omega, Bool.or_comm]
    · by_cases h24 : i < 24
      · simp [h8, h16, h24, show i - 16 < 8 by omega, show ¬ i - 8 < 8 by omega, show i - 8 < 32 by omega, show i - 8 - 8 < 8 by omega, show i - 8 - 8 < 32 by omega, show i - 8 - 8 = i - 16 by omega, Bool.or_comm, Bool.or_assoc, Bool.or_left_comm]
      · simp [h8, h16, h24, show ¬ i - 8 < 8 by omega, show i - 8 < 32 by omega, show ¬ i - 8 - 8 < 8 by omega, show i - 8 - 8 < 32 by omega, show i - 8 - 8 = i - 16 by omega, show i - 8 - 8 - 8 = i - 24 by omega, show i - 16 - 8 = i - 24 by omega, show ¬ i - 16 < 8 by omega, show i - 16 < 32 by omega, Bool.or_comm, Bool.or_assoc, Bool.or_left_comm]
theorem o_int {N B : Nat} (hN : 200 ≤ N) {f : AI} (hy : yI B f) {a : Nat} (ha : a + 4 ≤ B) : fB_intAt N (nn a) (nn B) f = some (n4 f a) := by
  have hB := hy.1
  have step : ∀ (q j : Nat) (x : Int32), j < 4 → fB_intAt_4l N (nn a) (nn B) f (q + 1) (x, nn j) = fB_intAt_4l N (nn a) (nn B) f q ((x <<< ((8 : Int32) &&& 31)) ||| f (a + j), nn j + (-1)) := by
    intro q j x hj
    show fB_intAt_4 N (nn a) (nn B) f (fB_intAt_4l N (nn a) (nn B) f q) x (nn j) = _
    unfold fB_intAt_4
    obtain ⟨e, hb⟩ := bv_eq hy (show a + j < B by omega)
    have hav : av B f (a + j) = f (a + j) := by unfold av; rw [if_pos (by omega)]
    rw [if_neg (nn_neg (by omega)), nn_add, o_at hB (by omega), o_bind, hav, e, b255 hb]
  obtain ⟨q, rfl⟩ : ∃ q, N = q + 5 := ⟨N - 5, by omega⟩
  unfold fB_intAt
  generalize hN2 : q + 5 = N at step ⊢
  rw [show N = q + 4 + 1 by omega]
  have s3 := step (q + 4) 3 0 (by omega)
  have s2 := fun x => step (q + 3) 2 x (by omega)
  have s1 := fun x => step (q + 2) 1 x (by omega)
  have s0 := fun x => step (q + 1) 0 x (by omega)
  have se : ∀ x, fB_intAt_4l N (nn a) (nn B) f (q + 1) (x, nn 0 + (-1)) = some x := by
    intro x
    show fB_intAt_4 N (nn a) (nn B) f (fB_intAt_4l N (nn a) (nn B) f q) x (nn 0 + (-1)) = _
    unfold fB_intAt_4
    rw [if_pos (by decide)]
  rw [show N = q + 4 + 1 by omega] at s3 s2 s1 s0 se
  refine Eq.trans s3 ?_
  rw [show nn 3 + (-1 : Int32) = nn 2 from nn_m 2]
  refine Eq.trans (s2 _) ?_
  rw [show nn 2 + (-1 : Int32) = nn 1 from nn_m 1]
  refine Eq.trans (s1 _) ?_
  rw [show nn 1 + (-1 : Int32) = nn 0 from nn_m 0]
  refine Eq.trans (s0 _) ?_
  refine Eq.trans (se _) ?_
  rw [n4_eq]
  rfl
theorem o_holds {B a k : Nat} (hB : B ≤ 120) (ha : a < 1000000) (hk : k ≤ 8) (hkB : True) : fB_holds (nn a) (nn k) (nn B) = some (decide (a + k ≤ B)) := by
  unfold fB_holds
  rw [if_neg (nn_neg (by omega))]
  by_cases h : k ≤ B
  · rw [nn_sub h, c_lt (by omega) (by omega)]
    by_cases h2 : a + k ≤ B
    · rw [if_neg (by omega), decide_eq_true h2]
    · rw [if_pos (by omega), decide_eq_false h2]
  · have e : nn B - nn k < nn a := by
      rw [Int32.lt_iff_toInt_lt, Int32.toInt_sub, nn_i (by omega), nn_i (by omega), nn_i (by omega), Int.bmod_eq_of_le (by omega) (by omega)]
      omega
    rw [if_pos e, decide_eq_false (by omega)]
