/-! classes, kinds, properties -/
/-- the first C places of the parents are good -/
def pI (C : Nat) (par : Nat → Int32) : Prop := ∀ i, i < C → par i = -1 ∨ ∃ j, j < i ∧ par i = nn j
/-- a is b, or below b -/
def kd (par : Nat → Int32) : Nat → Int32 → Int32 → Bool
  | 0, _, _ => false
  | k + 1, a, b => if a < 0 then false else if a = b then true else kd par k (par a.toNatClampNeg) b
theorem kd_neg (par : Nat → Int32) (k : Nat) (a b : Int32) (h : a < 0) : kd par k a b = false := by
  cases k with
  | zero => rfl
  | succ k => unfold kd; rw [if_pos h]
theorem kd_s {par : Nat → Int32} {k i : Nat} {b : Int32} (hi : i < 2147483648) : kd par (k + 1) (nn i) b = if nn i = b then true else kd par k (par i) b := by
  rw [kd, if_neg (nn_neg hi), nn_c hi]
/-- fuel beyond the number does not matter -/
theorem kd_fuel {C : Nat} {par : Nat → Int32} (hC : C ≤ 6) (hp : pI C par) (b : Int32) : ∀ (i k k' : Nat), i < C → i < k → i < k' → kd par k (nn i) b = kd par k' (nn i) b := by
  intro i
  induction i using Nat.strongRecOn with
  | _ i ih =>
    intro k k' hi hk hk'
    obtain ⟨k, rfl⟩ : ∃ z, k = z + 1 := ⟨k - 1, by omega⟩
    obtain ⟨k', rfl⟩ : ∃ z, k' = z + 1 := ⟨k' - 1, by omega⟩
    rw [kd_s (by omega), kd_s (by omega)]
    by_cases h : nn i = b
    · rw [if_pos h, if_pos h]
    · rw [if_neg h, if_neg h]
      rcases hp i hi with e | ⟨j, hj, e⟩
      · rw [e, kd_neg _ _ _ _ neg1_lt, kd_neg _ _ _ _ neg1_lt]
      · rw [e]
        exact ih j hj k k' (by omega) (by omega) (by omega)
def isK (par : Nat → Int32) (a b : Int32) : Bool := kd par 6 a b
theorem isK_neg (par : Nat → Int32) (a b : Int32) (h : a < 0) : isK par a b = false := kd_neg par 6 a b h
theorem isK_s {C : Nat} {par : Nat → Int32} (hC : C ≤ 6) (hp : pI C par) {i : Nat} (hi : i < C) (b : Int32) : isK par (nn i) b = if nn i = b then true else isK par (par i) b := by
  unfold isK
  rw [kd_s (by omega)]
  by_cases h : nn i = b
  · rw [if_pos h, if_pos h]
  · rw [if_neg h, if_neg h]
    rcases hp i hi with e | ⟨j, hj, e⟩
    · rw [e, kd_neg _ _ _ _ neg1_lt, kd_neg _ _ _ _ neg1_lt]
    · rw [e]
      exact kd_fuel hC hp b j 5 6 (by omega) (by omega) (by omega)
/-- the reference's loop -/
theorem mK_l {C : Nat} {par : Nat → Int32} (hC : C ≤ 6) (hp : pI C par) (N : Nat) (a b : Int32) : ∀ (i k : Nat) (f : Bool), i < C → i + 1 < k → fM_isKind_5l N a b par k (f, nn i) = some (f || isK par (nn i) b) := by
  intro i
  induction i using Nat.strongRecOn with
  | _ i ih =>
    intro k f hi hk
    obtain ⟨k, rfl⟩ : ∃ z, k = z + 1 := ⟨k - 1, by omega⟩
    show fM_isKind_5 N a b par (fM_isKind_5l N a b par k) f (nn i) = _
    have hn : ∀ g : Bool, fM_isKind_5l N a b par k (g, par i) = some (g || isK par (par i) b) := by
      intro g
      rcases hp i hi with e | ⟨j, hj, e⟩
      · rw [e, isK_neg _ _ _ neg1_lt, Bool.or_false]
        obtain ⟨k, rfl⟩ : ∃ z, k = z + 1 := ⟨k - 1, by omega⟩
        show fM_isKind_5 N a b par (fM_isKind_5l N a b par k) g (-1) = _
        unfold fM_isKind_5
        rw [if_pos neg1_lt]
      · rw [e]
        exact ih j hj k g (by omega) (by omega)
    unfold fM_isKind_5
    rw [if_neg (nn_neg (by omega)), isK_s hC hp hi, nn_c (by omega), if_pos (nn_okt (by omega) (by omega))]
    cases f with
    | true => rw [if_pos rfl, hn]; rfl
    | false =>
      rw [if_neg (by decide)]
      by_cases h : nn i = b
      · rw [if_pos h, if_pos h, hn]; rfl
      · rw [if_neg h, if_neg h, if_pos (nn_okt (by omega) (by omega)), hn]
theorem mK {C : Nat} {par : Nat → Int32} (hC : C ≤ 6) (hp : pI C par) {N : Nat} (hN : 9 ≤ N) {a : Int32} (b : Int32) (ha : a = -1 ∨ ∃ i, i < C ∧ a = nn i) : fM_isKind N a b par = some (isK par a b) := by
  unfold fM_isKind
  rcases ha with rfl | ⟨i, hi, rfl⟩
  · obtain ⟨N', e⟩ : ∃ z, N = z + 1 := ⟨N - 1, by omega⟩
    rw [isK_neg _ _ _ neg1_lt]
    have : fM_isKind_5l N (-1) b par (N' + 1) (false, -1) = some false := by
      show fM_isKind_5 N (-1) b par (fM_isKind_5l N (-1) b par N') false (-1) = _
      unfold fM_isKind_5
      rw [if_pos neg1_lt]
    rw [← e] at this
    exact this
  · rw [mK_l hC hp N _ b i N false hi (by omega), Bool.false_or]
/-- what hasClass, has and the like say -/
theorem hasC {C : Nat} (hC : C < 2147483648) (i : Nat) (hi : i < 2147483648) : fD_hasClass (nn i) (nn C) = some (decide (i < C)) := by
  unfold fD_hasClass
  rw [if_neg (nn_neg hi)]
  by_cases h : i < C
  · rw [if_neg (by rw [nn_le hC hi]; omega), decide_eq_true h]
  · rw [if_pos (by rw [nn_le hC hi]; omega), decide_eq_false h]
theorem hasC_neg {cc a : Int32} (h : a < 0) : fD_hasClass a cc = some false := by
  unfold fD_hasClass
  rw [if_pos h]
/-- the written program's loop -/
theorem dK_l {C : Nat} {par : Nat → Int32} (hC : C ≤ 6) (hp : pI C par) (N : Nat) (a b : Int32) : ∀ (i s k : Nat), i < C → s + i < 6 → i + 1 < k → fD_isKindOf_5l N a b (nn C) par k (nn i, nn s) = some (isK par (nn i) b) := by
  intro i
  induction i using Nat.strongRecOn with
  | _ i ih =>
    intro s k hi hs hk
    obtain ⟨k, rfl⟩ : ∃ z, k = z + 1 := ⟨k - 1, by omega⟩
    show fD_isKindOf_5 N a b (nn C) par (fD_isKindOf_5l N a b (nn C) par k) (nn i) (nn s) = _
    unfold fD_isKindOf_5
    rw [if_neg (by rw [show (6 : Int32) = nn 6 from rfl, nn_le (by omega) (by omega)]; omega), hasC (by omega) i (by omega), o_bind, decide_eq_true hi, if_pos rfl, isK_s hC hp hi, nn_c (by omega), if_pos (nn_okt (by omega) (by omega))]
    by_cases h : nn i = b
    · rw [if_pos h, if_pos h]
    · rw [if_neg h, if_neg h, nn_s]
      rcases hp i hi with e | ⟨j, hj, e⟩
      · rw [e, isK_neg _ _ _ neg1_lt]
        obtain ⟨k, rfl⟩ : ∃ z, k = z + 1 := ⟨k - 1, by omega⟩
        show fD_isKindOf_5 N a b (nn C) par (fD_isKindOf_5l N a b (nn C) par k) (-1) (nn (s + 1)) = _
        unfold fD_isKindOf_5
        by_cases h6 : (6 : Int32) ≤ nn (s + 1)
        · rw [if_pos h6]
        · rw [if_neg h6, hasC_neg neg1_lt, o_bind, if_neg (by decide)]
      · rw [e]
        exact ih j hj (s + 1) k (by omega) (by omega) (by omega)
theorem dK {C : Nat} {par : Nat → Int32} (hC : C ≤ 6) (hp : pI C par) {N : Nat} (hN : 9 ≤ N) {a : Int32} (b : Int32) (ha : a = -1 ∨ ∃ i, i < C ∧ a = nn i) : fD_isKindOf N a b (nn C) par = some (isK par a b) := by
  unfold fD_isKindOf
  rcases ha with rfl | ⟨i, hi, rfl⟩
  · obtain ⟨N', e⟩ : ∃ z, N = z + 1 := ⟨N - 1, by omega⟩
    rw [isK_neg _ _ _ neg1_lt]
    have : fD_isKindOf_5l N (-1) b (nn C) par (N' + 1) (-1, 0) = some false := by
      show fD_isKindOf_5 N (-1) b (nn C) par (fD_isKindOf_5l N (-1) b (nn C) par N') (-1) 0 = _
      unfold fD_isKindOf_5
      rw [if_neg (by decide), hasC_neg neg1_lt, o_bind, if_neg (by decide)]
    rw [← e] at this
    exact this
  · exact dK_l hC hp N _ b i 0 N hi (by omega) (by omega)
