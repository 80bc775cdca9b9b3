/-! the first and the last place where something holds -/
def fs (P : Nat → Bool) : Nat → Nat → Int32
  | 0, _ => -1
  | k + 1, i => if P i = true then nn i else fs P k (i + 1)
def lsf (P : Nat → Bool) : Nat → Nat → Int32 → Int32
  | 0, _, a => a
  | k + 1, i, a => lsf P k (i + 1) (if P i = true then nn i else a)
theorem lsf_none {P : Nat → Bool} : ∀ (k i : Nat) (a : Int32), (∀ j, i ≤ j → j < i + k → P j = false) → lsf P k i a = a
  | 0, _, _, _ => rfl
  | k + 1, i, a, h => by
    rw [lsf, h i (Nat.le_refl _) (by omega), if_neg (by decide)]
    exact lsf_none k (i + 1) a (fun j h1 h2 => h j (by omega) (by omega))
theorem lsf_fs {P : Nat → Bool} : ∀ (k i : Nat), (∀ x y, i ≤ x → x < i + k → i ≤ y → y < i + k → P x = true → P y = true → x = y) → lsf P k i (-1) = fs P k i
  | 0, _, _ => rfl
  | k + 1, i, h => by
    rw [lsf, fs]
    by_cases hp : P i = true
    · rw [if_pos hp, if_pos hp]
      refine lsf_none k (i + 1) _ (fun j h1 h2 => ?_)
      cases hj : P j with
      | false => rfl
      | true =>
        have := h i j (Nat.le_refl _) (by omega) (by omega) (by omega) hp hj
        omega
    · rw [if_neg hp, if_neg hp]
      exact lsf_fs k (i + 1) (fun x y a b c d => h x y (by omega) (by omega) (by omega) (by omega))
/-- what fs finds -/
theorem fs_some {P : Nat → Bool} : ∀ (k i : Nat), fs P k i = -1 ∧ (∀ j, i ≤ j → j < i + k → P j = false) ∨ ∃ j, i ≤ j ∧ j < i + k ∧ P j = true ∧ fs P k i = nn j
  | 0, i => Or.inl ⟨rfl, fun j h1 h2 => absurd h2 (by omega)⟩
  | k + 1, i => by
    by_cases hp : P i = true
    · exact Or.inr ⟨i, Nat.le_refl _, by omega, hp, by rw [fs, if_pos hp]⟩
    · have hf : P i = false := by cases h : P i with
        | true => exact absurd h hp
        | false => rfl
      rcases fs_some (P := P) k (i + 1) with ⟨h1, h2⟩ | ⟨j, h1, h2, h3, h4⟩
      · refine Or.inl ⟨by rw [fs, if_neg hp, h1], fun j h3 h4 => ?_⟩
        by_cases e : j = i
        · rw [e]; exact hf
        · exact h2 j (by omega) (by omega)
      · exact Or.inr ⟨j, by omega, by omega, h3, by rw [fs, if_neg hp, h4]⟩
/-- a property with this letter, of this kind -/
def pP (par own let_ : Nat → Int32) (c l : Int32) (p : Nat) : Bool := decide (let_ p = l) && isK par c (own p)
/-- the written program's propertyOf -/
theorem dP_l {C G : Nat} {par own let_ : Nat → Int32} (hC : C ≤ 6) (hG : G ≤ 8) (hp : pI C par) {N : Nat} (hN : 9 ≤ N) {c : Int32} (l : Int32) (hc : c = -1 ∨ ∃ i, i < C ∧ c = nn i) : ∀ (k i q : Nat), i + k = G → k < q → fD_propertyOf_2l N c l (nn C) (nn G) par own let_ q (nn i) = some (fs (pP par own let_ c l) k i) := by
  intro k
  induction k with
  | zero =>
    intro i q hi hq
    obtain ⟨q, rfl⟩ : ∃ z, q = z + 1 := ⟨q - 1, by omega⟩
    show fD_propertyOf_2 N c l (nn C) (nn G) par own let_ (fD_propertyOf_2l N c l (nn C) (nn G) par own let_ q) (nn i) = _
    unfold fD_propertyOf_2
    rw [if_pos (by rw [nn_le (by omega) (by omega)]; omega)]
    rfl
  | succ k ih =>
    intro i q hi hq
    obtain ⟨q, rfl⟩ : ∃ z, q = z + 1 := ⟨q - 1, by omega⟩
    show fD_propertyOf_2 N c l (nn C) (nn G) par own let_ (fD_propertyOf_2l N c l (nn C) (nn G) par own let_ q) (nn i) = _
    unfold fD_propertyOf_2
    rw [if_neg (by rw [nn_le (by omega) (by omega)]; omega), if_pos (nn_okt (by omega) (by omega)), if_pos (nn_okt (by omega) (by omega)), nn_c (by omega), dK hC hp hN _ hc, o_bind, nn_s, ih (i + 1) q (by omega) (by omega), fs]
    by_cases h1 : let_ i = l
    · rw [if_pos h1]
      by_cases h2 : isK par c (own i) = true
      · rw [if_pos h2, if_pos (by unfold pP; rw [decide_eq_true h1, h2]; rfl)]
      · rw [if_neg h2, if_neg (by unfold pP; rw [decide_eq_true h1, Bool.true_and]; exact h2)]
    · rw [if_neg h1, if_neg (by unfold pP; rw [decide_eq_false h1, Bool.false_and]; decide)]
theorem dP {C G : Nat} {par own let_ : Nat → Int32} (hC : C ≤ 6) (hG : G ≤ 8) (hp : pI C par) {N : Nat} (hN : 10 ≤ N) {c : Int32} (l : Int32) (hc : c = -1 ∨ ∃ i, i < C ∧ c = nn i) : fD_propertyOf N c l (nn C) (nn G) par own let_ = some (fs (pP par own let_ c l) G 0) :=
  dP_l hC hG hp (by omega) l hc G 0 N (by omega) (by omega)
/-- the reference's find -/
theorem mF_l {C G : Nat} {par own let_ : Nat → Int32} (hC : C ≤ 6) (hG : G ≤ 8) (hp : pI C par) {N : Nat} (hN : 9 ≤ N) {c : Int32} (l : Int32) (hc : c = -1 ∨ ∃ i, i < C ∧ c = nn i) : ∀ (k i q : Nat) (a : Int32), i + k = G → k < q → fM_find_5l N c l (nn G) par own let_ q (a, nn i) = some (lsf (pP par own let_ c l) k i a) := by
  intro k
  induction k with
  | zero =>
    intro i q a hi hq
    obtain ⟨q, rfl⟩ : ∃ z, q = z + 1 := ⟨q - 1, by omega⟩
    show fM_find_5 N c l (nn G) par own let_ (fM_find_5l N c l (nn G) par own let_ q) a (nn i) = _
    unfold fM_find_5
    rw [if_pos (by rw [nn_le (by omega) (by omega)]; omega)]
    rfl
  | succ k ih =>
    intro i q a hi hq
    obtain ⟨q, rfl⟩ : ∃ z, q = z + 1 := ⟨q - 1, by omega⟩
    show fM_find_5 N c l (nn G) par own let_ (fM_find_5l N c l (nn G) par own let_ q) a (nn i) = _
    have ho : fM_isOf N (nn i) c par own = some (isK par c (own i)) := by
      unfold fM_isOf
      rw [if_pos (nn_okt (by omega) (by omega)), nn_c (by omega), mK hC hp hN _ hc]
      rfl
    unfold fM_find_5
    rw [if_neg (by rw [nn_le (by omega) (by omega)]; omega), ho, o_bind, if_pos (nn_okt (by omega) (by omega)), nn_c (by omega), nn_s, ih (i + 1) q _ (by omega) (by omega), ih (i + 1) q _ (by omega) (by omega), lsf]
    by_cases h2 : isK par c (own i) = true
    · rw [if_pos h2]
      by_cases h1 : let_ i = l
      · rw [if_pos h1, if_pos (by unfold pP; rw [decide_eq_true h1, h2]; rfl)]
      · rw [if_neg h1, if_neg (by unfold pP; rw [decide_eq_false h1, Bool.false_and]; decide)]
    · rw [if_neg h2, if_neg (by unfold pP; intro q; rw [Bool.and_eq_true] at q; exact h2 q.2)]
theorem mF {C G : Nat} {par own let_ : Nat → Int32} (hC : C ≤ 6) (hG : G ≤ 8) (hp : pI C par) {N : Nat} (hN : 10 ≤ N) {c : Int32} (l : Int32) (hc : c = -1 ∨ ∃ i, i < C ∧ c = nn i) (hu : ∀ x y, x < G → y < G → pP par own let_ c l x = true → pP par own let_ c l y = true → x = y) : fM_find N c l (nn G) par own let_ = some (fs (pP par own let_ c l) G 0) := by
  have := mF_l (own := own) (let_ := let_) hC hG hp (by omega : 9 ≤ N) l hc G 0 N (-1) (by omega) (by omega)
  rw [lsf_fs G 0 (fun x y _ h1 _ h2 => hu x y (by omega) (by omega))] at this
  exact this
/-- all above a common one are in a row -/
theorem isK_chain {C : Nat} {par : Nat → Int32} (hC : C ≤ 6) (hp : pI C par) : ∀ (i : Nat), i < C → ∀ a b : Int32, isK par (nn i) a = true → isK par (nn i) b = true → isK par a b = true ∨ isK par b a = true := by
  intro i
  induction i using Nat.strongRecOn with
  | _ i ih =>
    intro hi a b ha hb
    by_cases e1 : nn i = a
    · subst e1; exact Or.inl hb
    · by_cases e2 : nn i = b
      · subst e2; exact Or.inr ha
      · rw [isK_s hC hp hi, if_neg e1] at ha
        rw [isK_s hC hp hi, if_neg e2] at hb
        rcases hp i hi with e | ⟨j, hj, e⟩
        · rw [e, isK_neg _ _ _ neg1_lt] at ha; cases ha
        · rw [e] at ha hb
          exact ih j hj (by omega) a b ha hb
/-- no two properties in a row of kinds have one letter -/
def uI (G : Nat) (par own let_ : Nat → Int32) : Prop := ∀ x y, x < G → y < G → let_ x = let_ y → (isK par (own x) (own y) = true ∨ isK par (own y) (own x) = true) → x = y
theorem pP_u {C G : Nat} {par own let_ : Nat → Int32} (hC : C ≤ 6) (hp : pI C par) (hu : uI G par own let_) {c : Int32} (l : Int32) (hc : c = -1 ∨ ∃ i, i < C ∧ c = nn i) : ∀ x y, x < G → y < G → pP par own let_ c l x = true → pP par own let_ c l y = true → x = y := by
  intro x y hx hy h1 h2
  unfold pP at h1 h2
  rw [Bool.and_eq_true, decide_eq_true_iff] at h1 h2
  rcases hc with rfl | ⟨i, hi, rfl⟩
  · rw [isK_neg _ _ _ neg1_lt] at h1; cases h1.2
  · exact hu x y hx hy (h1.1.trans h2.1.symm) (isK_chain hC hp i hi _ _ h1.2 h2.2)
