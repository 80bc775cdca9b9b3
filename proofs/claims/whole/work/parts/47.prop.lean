/-! property: the letter is taken, or not -/
theorem isK_rf {C : Nat} {par : AI} (hC : C ≤ 6) (hp : pI C par) {i : Nat} (hi : i < C) : isK par (nn i) (nn i) = true := by
  rw [isK_s hC hp hi, if_pos rfl]
/-- the written program's isTaken -/
def tkP (par own let_ : AI) (c l : Int32) (p : Nat) : Bool := decide (let_ p = l) && (isK par c (own p) || isK par (own p) c)
def anyF (P : Nat → Bool) : Nat → Nat → Bool
  | 0, _ => false
  | k + 1, i => P i || anyF P k (i + 1)
theorem anyF_iff {P : Nat → Bool} : ∀ (k i : Nat), anyF P k i = true ↔ ∃ j, i ≤ j ∧ j < i + k ∧ P j = true
  | 0, i => by
    constructor
    · intro h; cases h
    · rintro ⟨j, h1, h2, _⟩; omega
  | k + 1, i => by
    rw [anyF, Bool.or_eq_true, anyF_iff k (i + 1)]
    constructor
    · rintro (h | ⟨j, h1, h2, h3⟩)
      · exact ⟨i, Nat.le_refl _, by omega, h⟩
      · exact ⟨j, by omega, by omega, h3⟩
    · rintro ⟨j, h1, h2, h3⟩
      by_cases e : j = i
      · subst e; exact Or.inl h3
      · exact Or.inr ⟨j, by omega, by omega, h3⟩
theorem dT_l {C G : Nat} {par own let_ : AI} (hC : C ≤ 6) (hG : G ≤ 8) (hp : pI C par) (ho : ∀ p, p < G → ∃ i, i < C ∧ own p = nn i) {N : Nat} (hN : 9 ≤ N) {c : Int32} (l : Int32) (hc : ∃ i, i < C ∧ c = nn i) : ∀ (k i q : Nat), i + k = G → k < q → fD_isTaken_2l N c l (nn C) (nn G) par own let_ q (nn i) = some (anyF (tkP par own let_ c l) k i) := by
  intro k
  induction k with
  | zero =>
    intro i q hi hq
    obtain ⟨q, rfl⟩ : ∃ z, q = z + 1 := ⟨q - 1, by omega⟩
    show fD_isTaken_2 N c l (nn C) (nn G) par own let_ (fD_isTaken_2l N c l (nn C) (nn G) par own let_ q) (nn i) = _
    unfold fD_isTaken_2
    rw [if_pos (by rw [nn_le (by omega) (by omega)]; omega)]
    rfl
  | succ k ih =>
    intro i q hi hq
    obtain ⟨q, rfl⟩ : ∃ z, q = z + 1 := ⟨q - 1, by omega⟩
    show fD_isTaken_2 N c l (nn C) (nn G) par own let_ (fD_isTaken_2l N c l (nn C) (nn G) par own let_ q) (nn i) = _
    unfold fD_isTaken_2
    have hok : ok (nn i) 8 = true := nn_okt (by omega) (by omega)
    rw [if_neg (by rw [nn_le (by omega) (by omega)]; omega), if_pos hok, if_pos hok, if_pos hok, nn_c (by omega), dK hC hp hN _ (Or.inr hc), o_bind, dK hC hp hN _ (Or.inr (ho i (by omega))), o_bind, nn_s, ih (i + 1) q (by omega) (by omega), anyF]
    unfold tkP
    by_cases h1 : let_ i = l
    · rw [if_pos h1, decide_eq_true h1, Bool.true_and]
      cases isK par c (own i) <;> cases isK par (own i) c <;> rfl
    · rw [if_neg h1, decide_eq_false h1, Bool.false_and, Bool.false_or]
theorem dT {C G : Nat} {par own let_ : AI} (hC : C ≤ 6) (hG : G ≤ 8) (hp : pI C par) (ho : ∀ p, p < G → ∃ i, i < C ∧ own p = nn i) {N : Nat} (hN : 10 ≤ N) {c : Int32} (l : Int32) (hc : ∃ i, i < C ∧ c = nn i) : fD_isTaken N c l (nn C) (nn G) par own let_ = some (anyF (tkP par own let_ c l) G 0) :=
  dT_l hC hG hp ho (by omega) l hc G 0 N (by omega) (by omega)
/-- the reference's loop over the kinds -/
def tkM (par own let_ : AI) (G : Nat) (c l : Int32) (k : Nat) : Bool := isK par (nn k) c && anyF (pP par own let_ (nn k) l) G 0
theorem fs_any {P : Nat → Bool} : ∀ (k i : Nat), i + k < 2147483648 → (fs P k i < 0 ↔ ¬ anyF P k i = true)
  | 0, i, _ => by
    constructor
    · intro _ h; cases h
    · intro _; exact neg1_lt
  | k + 1, i, hb => by
    rw [fs, anyF, Bool.or_eq_true]
    by_cases h : P i = true
    · rw [if_pos h]
      constructor
      · intro q; exact absurd q (nn_neg (by omega))
      · intro q; exact absurd (Or.inl h) q
    · rw [if_neg h, fs_any k (i + 1) (by omega)]
      constructor
      · rintro q (r | r)
        · exact h r
        · exact q r
      · intro q r; exact q (Or.inr r)
theorem mT_l {C G : Nat} {par own let_ sor tar : AI} (hC : C ≤ 6) (hG : G < 8) (hp : pI C par) (hu : uI G par own let_) {N : Nat} (hN : 10 ≤ N) (c l s t : Int32) (O : Int32) : ∀ (k i q : Nat), i + k = C → k < q → fM_property_64l N c l s t (nn C) O par (nn G) own let_ sor tar q (nn i) = some (if anyF (tkM par own let_ G c l) k i = true then (false, nn G, own, let_, sor, tar) else (true, nn (G + 1), upd own G c, upd let_ G l, upd sor G s, upd tar G t)) := by
  intro k
  induction k with
  | zero =>
    intro i q hi hq
    obtain ⟨q, rfl⟩ : ∃ z, q = z + 1 := ⟨q - 1, by omega⟩
    show fM_property_64 N c l s t (nn C) O par (nn G) own let_ sor tar (fM_property_64l N c l s t (nn C) O par (nn G) own let_ sor tar q) (nn i) = _
    unfold fM_property_64
    have hok : ok (nn G) 8 = true := nn_okt (by omega) (by omega)
    rw [if_pos (by rw [nn_le (by omega) (by omega)]; omega), if_pos hok, if_pos hok, if_pos hok, if_pos hok, nn_c (by omega), nn_s]
    rfl
  | succ k ih =>
    intro i q hi hq
    obtain ⟨q, rfl⟩ : ∃ z, q = z + 1 := ⟨q - 1, by omega⟩
    show fM_property_64 N c l s t (nn C) O par (nn G) own let_ sor tar (fM_property_64l N c l s t (nn C) O par (nn G) own let_ sor tar q) (nn i) = _
    have hc : (nn i : Int32) = -1 ∨ ∃ j, j < C ∧ nn i = nn j := Or.inr ⟨i, by omega, rfl⟩
    unfold fM_property_64
    rw [if_neg (by rw [nn_le (by omega) (by omega)]; omega), mK hC hp (by omega) _ hc, o_bind, mF hC (by omega) hp hN l hc (pP_u hC hp hu l hc), o_bind, nn_s, ih (i + 1) q (by omega) (by omega), anyF]
    unfold tkM
    by_cases h1 : isK par (nn i) c = true
    · rw [if_pos h1, h1, Bool.true_and]
      by_cases h2 : anyF (pP par own let_ (nn i) l) G 0 = true
      · rw [if_neg (by rw [fs_any G 0 (by omega)]; exact fun z => z h2), h2]; rfl
      · rw [if_pos (by rw [fs_any G 0 (by omega)]; exact h2)]
        have : anyF (pP par own let_ (nn i) l) G 0 = false := by cases h : anyF (pP par own let_ (nn i) l) G 0 with
          | true => exact absurd h h2
          | false => rfl
        rw [this, Bool.false_or]
    · have : isK par (nn i) c = false := by cases h : isK par (nn i) c with
        | true => exact absurd h h1
        | false => rfl
      rw [if_neg h1, this, Bool.false_and, Bool.false_or]
/-- both say the same -/
theorem tk_same {C G : Nat} {par own let_ : AI} (hC : C ≤ 6) (hp : pI C par) (ho : ∀ p, p < G → ∃ i, i < C ∧ own p = nn i) (l : Int32) {i : Nat} (hi : i < C) : anyF (tkP par own let_ (nn i) l) G 0 = anyF (tkM par own let_ G (nn i) l) C 0 := by
  rw [Bool.eq_iff_iff, anyF_iff, anyF_iff]
  constructor
  · rintro ⟨p, _, h2, h3⟩
    unfold tkP at h3
    rw [Bool.and_eq_true, decide_eq_true_iff, Bool.or_eq_true] at h3
    obtain ⟨h3, h4 | h4⟩ := h3
    · refine ⟨i, Nat.zero_le _, by omega, ?_⟩
      unfold tkM
      rw [isK_rf hC hp hi, Bool.true_and, anyF_iff]
      exact ⟨p, Nat.zero_le _, h2, by unfold pP; rw [decide_eq_true h3, h4]; rfl⟩
    · obtain ⟨j, hj, e⟩ := ho p (by omega)
      refine ⟨j, Nat.zero_le _, by omega, ?_⟩
      unfold tkM
      rw [e] at h4
      rw [h4, Bool.true_and, anyF_iff]
      exact ⟨p, Nat.zero_le _, h2, by unfold pP; rw [decide_eq_true h3, e, isK_rf hC hp hj]; rfl⟩
  · rintro ⟨k, _, h2, h3⟩
    unfold tkM at h3
    rw [Bool.and_eq_true, anyF_iff] at h3
    obtain ⟨h3, p, _, h5, h6⟩ := h3
    unfold pP at h6
    rw [Bool.and_eq_true, decide_eq_true_iff] at h6
    refine ⟨p, Nat.zero_le _, h5, ?_⟩
    unfold tkP
    rw [decide_eq_true h6.1, Bool.true_and, Bool.or_eq_true]
    exact isK_chain hC hp k (by omega) _ _ h3 h6.2
/-- is a class, as a truth value -/
def clB (C : Nat) (x : Int32) : Bool := decide (0 ≤ x.toInt ∧ x.toInt < C)
theorem hasC_b {C : Nat} (hC : C < 2147483648) (x : Int32) : fD_hasClass x (nn C) = some (clB C x) := by
  unfold clB
  rcases in_or x C with h | ⟨k, hk, rfl, h⟩
  · rw [hasC_neg h, decide_eq_false]
    rw [Int32.lt_iff_toInt_lt, Int32.toInt_zero] at h
    omega
  · rw [hasC hC k hk, nn_i hk]
    congr 1
    rw [decide_eq_decide]
    omega
theorem clB_t {C : Nat} {x : Int32} (h : clB C x = true) : ∃ i, i < C ∧ x = nn i := by
  unfold clB at h
  rw [decide_eq_true_iff] at h
  obtain ⟨k, hk, rfl⟩ := i_of_nn (x := x) (by rw [Int32.lt_iff_toInt_lt, Int32.toInt_zero]; omega)
  rw [nn_i hk] at h
  exact ⟨k, by omega, rfl⟩
theorem mC_b {C : Nat} (hC : C < 2147483648) (x : Int32) : fM_isClass x (nn C) = some (clB C x) := hasC_b hC x
/-- what property does -/
abbrev prOk (C G : Nat) (v1 v2 v3 v4 : Int32) : Prop := G < 8 ∧ clB C v1 = true ∧ ¬ v2 < 0 ∧ v2 ≤ 25 ∧ ¬ v3 < 0 ∧ v3 ≤ 3 ∧ (v3 = 3 → clB C v4 = true)
theorem d_prop {C G : Nat} {par own let_ sor tar : AI} (hC : C ≤ 6) (hG : G ≤ 8) (hp : pI C par) (ho : ∀ p, p < G → ∃ i, i < C ∧ own p = nn i) {N : Nat} (hN : 10 ≤ N) (v1 v2 v3 v4 : Int32) :
    fD_addProperty N v1 v2 v3 v4 (nn C) (nn G) par own let_ sor tar = some (if prOk C G v1 v2 v3 v4 ∧ ¬ anyF (tkP par own let_ v1 v2) G 0 = true then (true, nn (G + 1), upd own G v1, upd let_ G v2, upd sor G v3, upd tar G v4) else (false, nn G, own, let_, sor, tar)) := by
  unfold fD_addProperty
  rw [hasC_b (by omega), o_bind, hasC_b (by omega), o_bind, show (8 : Int32) = nn 8 from rfl, c_le (by omega) (by omega)]
  by_cases h8 : 8 ≤ G
  · rw [if_pos h8, if_neg (c := prOk C G v1 v2 v3 v4 ∧ ¬ anyF (tkP par own let_ v1 v2) G 0 = true) (fun z => by have := z.1.1; omega)]
  · rw [if_neg h8]
    by_cases h1 : clB C v1 = true
    · rw [if_pos h1]
      by_cases h2 : v2 < 0
      · rw [if_pos h2, if_neg (c := prOk C G v1 v2 v3 v4 ∧ ¬ anyF (tkP par own let_ v1 v2) G 0 = true) (fun z => z.1.2.2.1 h2)]
      · rw [if_neg h2]
        by_cases h3 : (26 : Int32) ≤ v2
        · rw [if_pos h3, if_neg (c := prOk C G v1 v2 v3 v4 ∧ ¬ anyF (tkP par own let_ v1 v2) G 0 = true) (fun z => by
            have := z.1.2.2.2.1
            rw [Int32.le_iff_toInt_le] at this h3
            have e1 : (26 : Int32).toInt = 26 := by decide
            have e2 : (25 : Int32).toInt = 25 := by decide
            omega)]
        · rw [if_neg h3]
          have h3' : v2 ≤ 25 := by
            rw [Int32.le_iff_toInt_le] at h3 ⊢
            have e1 : (26 : Int32).toInt = 26 := by decide
            have e2 : (25 : Int32).toInt = 25 := by decide
            omega
          by_cases h4 : v3 < 0
          · rw [if_pos h4, if_neg (c := prOk C G v1 v2 v3 v4 ∧ ¬ anyF (tkP par own let_ v1 v2) G 0 = true) (fun z => z.1.2.2.2.2.1 h4)]
          · rw [if_neg h4]
            by_cases h5 : v3 ≤ (3 : Int32)
            · rw [if_pos h5]
              have hok : ok (nn G) 8 = true := nn_okt (by omega) (by omega)
              obtain ⟨i, hi, rfl⟩ := clB_t h1
              rw [dT hC hG hp ho hN v2 ⟨i, hi, rfl⟩, o_bind, if_pos hok, if_pos hok, if_pos hok, if_pos hok, nn_c (by omega), nn_s]
              by_cases ht : anyF (tkP par own let_ (nn i) v2) G 0 = true
              · rw [if_pos ht, if_neg (c := prOk C G (nn i) v2 v3 v4 ∧ ¬ anyF (tkP par own let_ (nn i) v2) G 0 = true) (fun z => z.2 ht)]
                by_cases h6 : v3 = 3
                · rw [if_pos h6]
                  split <;> rfl
                · rw [if_neg h6]
              · rw [if_neg ht]
                by_cases h6 : v3 = 3
                · rw [if_pos h6]
                  by_cases h7 : clB C v4 = true
                  · rw [if_pos h7, if_pos ⟨⟨by omega, h1, h2, h3', h4, h5, fun _ => h7⟩, ht⟩]
                  · rw [if_neg h7, if_neg (c := prOk C G (nn i) v2 v3 v4 ∧ ¬ anyF (tkP par own let_ (nn i) v2) G 0 = true) (fun z => h7 (z.1.2.2.2.2.2.2 h6))]
                · rw [if_neg h6, if_pos ⟨⟨by omega, h1, h2, h3', h4, h5, fun z => absurd z h6⟩, ht⟩]
            · rw [if_neg h5, if_neg (c := prOk C G v1 v2 v3 v4 ∧ ¬ anyF (tkP par own let_ v1 v2) G 0 = true) (fun z => h5 z.1.2.2.2.2.2.1)]
    · rw [if_neg h1, if_neg (c := prOk C G v1 v2 v3 v4 ∧ ¬ anyF (tkP par own let_ v1 v2) G 0 = true) (fun z => h1 z.1.2.1)]
theorem m_prop {C G : Nat} {par own let_ sor tar : AI} (hC : C ≤ 6) (hG : G ≤ 8) (hp : pI C par) (ho : ∀ p, p < G → ∃ i, i < C ∧ own p = nn i) (hu : uI G par own let_) {N : Nat} (hN : 10 ≤ N) (v1 v2 v3 v4 : Int32) :
    fM_property N v1 v2 v3 v4 (nn C) (nn G) (nn 0) par own let_ sor tar = some (if prOk C G v1 v2 v3 v4 ∧ ¬ anyF (tkP par own let_ v1 v2) G 0 = true then (true, nn (G + 1), upd own G v1, upd let_ G v2, upd sor G v3, upd tar G v4) else (false, nn G, own, let_, sor, tar)) := by
  unfold fM_property
  rw [mC_b (by omega), o_bind, mC_b (by omega), o_bind, show (8 : Int32) = nn 8 from rfl, c_le (by omega) (by omega), if_pos (by decide : nn 0 ≤ 0)]
  by_cases h8 : 8 ≤ G
  · rw [if_pos h8, if_neg (c := prOk C G v1 v2 v3 v4 ∧ ¬ anyF (tkP par own let_ v1 v2) G 0 = true) (fun z => by have := z.1.1; omega)]
    simp only [ite_self]
  · rw [if_neg h8]
    by_cases h1 : clB C v1 = true
    · rw [if_pos h1]
      by_cases h2 : v2 < 0
      · rw [if_pos h2, if_neg (c := prOk C G v1 v2 v3 v4 ∧ ¬ anyF (tkP par own let_ v1 v2) G 0 = true) (fun z => z.1.2.2.1 h2)]
      · rw [if_neg h2]
        by_cases h3 : (25 : Int32) < v2
        · rw [if_pos h3, if_neg (c := prOk C G v1 v2 v3 v4 ∧ ¬ anyF (tkP par own let_ v1 v2) G 0 = true) (fun z => by
            have := z.1.2.2.2.1
            rw [Int32.le_iff_toInt_le] at this
            rw [Int32.lt_iff_toInt_lt] at h3
            omega)]
        · rw [if_neg h3]
          have h3' : v2 ≤ 25 := by
            rw [Int32.lt_iff_toInt_lt] at h3
            rw [Int32.le_iff_toInt_le]
            omega
          by_cases h4 : v3 < 0
          · rw [if_pos h4, if_neg (c := prOk C G v1 v2 v3 v4 ∧ ¬ anyF (tkP par own let_ v1 v2) G 0 = true) (fun z => z.1.2.2.2.2.1 h4)]
          · rw [if_neg h4]
            by_cases h5 : (3 : Int32) < v3
            · rw [if_pos h5, if_neg (c := prOk C G v1 v2 v3 v4 ∧ ¬ anyF (tkP par own let_ v1 v2) G 0 = true) (fun z => by
                have := z.1.2.2.2.2.2.1
                rw [Int32.le_iff_toInt_le] at this
                rw [Int32.lt_iff_toInt_lt] at h5
                omega)]
            · rw [if_neg h5]
              have h5' : v3 ≤ 3 := by
                rw [Int32.lt_iff_toInt_lt] at h5
                rw [Int32.le_iff_toInt_le]
                omega
              obtain ⟨i, hi, rfl⟩ := clB_t h1
              have hl := mT_l (sor := sor) (tar := tar) hC (by omega : G < 8) hp hu hN (nn i) v2 v3 v4 (nn 0) C 0 N (by omega) (by omega)
              rw [show fM_property_64l N (nn i) v2 v3 v4 (nn C) (nn 0) par (nn G) own let_ sor tar N 0 = _ from hl, ← tk_same hC hp ho v2 hi]
              by_cases ht : anyF (tkP par own let_ (nn i) v2) G 0 = true
              · rw [if_pos ht, if_neg (c := prOk C G (nn i) v2 v3 v4 ∧ ¬ anyF (tkP par own let_ (nn i) v2) G 0 = true) (fun z => z.2 ht)]
                simp only [ite_self]
              · rw [if_neg ht]
                by_cases h6 : v3 = 3
                · rw [if_pos h6]
                  by_cases h7 : clB C v4 = true
                  · rw [if_pos h7, if_pos ⟨⟨by omega, h1, h2, h3', h4, h5', fun _ => h7⟩, ht⟩]
                  · rw [if_neg h7, if_neg (c := prOk C G (nn i) v2 v3 v4 ∧ ¬ anyF (tkP par own let_ (nn i) v2) G 0 = true) (fun z => h7 (z.1.2.2.2.2.2.2 h6))]
                · rw [if_neg h6, if_pos ⟨⟨by omega, h1, h2, h3', h4, h5', fun z => absurd z h6⟩, ht⟩]
    · rw [if_neg h1, if_neg (c := prOk C G v1 v2 v3 v4 ∧ ¬ anyF (tkP par own let_ v1 v2) G 0 = true) (fun z => h1 z.1.2.1)]
/-- the description stays good when a property comes to it -/
theorem dI_prop {C G : Nat} {par own let_ sor tar : AI} (hd : dI C G par own let_ sor tar) {v1 v2 v3 v4 : Int32} (hk : prOk C G v1 v2 v3 v4) (ht : ¬ anyF (tkP par own let_ v1 v2) G 0 = true) : dI C (G + 1) par (upd own G v1) (upd let_ G v2) (upd sor G v3) (upd tar G v4) := by
  obtain ⟨hC, hG, hp, hu, hx⟩ := hd
  obtain ⟨k1, k2, k3, k4, k5, k6, k7⟩ := hk
  obtain ⟨i, hi, rfl⟩ := clB_t k2
  have hn : ∀ p, p < G → let_ p = v2 → (isK par (own p) (nn i) = true ∨ isK par (nn i) (own p) = true) → False := by
    intro p hpG e h
    refine ht ((anyF_iff G 0).mpr ⟨p, Nat.zero_le _, by omega, ?_⟩)
    unfold tkP
    rw [decide_eq_true e, Bool.true_and, Bool.or_eq_true]
    exact h.symm
  refine ⟨hC, by omega, hp, fun x y hx hy e h => ?_, fun p hpG => ?_⟩
  · unfold upd at e h
    by_cases ex : x = G
    · by_cases ey : y = G
      · omega
      · rw [if_pos ex, if_neg ey] at e
        rw [if_pos ex, if_neg ey] at h
        exact absurd (hn y (by omega) e.symm h.symm) id
    · by_cases ey : y = G
      · rw [if_neg ex, if_pos ey] at e
        rw [if_neg ex, if_pos ey] at h
        exact absurd (hn x (by omega) e h) id
      · rw [if_neg ex, if_neg ey] at e
        rw [if_neg ex, if_neg ey] at h
        exact hu x y (by omega) (by omega) e h
  · unfold upd
    by_cases ep : p = G
    · rw [if_pos ep, if_pos ep, if_pos ep, if_pos ep]
      refine ⟨⟨i, hi, rfl⟩, ?_, ?_, fun z => clB_t (k7 z)⟩
      · obtain ⟨k, hk, rfl⟩ := i_of_nn k3
        rw [show (25 : Int32) = nn 25 from rfl, nn_le hk (by omega)] at k4
        exact ⟨k, by omega, rfl⟩
      · obtain ⟨k, hk, rfl⟩ := i_of_nn k5
        rw [show (3 : Int32) = nn 3 from rfl, nn_le hk (by omega)] at k6
        exact ⟨k, by omega, rfl⟩
    · rw [if_neg ep, if_neg ep, if_neg ep, if_neg ep]
      exact hx p (by omega)
theorem q_property {C G O : Nat} {par own let_ sor tar : AI} (hd : dI C G par own let_ sor tar) (hO : O ≤ 12) {N : Nat} (hN : 10 ≤ N) (v1 v2 v3 v4 : Int32) : ∃ r G' own' let' sor' tar', fP_property N v1 v2 v3 v4 (nn C) (nn G) par own let_ sor tar (nn O) = some (r, nn G', own', let', sor', tar') ∧ fM_property N v1 v2 v3 v4 (nn C) (nn G) (nn O) par own let_ sor tar = some (r, nn G', own', let', sor', tar') ∧ dI C G' par own' let' sor' tar' ∧ (O = 0 ∨ G' = G ∧ own' = own ∧ let' = let_ ∧ sor' = sor ∧ tar' = tar) := by
  obtain ⟨hC, hG, hp, hu, hx⟩ := hd
  have ho : ∀ p, p < G → ∃ i, i < C ∧ own p = nn i := fun p h => (hx p h).1
  by_cases h0 : O = 0
  · subst h0
    unfold fP_property
    rw [if_pos (by rfl : nn 0 = 0), d_prop hC hG hp ho hN, o_bind, m_prop hC hG hp ho hu hN]
    by_cases hz : prOk C G v1 v2 v3 v4 ∧ ¬ anyF (tkP par own let_ v1 v2) G 0 = true
    · rw [if_pos hz]
      exact ⟨true, G + 1, _, _, _, _, rfl, rfl, dI_prop ⟨hC, hG, hp, hu, hx⟩ hz.1 hz.2, Or.inl rfl⟩
    · rw [if_neg hz]
      exact ⟨false, G, _, _, _, _, rfl, rfl, ⟨hC, hG, hp, hu, hx⟩, Or.inl rfl⟩
  · refine ⟨false, G, own, let_, sor, tar, ?_, ?_, ⟨hC, hG, hp, hu, hx⟩, Or.inr ⟨rfl, rfl, rfl, rfl, rfl⟩⟩
    · unfold fP_property
      rw [if_neg (by rw [show (0 : Int32) = nn 0 from rfl, nn_eq (by omega) (by omega)]; exact h0)]
    · unfold fM_property
      have hc : ¬ nn O ≤ 0 := by rw [show (0 : Int32) = nn 0 from rfl, nn_le (by omega) (by omega)]; omega
      rw [mC_b (by omega), o_bind, mC_b (by omega), o_bind, if_neg hc]
      simp only [ite_self]
