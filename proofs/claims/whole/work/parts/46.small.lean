/-! the small calls: both sides answer alike -/
abbrev AI : Type := Nat → Int32
abbrev AJ : Type := Nat → Int64
def dI (C G : Nat) (par own let_ sor tar : AI) : Prop :=
  C ≤ 6 ∧ G ≤ 8 ∧ pI C par ∧ uI G par own let_ ∧ ∀ p, p < G → (∃ i, i < C ∧ own p = nn i) ∧ (∃ k, k < 26 ∧ let_ p = nn k) ∧ (∃ k, k < 4 ∧ sor p = nn k) ∧ (sor p = 3 → ∃ i, i < C ∧ tar p = nn i)
def cI_ (G O : Nat) (sor : AI) (val : AJ) (prt : AI) (held : AJ) (o p : Nat) : Prop :=
  (p < G ∧ sor p = 3 → val (8 * o + p) = 0 ∧ held (8 * o + p) = (prt (8 * o + p)).toInt64 ∧ (prt (8 * o + p) = -1 ∨ ∃ x, x < O ∧ prt (8 * o + p) = nn x)) ∧ (¬ (p < G ∧ sor p = 3) → prt (8 * o + p) = -1 ∧ held (8 * o + p) = val (8 * o + p))
def oI (C G O : Nat) (sor kin : AI) (val : AJ) (prt : AI) (held : AJ) : Prop :=
  O ≤ 12 ∧ (∀ o, o < O → ∃ i, i < C ∧ kin o = nn i) ∧ ∀ o p, o < O → p < 8 → cI_ G O sor val prt held o p
def yI (B : Nat) (row : AI) : Prop := B ≤ 120 ∧ ∀ i, i < B → ∃ k, k < 256 ∧ row i = nn k
theorem q_byteAt {B : Nat} (hB : B ≤ 120) (f : AI) (v : Int32) : ∃ r, fP_byteAt v (nn B) f = some r ∧ fM_byteAt v (nn B) f = some r := by
  unfold fP_byteAt fM_byteAt fB_at
  by_cases h : v < 0
  · exact ⟨-1, by rw [if_pos h]; rfl, by rw [if_pos h]⟩
  · obtain ⟨k, hk, rfl⟩ := i_of_nn h
    by_cases hb : k < B
    · refine ⟨f k, ?_, ?_⟩
      · rw [if_neg h, if_neg (by rw [nn_le (by omega) hk]; omega), if_pos (nn_okt hk (by omega)), nn_c hk]; rfl
      · rw [if_neg h, if_pos (by rw [nn_lt hk (by omega)]; exact hb), if_pos (nn_okt hk (by omega)), nn_c hk]
    · refine ⟨-1, ?_, ?_⟩
      · rw [if_neg h, if_pos (by rw [nn_le (by omega) hk]; omega)]; rfl
      · rw [if_neg h, if_neg (by rw [nn_lt hk (by omega)]; exact hb)]
theorem q_cut {B : Nat} (hB : B ≤ 120) (v : Int32) : ∃ r B', B' ≤ B ∧ fP_cut v (nn B) = some (r, nn B') ∧ fM_cut v (nn B) = some (r, nn B') := by
  unfold fP_cut fM_cut
  by_cases h : v < 0
  · exact ⟨false, B, Nat.le_refl _, by rw [if_pos h], by rw [if_pos h]⟩
  · obtain ⟨k, hk, rfl⟩ := i_of_nn h
    rw [if_neg h, c_le hk (by omega)]
    by_cases hb : k ≤ B
    · exact ⟨true, k, hb, by rw [if_pos hb], by rw [if_pos hb]⟩
    · exact ⟨false, B, Nat.le_refl _, by rw [if_neg hb], by rw [if_neg hb]⟩
theorem q_poke {B : Nat} {f : AI} (hy : yI B f) (v w : Int32) : ∃ r B' f', yI B' f' ∧ fP_poke v w (nn B) f = some (r, nn B', f') ∧ fM_poke v w (nn B) f = some (r, nn B', f') := by
  obtain ⟨hB, hf⟩ := hy
  have same : ∃ r B' f', yI B' f' ∧ some (false, nn B, f) = some (r, nn B', f') ∧ some (false, nn B, f) = some (r, nn B', f') := ⟨false, B, f, ⟨hB, hf⟩, rfl, rfl⟩
  unfold fP_poke fM_poke
  by_cases hw : w < 0
  · refine ⟨false, B, f, ⟨hB, hf⟩, by rw [if_pos hw], ?_⟩
    by_cases h1 : v < 0
    · rw [if_pos h1]
    · rw [if_neg h1, if_pos hw]
      by_cases h2 : nn B < v
      · rw [if_pos h2]
      · rw [if_neg h2]
  · obtain ⟨j, hj, rfl⟩ := i_of_nn hw
    rw [if_neg hw, if_neg hw, show (255 : Int32) = nn 255 from rfl, c_le hj (by omega), c_lt (by omega) hj]
    by_cases h255 : j ≤ 255
    · rw [if_pos h255, if_neg (by omega : ¬ 255 < j)]
      by_cases h : v < 0
      · have h0 : ¬ v = nn B := by intro e; rw [e] at h; exact nn_neg (by omega) h
        refine ⟨false, B, f, ⟨hB, hf⟩, ?_, by rw [if_pos h]⟩
        rw [if_neg h0]
        unfold fB_replace
        rw [if_pos h]; rfl
      · obtain ⟨k, hk, rfl⟩ := i_of_nn h
        rw [if_neg h, c_lt (by omega) hk, c_eq hk (by omega), c_eq hk (by omega), show (120 : Int32) = nn 120 from rfl, c_lt hk (by omega)]
        by_cases e : k = B
        · subst e
          rw [if_pos rfl, if_neg (by omega : ¬ k < k)]
          unfold fB_add
          rw [show (120 : Int32) = nn 120 from rfl, c_lt hk (by omega)]
          by_cases h120 : k < 120
          · rw [if_pos h120, if_pos h120, if_pos (nn_okt hk h120), if_pos (nn_okt hk h120), if_pos rfl, nn_c hk, nn_s]
            refine ⟨true, k + 1, upd f k (nn j), ⟨by omega, fun i hi => ?_⟩, rfl, rfl⟩
            unfold upd
            by_cases e : i = k
            · rw [if_pos e]; exact ⟨j, by omega, rfl⟩
            · rw [if_neg e]; exact hf i (by omega)
          · rw [if_neg h120, if_neg h120]
            exact ⟨false, k, f, ⟨hB, hf⟩, rfl, rfl⟩
        · rw [if_neg e]
          unfold fB_replace
          rw [if_neg h, c_lt hk (by omega)]
          by_cases hb : k < B
          · rw [if_pos hb, if_neg (by omega : ¬ B < k), if_pos (by omega : k < 120), if_pos (nn_okt hk (by omega)), if_pos (nn_okt hk (by omega)), if_neg e, nn_c hk]
            refine ⟨true, B, upd f k (nn j), ⟨hB, fun i hi => ?_⟩, rfl, rfl⟩
            unfold upd
            by_cases e : i = k
            · rw [if_pos e]; exact ⟨j, by omega, rfl⟩
            · rw [if_neg e]; exact hf i hi
          · rw [if_neg hb, if_pos (by omega : B < k)]
            exact ⟨false, B, f, ⟨hB, hf⟩, rfl, rfl⟩
    · rw [if_neg h255]
      refine ⟨false, B, f, ⟨hB, hf⟩, rfl, ?_⟩
      by_cases h1 : v < 0
      · rw [if_pos h1]
      · rw [if_neg h1, if_pos (by omega : 255 < j)]
        by_cases h2 : nn B < v
        · rw [if_pos h2]
        · rw [if_neg h2]
/-- a number that is, or is not, a place below n -/
theorem in_or (x : Int32) (n : Nat) : x < 0 ∨ ∃ k, k < 2147483648 ∧ x = nn k ∧ (k < n ∨ n ≤ k) := by
  by_cases h : x < 0
  · exact Or.inl h
  · obtain ⟨k, hk, e⟩ := i_of_nn h
    exact Or.inr ⟨k, hk, e, by omega⟩
theorem mC {C : Nat} (hC : C < 2147483648) (i : Nat) (hi : i < 2147483648) : fM_isClass (nn i) (nn C) = some (decide (i < C)) := hasC hC i hi
theorem mC_neg {cc a : Int32} (h : a < 0) : fM_isClass a cc = some false := hasC_neg h
theorem iH {C : Nat} (hC : C < 2147483648) (i : Nat) (hi : i < 2147483648) : fI_has (nn i) (nn C) = some (decide (i < C)) := hasC hC i hi
theorem iH_neg {cc a : Int32} (h : a < 0) : fI_has a cc = some false := hasC_neg h
theorem mO {C : Nat} (hC : C < 2147483648) (i : Nat) (hi : i < 2147483648) : fM_isObject (nn i) (nn C) = some (decide (i < C)) := hasC hC i hi
theorem mO_neg {cc a : Int32} (h : a < 0) : fM_isObject a cc = some false := hasC_neg h
theorem dH {C : Nat} (hC : C < 2147483648) (i : Nat) (hi : i < 2147483648) : fD_hasProperty (nn i) (nn C) = some (decide (i < C)) := hasC hC i hi
theorem dH_neg {cc a : Int32} (h : a < 0) : fD_hasProperty a cc = some false := hasC_neg h
/-- the kind of an object, or none -/
def kdO (O : Nat) (kin : AI) (x : Int32) : Int32 := if x < 0 then -1 else if x.toNatClampNeg < O then kin x.toNatClampNeg else -1
theorem iKind {O : Nat} (hO : O ≤ 12) (kin : AI) (x : Int32) : fI_kind x (nn O) kin = some (kdO O kin x) := by
  unfold fI_kind kdO
  by_cases h : x < 0
  · rw [iH_neg h, if_pos h]; rfl
  · obtain ⟨k, hk, rfl⟩ := i_of_nn h
    rw [iH (by omega) k hk, o_bind, if_neg h, nn_c hk]
    by_cases hb : k < O
    · rw [decide_eq_true hb, if_pos rfl, if_pos (nn_okt hk (by omega)), if_pos hb]
    · rw [decide_eq_false hb, if_neg (by decide), if_neg hb]
theorem q_classOf {O : Nat} (hO : O ≤ 12) (kin : AI) (x : Int32) : ∃ r, fP_classOf x (nn O) kin = some r ∧ fM_classOf x (nn O) kin = some r := by
  refine ⟨kdO O kin x, ?_, ?_⟩
  · unfold fP_classOf
    rw [iKind hO]; rfl
  · exact iKind hO kin x
theorem kdO_or {C O : Nat} {kin : AI} (hk : ∀ o, o < O → ∃ i, i < C ∧ kin o = nn i) (x : Int32) : kdO O kin x = -1 ∨ ∃ i, i < C ∧ kdO O kin x = nn i := by
  unfold kdO
  by_cases h : x < 0
  · rw [if_pos h]; exact Or.inl rfl
  · rw [if_neg h]
    by_cases h2 : x.toNatClampNeg < O
    · rw [if_pos h2]; exact Or.inr (hk _ h2)
    · rw [if_neg h2]; exact Or.inl rfl
theorem q_define {C O : Nat} {par : AI} (hC : C ≤ 6) (hO : O ≤ 12) (v : Int32) : ∃ r C' par', fP_define v (nn C) par (nn O) = some (r, nn C', par') ∧ fM_define v (nn C) (nn O) par = some (r, nn C', par') ∧ (C' = C ∧ par' = par ∨ O = 0 ∧ C' = C + 1 ∧ C < 6 ∧ par' = upd par C v ∧ (v = -1 ∨ ∃ j, j < C ∧ v = nn j)) := by
  unfold fP_define fM_define
  by_cases hO0 : O = 0
  · subst hO0
    have hz : nn 0 ≤ 0 := by decide
    rw [if_pos hz, if_pos hz]
    unfold fD_addClass
    rw [show (6 : Int32) = nn 6 from rfl, c_le (by omega) (by omega), c_le (by omega) (by omega)]
    by_cases h6 : 6 ≤ C
    · rw [if_pos h6, if_pos h6]
      refine ⟨-1, C, par, rfl, ?_, Or.inl ⟨rfl, rfl⟩⟩
      by_cases e : v = -1
      · rw [if_pos e]
      · rw [if_neg e]
        rcases in_or v C with h | ⟨k, hk, rfl, _⟩
        · rw [mC_neg h]; rfl
        · rw [mC (by omega) k hk, o_bind]
          cases decide (k < C) <;> rfl
    · rw [if_neg h6, if_neg h6, if_pos (nn_okt (by omega) (by omega)), nn_c (by omega), nn_s, nn_p]
      by_cases e : v = -1
      · rw [if_pos e, if_pos e]
        exact ⟨nn C, C + 1, upd par C v, rfl, rfl, Or.inr ⟨rfl, rfl, by omega, rfl, Or.inl e⟩⟩
      · rw [if_neg e, if_neg e]
        rcases in_or v C with h | ⟨k, hk, rfl, h⟩
        · rw [mC_neg h, hasC_neg h]
          exact ⟨-1, C, par, rfl, rfl, Or.inl ⟨rfl, rfl⟩⟩
        · rw [mC (by omega) k hk, hasC (by omega) k hk]
          rcases h with h | h
          · rw [decide_eq_true h]
            exact ⟨nn C, C + 1, upd par C (nn k), rfl, rfl, Or.inr ⟨rfl, rfl, by omega, rfl, Or.inr ⟨k, h, rfl⟩⟩⟩
          · rw [decide_eq_false (by omega)]
            exact ⟨-1, C, par, rfl, rfl, Or.inl ⟨rfl, rfl⟩⟩
  · have hz : ¬ nn O ≤ 0 := by rw [show (0 : Int32) = nn 0 from rfl, nn_le (by omega) (by omega)]; omega
    rw [if_neg hz, if_neg hz]
    refine ⟨-1, C, par, rfl, ?_, Or.inl ⟨rfl, rfl⟩⟩
    have z : ∀ q : Prop, ∀ i : Decidable q, (@ite _ q i (some ((-1 : Int32), nn C, par)) (some ((-1 : Int32), nn C, par))) = some ((-1 : Int32), nn C, par) := fun q i => by split <;> rfl
    by_cases e : v = -1
    · rw [if_pos e, z]
    · rw [if_neg e]
      rcases in_or v C with h | ⟨k, hk, rfl, _⟩
      · rw [mC_neg h]; rfl
      · rw [mC (by omega) k hk, o_bind]
        cases decide (k < C)
        · rfl
        · rw [if_pos rfl, z]
