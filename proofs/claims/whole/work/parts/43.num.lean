/-! small numbers: nn k is the int of the natural number k -/
abbrev nn (k : Nat) : Int32 := Int32.ofNat k
theorem nn_i {a : Nat} (h : a < 2147483648) : (nn a).toInt = a := Int32.toInt_ofNat_of_lt h
theorem nn_c {a : Nat} (h : a < 2147483648) : (nn a).toNatClampNeg = a := Int32.toNatClampNeg_ofNat_of_lt h
theorem nn_add (a b : Nat) : nn a + nn b = nn (a + b) := (Int32.ofNat_add a b).symm
theorem nn_lt {a b : Nat} (ha : a < 2147483648) (hb : b < 2147483648) : nn a < nn b ↔ a < b := by
  rw [Int32.lt_iff_toInt_lt, nn_i ha, nn_i hb]; omega
theorem nn_le {a b : Nat} (ha : a < 2147483648) (hb : b < 2147483648) : nn a ≤ nn b ↔ a ≤ b := by
  rw [Int32.le_iff_toInt_le, nn_i ha, nn_i hb]; omega
theorem nn_eq {a b : Nat} (ha : a < 2147483648) (hb : b < 2147483648) : nn a = nn b ↔ a = b := by
  rw [← Int32.toInt_inj, nn_i ha, nn_i hb]; omega
theorem nn_neg {a : Nat} (ha : a < 2147483648) : ¬ nn a < 0 := by
  rw [Int32.lt_iff_toInt_lt, nn_i ha, Int32.toInt_zero]; omega
theorem nn_ge0 {a : Nat} (ha : a < 2147483648) : 0 ≤ nn a := by
  rw [Int32.le_iff_toInt_le, nn_i ha, Int32.toInt_zero]; omega
theorem nn_ne1 {a : Nat} (ha : a < 2147483648) : ¬ nn a = -1 := by
  rw [← Int32.toInt_inj, nn_i ha, show (-1 : Int32).toInt = -1 from by decide]; omega
theorem nn_ok {a n : Nat} (ha : a < 2147483648) : ok (nn a) n = true ↔ a < n := by
  unfold ok
  rw [decide_eq_true_iff, nn_i ha]; omega
theorem nn_okt {a n : Nat} (ha : a < 2147483648) (h : a < n) : ok (nn a) n = true := (nn_ok ha).mpr h
theorem nn_sub {a b : Nat} (h : b ≤ a) : nn a - nn b = nn (a - b) := by
  have e : nn a = nn (a - b) + nn b := by rw [nn_add, Nat.sub_add_cancel h]
  rw [e, Int32.add_sub_cancel]
theorem nn_mul (a b : Nat) : nn a * nn b = nn (a * b) := (Int32.ofNat_mul a b).symm
theorem neg1_lt : (-1 : Int32) < 0 := by decide
theorem neg1_le (a : Nat) (ha : a < 2147483648) : ¬ nn a ≤ -1 := by
  rw [Int32.le_iff_toInt_le, nn_i ha, show (-1 : Int32).toInt = -1 from by decide]; omega
theorem i_of_nn {x : Int32} (h : ¬ x < 0) : ∃ k : Nat, k < 2147483648 ∧ x = nn k := by
  rw [Int32.lt_iff_toInt_lt, Int32.toInt_zero] at h
  have h2 := x.toInt_lt
  refine ⟨x.toInt.toNat, by omega, ?_⟩
  rw [← Int32.toInt_inj, nn_i (by omega)]
  omega
theorem lp_s {α β : Type} (step : (α → Option β) → α → Option β) (k : Nat) (a : α) : lp step (k + 1) a = step (lp step k) a := rfl
theorem o_bind {α β : Type} (a : α) (k : α → Option β) : (some a).bind k = k a := rfl
theorem i_t {β : Type} {c : Prop} {i : Decidable c} {a b : β} (h : c) : @ite _ c i a b = a := if_pos h
theorem i_f {β : Type} {c : Prop} {i : Decidable c} {a b : β} (h : ¬ c) : @ite _ c i a b = b := if_neg h
theorem c_le {β : Type} {a b : Nat} (ha : a < 2147483648) (hb : b < 2147483648) {x y : β} {i : Decidable (nn a ≤ nn b)} : @ite _ (nn a ≤ nn b) i x y = if a ≤ b then x else y := by
  by_cases h : a ≤ b
  · rw [if_pos h, if_pos ((nn_le ha hb).mpr h)]
  · rw [if_neg h, if_neg (fun q => h ((nn_le ha hb).mp q))]
theorem c_lt {β : Type} {a b : Nat} (ha : a < 2147483648) (hb : b < 2147483648) {x y : β} {i : Decidable (nn a < nn b)} : @ite _ (nn a < nn b) i x y = if a < b then x else y := by
  by_cases h : a < b
  · rw [if_pos h, if_pos ((nn_lt ha hb).mpr h)]
  · rw [if_neg h, if_neg (fun q => h ((nn_lt ha hb).mp q))]
theorem c_eq {β : Type} {a b : Nat} (ha : a < 2147483648) (hb : b < 2147483648) {x y : β} {i : Decidable (nn a = nn b)} : @ite _ (nn a = nn b) i x y = if a = b then x else y := by
  by_cases h : a = b
  · rw [if_pos h, if_pos ((nn_eq ha hb).mpr h)]
  · rw [if_neg h, if_neg (fun q => h ((nn_eq ha hb).mp q))]
theorem nn_s (a : Nat) : nn a + (1 : Int32) = nn (a + 1) := nn_add a 1
theorem nn_p (a : Nat) : nn (a + 1) - (1 : Int32) = nn a := nn_sub (a := a + 1) (b := 1) (by omega)
