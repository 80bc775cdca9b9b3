/-! objects: make, put, link, value, linked -/
def blk {β : Type} (z : Nat → β) (o i k : Nat) (f : Nat → β) : Nat → β := fun j => if 8 * o + i ≤ j ∧ j < 8 * o + i + k then z (j - 8 * o) else f j
theorem blk_0 {β : Type} (z : Nat → β) (o i : Nat) (f : Nat → β) : blk z o i 0 f = f := by
  funext j
  unfold blk
  rw [if_neg (by omega)]
theorem blk_I (z : Nat → Int32) (o i k : Nat) (f : AI) : blk z o (i + 1) k (upd f (8 * o + i) (z i)) = blk z o i (k + 1) f := by
  funext j
  unfold blk upd
  by_cases h1 : 8 * o + (i + 1) ≤ j ∧ j < 8 * o + (i + 1) + k
  · rw [if_pos h1, if_pos (by omega)]
  · rw [if_neg h1]
    by_cases h2 : j = 8 * o + i
    · rw [if_pos h2, if_pos (by omega), h2, show 8 * o + i - 8 * o = i by omega]
    · rw [if_neg h2, if_neg (by omega)]
theorem blk_J (z : Nat → Int64) (o i k : Nat) (f : AJ) : blk z o (i + 1) k (vp_updL f (8 * o + i) (z i)) = blk z o i (k + 1) f := by
  funext j
  unfold blk vp_updL
  by_cases h1 : 8 * o + (i + 1) ≤ j ∧ j < 8 * o + (i + 1) + k
  · rw [if_pos h1, if_pos (by omega)]
  · rw [if_neg h1]
    by_cases h2 : j = 8 * o + i
    · rw [if_pos h2, if_pos (by omega), h2, show 8 * o + i - 8 * o = i by omega]
    · rw [if_neg h2, if_neg (by omega)]
theorem iHC {O : Nat} (hO : O ≤ 12) {o p : Nat} (ho : o < O) (hp : p < 8) : fI_hasCell (nn o) (nn p) (nn O) = some true := by
  unfold fI_hasCell
  rw [iH (by omega) o (by omega), o_bind, decide_eq_true ho, if_pos rfl, if_neg (nn_neg (by omega)), if_neg (by rw [show (8 : Int32) = nn 8 from rfl, nn_le (by omega) (by omega)]; omega)]
theorem iCell (o p : Nat) : fI_cell (nn o) (nn p) = some (nn (8 * o + p)) := by
  unfold fI_cell
  rw [show (8 : Int32) = nn 8 from rfl, nn_mul, nn_add, Nat.mul_comm]
theorem iSetV {O : Nat} (hO : O ≤ 12) {o p : Nat} (ho : o < O) (hp : p < 8) (v : Int64) (f : AJ) : fI_setValue (nn o) (nn p) v (nn O) f = some (vp_updL f (8 * o + p) v) := by
  unfold fI_setValue
  rw [iHC hO ho hp, o_bind, if_pos rfl, iCell, o_bind, if_pos (nn_okt (by omega) (by omega)), nn_c (by omega)]
theorem iSetP {O : Nat} (hO : O ≤ 12) {o p : Nat} (ho : o < O) (hp : p < 8) (v : Int32) (f : AI) : fI_setPartner (nn o) (nn p) v (nn O) f = some (upd f (8 * o + p) v) := by
  unfold fI_setPartner
  rw [iHC hO ho hp, o_bind, if_pos rfl, iCell, o_bind, if_pos (nn_okt (by omega) (by omega)), nn_c (by omega)]
theorem iAdd_l {N O : Nat} (hO : O < 12) (c : Int32) (kin : AI) : ∀ (k i q : Nat) (f : AJ) (g : AI), i + k = 8 → k < q → fI_add_35l N c (nn O) (nn (O + 1)) kin q (nn i, f, g) = some (nn O, nn (O + 1), kin, blk (fun _ => 0) O i k f, blk (fun _ => -1) O i k g) := by
  intro k
  induction k with
  | zero =>
    intro i q f g hi hq
    obtain ⟨q, rfl⟩ : ∃ z, q = z + 1 := ⟨q - 1, by omega⟩
    show fI_add_35 N c (nn O) (nn (O + 1)) kin (fI_add_35l N c (nn O) (nn (O + 1)) kin q) (nn i) f g = _
    unfold fI_add_35
    rw [if_pos (by rw [show (8 : Int32) = nn 8 from rfl, nn_le (by omega) (by omega)]; omega), blk_0, blk_0]
  | succ k ih =>
    intro i q f g hi hq
    obtain ⟨q, rfl⟩ : ∃ z, q = z + 1 := ⟨q - 1, by omega⟩
    show fI_add_35 N c (nn O) (nn (O + 1)) kin (fI_add_35l N c (nn O) (nn (O + 1)) kin q) (nn i) f g = _
    unfold fI_add_35
    rw [if_neg (by rw [show (8 : Int32) = nn 8 from rfl, nn_le (by omega) (by omega)]; omega), iSetV (by omega) (by omega) (by omega), o_bind, iSetP (by omega) (by omega) (by omega), o_bind, nn_s, ih (i + 1) q _ _ (by omega) (by omega), blk_J (fun _ => 0), blk_I (fun _ => -1)]
theorem iAdd {N O : Nat} (hN : 10 ≤ N) (hO : O < 12) (c : Int32) (kin : AI) (f : AJ) (g : AI) : fI_add N c (nn O) kin f g = some (nn O, nn (O + 1), upd kin O c, blk (fun _ => 0) O 0 8 f, blk (fun _ => -1) O 0 8 g) := by
  unfold fI_add
  rw [if_pos (by rw [show (12 : Int32) = nn 12 from rfl, nn_lt (by omega) (by omega)]; omega), if_pos (nn_okt (by omega) hO), nn_c (by omega), nn_s]
  exact iAdd_l hO c _ 8 0 N f g (by omega) (by omega)
/-- what the reference clears to -/
def clz (G : Nat) (sor : AI) (p : Nat) : Int64 := if p < G ∧ sor p = 3 then -1 else 0
theorem mCl_l {N G O : Nat} (hG : G ≤ 8) (hO : O < 12) (sor : AI) : ∀ (k i q : Nat) (f : AJ), i + k = 8 → k < q → fM_clear_2l N (nn O) (nn G) sor q (nn i, f) = some (blk (clz G sor) O i k f) := by
  intro k
  induction k with
  | zero =>
    intro i q f hi hq
    obtain ⟨q, rfl⟩ : ∃ z, q = z + 1 := ⟨q - 1, by omega⟩
    show fM_clear_2 N (nn O) (nn G) sor (fM_clear_2l N (nn O) (nn G) sor q) (nn i) f = _
    unfold fM_clear_2
    rw [if_pos (by rw [show (8 : Int32) = nn 8 from rfl, nn_le (by omega) (by omega)]; omega), blk_0]
  | succ k ih =>
    intro i q f hi hq
    obtain ⟨q, rfl⟩ : ∃ z, q = z + 1 := ⟨q - 1, by omega⟩
    show fM_clear_2 N (nn O) (nn G) sor (fM_clear_2l N (nn O) (nn G) sor q) (nn i) f = _
    unfold fM_clear_2
    rw [if_neg (by rw [show (8 : Int32) = nn 8 from rfl, nn_le (by omega) (by omega)]; omega), show (8 : Int32) = nn 8 from rfl, nn_mul, nn_add, if_pos (nn_okt (by omega) (by omega)), if_pos (nn_okt (by omega) (by omega)), nn_c (by omega), nn_c (by omega), nn_s, ih (i + 1) q _ (by omega) (by omega), ih (i + 1) q _ (by omega) (by omega), c_le (by omega) (by omega), ← blk_J]
    unfold clz
    by_cases h1 : G ≤ i
    · rw [if_pos h1, if_neg (c := i < G ∧ sor i = 3) (by omega)]
    · rw [if_neg h1]
      by_cases h2 : sor i = 3
      · rw [if_pos h2, if_pos (c := i < G ∧ sor i = 3) ⟨by omega, h2⟩, if_pos (nn_okt (by omega) (by omega))]
      · rw [if_neg h2, if_neg (c := i < G ∧ sor i = 3) (fun z => h2 z.2)]
theorem mCl {N G O : Nat} (hN : 10 ≤ N) (hG : G ≤ 8) (hO : O < 12) (sor : AI) (f : AJ) : fM_clear N (nn O) (nn G) sor f = some (blk (clz G sor) O 0 8 f) :=
  mCl_l hG hO sor 8 0 N f (by omega) (by omega)
/-- the objects stay good when one is added -/
theorem oI_add {C G O : Nat} {sor kin : AI} {val : AJ} {prt : AI} {held : AJ} (h : oI C G O sor kin val prt held) (hO : O < 12) {c : Nat} (hc : c < C) : oI C G (O + 1) sor (upd kin O (nn c)) (blk (fun _ => 0) O 0 8 val) (blk (fun _ => -1) O 0 8 prt) (blk (clz G sor) O 0 8 held) := by
  obtain ⟨h1, h2, h3⟩ := h
  refine ⟨by omega, fun o ho => ?_, fun o p ho hp => ?_⟩
  · unfold upd
    by_cases e : o = O
    · rw [if_pos e]; exact ⟨c, hc, rfl⟩
    · rw [if_neg e]; exact h2 o (by omega)
  · unfold cI_
    by_cases e : o = O
    · subst e
      unfold blk
      rw [if_pos (by omega), if_pos (by omega), if_pos (by omega), show 8 * o + p - 8 * o = p by omega]
      unfold clz
      refine ⟨fun z => ?_, fun z => ?_⟩
      · rw [if_pos z]
        exact ⟨rfl, rfl, Or.inl rfl⟩
      · rw [if_neg z]
        exact ⟨rfl, rfl⟩
    · unfold blk
      rw [if_neg (by omega), if_neg (by omega), if_neg (by omega)]
      obtain ⟨a, b⟩ := h3 o p (by omega) hp
      refine ⟨fun z => ?_, b⟩
      obtain ⟨a1, a2, a3⟩ := a z
      refine ⟨a1, a2, ?_⟩
      rcases a3 with a3 | ⟨x, hx, a3⟩
      · exact Or.inl a3
      · exact Or.inr ⟨x, by omega, a3⟩
theorem q_make {C G O : Nat} {sor kin : AI} {val : AJ} {prt : AI} {held : AJ} (hC : C ≤ 6) (hG : G ≤ 8) (h : oI C G O sor kin val prt held) {N : Nat} (hN : 10 ≤ N) (v : Int32) : ∃ r O' kin' val' prt' held', fP_make N v (nn C) (nn O) kin val prt = some (r, nn O', kin', val', prt') ∧ fM_make N v (nn C) (nn G) (nn O) sor kin held = some (r, nn O', kin', held') ∧ oI C G O' sor kin' val' prt' held' := by
  have hO := h.1
  unfold fP_make fM_make
  rw [hasC_b (by omega), o_bind, mC_b (by omega), o_bind]
  by_cases h1 : clB C v = true
  · rw [if_pos h1, if_pos h1, show (12 : Int32) = nn 12 from rfl, c_lt (by omega) (by omega)]
    by_cases h2 : O < 12
    · obtain ⟨c, hc, rfl⟩ := clB_t h1
      rw [if_pos h2, if_pos (nn_okt (by omega) h2), iAdd hN h2, o_bind, mCl hN hG h2, o_bind, nn_c (by omega), nn_s, nn_p]
      exact ⟨nn O, O + 1, _, _, _, _, rfl, rfl, oI_add h h2 hc⟩
    · rw [if_neg h2]
      refine ⟨-1, O, kin, val, prt, held, ?_, rfl, h⟩
      unfold fI_add
      rw [if_neg (by rw [show (12 : Int32) = nn 12 from rfl, nn_lt (by omega) (by omega)]; exact h2)]
      rfl
  · rw [if_neg h1, if_neg h1]
    exact ⟨-1, O, kin, val, prt, held, rfl, rfl, h⟩
