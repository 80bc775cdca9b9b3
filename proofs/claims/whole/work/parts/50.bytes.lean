/-! rows of bytes: what is written behind what -/
def wr : AI → Nat → List Int32 → AI
  | f, _, [] => f
  | f, n, x :: l => wr (upd f n x) (n + 1) l
theorem wr_app : ∀ (l1 l2 : List Int32) (f : AI) (n : Nat), wr f n (l1 ++ l2) = wr (wr f n l1) (n + l1.length) l2
  | [], _, _, _ => rfl
  | x :: l1, l2, f, n => by
    show wr (upd f n x) (n + 1) (l1 ++ l2) = _
    rw [wr_app l1 l2, List.length_cons, show n + 1 + l1.length = n + (l1.length + 1) by omega]
    rfl
theorem wr_lt : ∀ (l : List Int32) (f : AI) (n j : Nat), j < n → wr f n l j = f j
  | [], _, _, _, _ => rfl
  | x :: l, f, n, j, h => by
    show wr (upd f n x) (n + 1) l j = _
    rw [wr_lt l _ (n + 1) j (by omega)]
    unfold upd
    rw [if_neg (by omega)]
/-- two rows that agree below n agree below n + the length when the same is written -/
theorem wr_same : ∀ (l : List Int32) (f g : AI) (n : Nat), (∀ j, j < n → f j = g j) → ∀ j, j < n + l.length → wr f n l j = wr g n l j
  | [], f, g, n, h, j, hj => h j (by simpa using hj)
  | x :: l, f, g, n, h, j, hj => by
    refine wr_same l (upd f n x) (upd g n x) (n + 1) (fun i hi => ?_) j (by simp at hj; omega)
    unfold upd
    by_cases e : i = n
    · rw [if_pos e, if_pos e]
    · rw [if_neg e, if_neg e]
      exact h i (by omega)
/-- a byte of a number -/
def lowB (v : Int64) (i : Int32) : Int32 := ((v >>> (((8 : Int32) * i).toInt64 &&& 63)).toInt32) &&& (255 : Int32)
theorem lowB_m (v : Int64) (i : Int32) : ((v >>> (((8 : Int32) * i).toInt64 &&& 63)) &&& (255 : Int64)).toInt32 = lowB v i := by
  unfold lowB
  rw [Int64.toInt32_and]
  rfl
def num (v : Int64) : Nat → Nat → List Int32
  | 0, _ => []
  | k + 1, i => lowB v (nn i) :: num v k (i + 1)
theorem num_len (v : Int64) : ∀ k i, (num v k i).length = k
  | 0, _ => rfl
  | k + 1, i => by show (num v k (i + 1)).length + 1 = _; rw [num_len v k]
/-- the answer of a writer that was to write nothing more -/
def Fl (u : Bool × Int32 × AI) : Prop := u.1 = false ∧ ∃ m, m ≤ 120 ∧ u.2.1 = nn m
def Wrt (n : Nat) (f : AI) (l : List Int32) (u : Bool × Int32 × AI) : Prop := (n + l.length ≤ 120 → u = (true, nn (n + l.length), wr f n l)) ∧ (¬ n + l.length ≤ 120 → Fl u)
def Wo (n : Nat) (f : AI) (L : Option (List Int32)) (c : Option (Bool × Int32 × AI)) : Prop := ∃ u, c = some u ∧ (∀ l, L = some l → Wrt n f l u) ∧ (L = none → Fl u)
def Fo (c : Option (Bool × Int32 × AI)) : Prop := ∃ u, c = some u ∧ Fl u
/-- one behind the other -/
theorem Wo_seq {n : Nat} {f : AI} {L1 L2 : Option (List Int32)} {c : Option (Bool × Int32 × AI)} {k : Bool × Int32 × AI → Option (Bool × Int32 × AI)} (h1 : Wo n f L1 c) (h2 : ∀ l, L1 = some l → n + l.length ≤ 120 → Wo (n + l.length) (wr f n l) L2 (k (true, nn (n + l.length), wr f n l))) (h3 : ∀ m g, m ≤ 120 → Fo (k (false, nn m, g))) : Wo n f (L1.bind fun l1 => L2.map fun l2 => l1 ++ l2) (c.bind k) := by
  obtain ⟨u, rfl, ha, hb⟩ := h1
  have hf : Fl u → Fo (k u) := fun h => by
    obtain ⟨x, y, z⟩ := u
    obtain ⟨e1, m, hm, e2⟩ := h
    dsimp only at e1 e2
    subst e1 e2
    exact h3 m z hm
  have fail : Fl u → ∀ L, (∀ l, L = some l → ¬ n + l.length ≤ 120) → Wo n f L (k u) := fun h L hL => by
    obtain ⟨w, e, hw⟩ := hf h
    exact ⟨w, e, fun l hl => ⟨fun z => absurd z (hL l hl), fun _ => hw⟩, fun _ => hw⟩
  cases L1 with
  | none => exact fail (hb rfl) _ (fun l hl => by cases hl)
  | some l1 =>
    obtain ⟨w1, w2⟩ := ha l1 rfl
    by_cases hn : n + l1.length ≤ 120
    · have := w1 hn
      subst this
      obtain ⟨w, e, a1, b1⟩ := h2 l1 rfl hn
      refine ⟨w, e, fun l hl => ?_, fun hl => ?_⟩
      · cases L2 with
        | none => cases hl
        | some l2 =>
          cases hl
          obtain ⟨p1, p2⟩ := a1 l2 rfl
          have e2 : n + (l1 ++ l2).length = n + l1.length + l2.length := by rw [List.length_append]; omega
          unfold Wrt
          rw [e2, wr_app]
          exact ⟨p1, p2⟩
      · cases L2 with
        | none => exact b1 rfl
        | some l2 => cases hl
    · refine fail (w2 hn) _ (fun l hl => ?_)
      cases L2 with
      | none => cases hl
      | some l2 =>
        cases hl
        rw [List.length_append]
        omega
theorem w_add {n : Nat} (hn : n ≤ 120) (f : AI) (v : Int32) : Wo n f (some [v]) (fB_add v (nn n) f) := by
  unfold fB_add
  rw [show (120 : Int32) = nn 120 from rfl, c_lt (by omega) (by omega)]
  by_cases h : n < 120
  · rw [if_pos h, if_pos (nn_okt (by omega) h), nn_c (by omega), nn_s]
    refine ⟨_, rfl, fun l hl => ?_, fun hl => by cases hl⟩
    cases hl
    exact ⟨fun _ => rfl, fun q => absurd (show n + 1 ≤ 120 by omega) q⟩
  · rw [if_neg h]
    refine ⟨_, rfl, fun l hl => ?_, fun hl => by cases hl⟩
    cases hl
    exact ⟨fun q => absurd q (by simp; omega), fun _ => ⟨rfl, n, hn, rfl⟩⟩
/-- a number's bytes, the written program -/
theorem w_num_l {N : Nat} (v : Int64) (K : Nat) (hK : K ≤ 8) : ∀ (k i q n : Nat) (f : AI), i + k = K → k < q → n ≤ 120 → Wo n f (some (num v k i)) (fB_addNumber_6l N v (nn K) q (true, nn i, nn n, f)) := by
  intro k
  induction k with
  | zero =>
    intro i q n f hi hq hn
    obtain ⟨q, rfl⟩ : ∃ z, q = z + 1 := ⟨q - 1, by omega⟩
    show Wo n f _ (fB_addNumber_6 N v (nn K) (fB_addNumber_6l N v (nn K) q) true (nn i) (nn n) f)
    unfold fB_addNumber_6
    rw [if_pos (by rw [nn_le (by omega) (by omega)]; omega)]
    refine ⟨_, rfl, fun l hl => ?_, fun hl => by cases hl⟩
    cases hl
    exact ⟨fun _ => rfl, fun q => absurd hn q⟩
  | succ k ih =>
    intro i q n f hi hq hn
    obtain ⟨q, rfl⟩ : ∃ z, q = z + 1 := ⟨q - 1, by omega⟩
    show Wo n f _ (fB_addNumber_6 N v (nn K) (fB_addNumber_6l N v (nn K) q) true (nn i) (nn n) f)
    unfold fB_addNumber_6
    rw [if_neg (by rw [nn_le (by omega) (by omega)]; omega), if_pos rfl]
    show Wo n f _ ((fB_add (lowB v (nn i)) (nn n) f).bind fun u25 => fB_addNumber_6l N v (nn K) q (u25.1, nn i + (1 : Int32), u25.2.1, u25.2.2))
    rw [nn_s]
    refine Wo_seq (L2 := some (num v k (i + 1))) (w_add hn f _) (fun l hl hb => ?_) (fun m g hm => ?_)
    · cases hl
      exact ih (i + 1) q _ _ (by omega) (by omega) hb
    · obtain ⟨q, rfl⟩ : ∃ z, q = z + 1 := ⟨q - 1, by omega⟩
      show Fo (fB_addNumber_6 N v (nn K) (fB_addNumber_6l N v (nn K) q) false (nn (i + 1)) (nn m) g)
      unfold fB_addNumber_6
      by_cases h : nn K ≤ nn (i + 1)
      · rw [if_pos h]; exact ⟨_, rfl, rfl, m, hm, rfl⟩
      · rw [if_neg h, if_neg (by decide)]; exact ⟨_, rfl, rfl, m, hm, rfl⟩
theorem w_num {N : Nat} (hN : 10 ≤ N) (v : Int64) {K : Nat} (hK : K ≤ 8) {n : Nat} (hn : n ≤ 120) (f : AI) : Wo n f (some (num v K 0)) (fB_addNumber N v (nn K) (nn n) f) :=
  w_num_l v K hK K 0 N n f (by omega) (by omega) hn
