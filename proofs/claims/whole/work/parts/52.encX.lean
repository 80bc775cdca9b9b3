/-! the writer, the written program: a document -/
theorem Wo_ret {n : Nat} (hn : n ≤ 120) (f : AI) : Wo n f (some []) (some (true, nn n, f)) := by
  refine ⟨_, rfl, fun l hl => ?_, fun hl => by cases hl⟩
  cases hl
  exact ⟨fun _ => rfl, fun q => absurd hn q⟩
theorem num2 : num 2 4 0 = [2, 0, 0, 0] := by decide
theorem num0 : num 0 4 0 = [0, 0, 0, 0] := by decide
theorem w_mark {N : Nat} (hN : 10 ≤ N) {n : Nat} (hn : n ≤ 120) (f : AI) (c : Int32) : Wo n f (some [2, 95, 116, 0, 2, 0, 0, 0, 65 + c, 0]) (fW_writeMark N c (nn n) f) := by
  unfold fW_writeMark
  refine Wo_seq (L1 := some [2]) (L2 := some [95, 116, 0, 2, 0, 0, 0, 65 + c, 0]) (w_add hn f _) (fun l1 h1 hb => ?_) (fun m g hm => ?_)
  · cases h1
    dsimp only
    rw [if_pos rfl]
    refine Wo_seq (L1 := some [95]) (L2 := some [116, 0, 2, 0, 0, 0, 65 + c, 0]) (w_add hb _ _) (fun l1 h1 hb => ?_) (fun m g hm => ?_)
    · cases h1
      dsimp only
      rw [if_pos rfl]
      refine Wo_seq (L1 := some [116]) (L2 := some [0, 2, 0, 0, 0, 65 + c, 0]) (w_add hb _ _) (fun l1 h1 hb => ?_) (fun m g hm => ?_)
      · cases h1
        dsimp only
        rw [if_pos rfl]
        refine Wo_seq (L1 := some [0]) (L2 := some [2, 0, 0, 0, 65 + c, 0]) (w_add hb _ _) (fun l1 h1 hb => ?_) (fun m g hm => ?_)
        · cases h1
          dsimp only
          rw [if_pos rfl]
          refine Wo_seq (L1 := some [2, 0, 0, 0]) (L2 := some [65 + c, 0]) ((num2 ▸ w_num hN 2 (K := 4) (by omega) hb _)) (fun l1 h1 hb => ?_) (fun m g hm => ?_)
          · cases h1
            dsimp only
            rw [if_pos rfl]
            refine Wo_seq (L1 := some [65 + c]) (L2 := some [0]) (w_add hb _ _) (fun l1 h1 hb => ?_) (fun m g hm => ?_)
            · cases h1
              dsimp only
              rw [if_pos rfl]
              refine Wo_seq (L1 := some [0]) (L2 := some []) (w_add hb _ _) (fun l1 h1 hb => ?_) (fun m g hm => ?_)
              · cases h1
                dsimp only
                rw [if_pos rfl]
                exact Wo_ret hb _
              · dsimp only
                rw [if_neg (by decide)]
                exact Fo_i m hm g
            · dsimp only
              rw [if_neg (by decide)]
              exact Fo_i m hm g
          · dsimp only
            rw [if_neg (by decide)]
            exact Fo_i m hm g
        · dsimp only
          rw [if_neg (by decide)]
          exact Fo_i m hm g
      · dsimp only
        rw [if_neg (by decide)]
        exact Fo_i m hm g
    · dsimp only
      rw [if_neg (by decide)]
      exact Fo_i m hm g
  · dsimp only
    rw [if_neg (by decide)]
    exact Fo_i m hm g
/-- numbers put over what stands there -/
def ovr (v : Int64) (a : Nat) : Nat → Nat → AI → AI
  | 0, _, f => f
  | k + 1, i, f => ovr v a k (i + 1) (upd f (a + i) (lowB v (nn i)))
theorem b_rep {n : Nat} (hn : n ≤ 120) {a : Nat} (ha : a < n) (v : Int32) (f : AI) : fB_replace (nn a) v (nn n) f = some (true, upd f a v) := by
  unfold fB_replace
  rw [if_neg (nn_neg (by omega)), c_lt (by omega) (by omega), if_pos ha, if_pos (nn_okt (by omega) (by omega)), nn_c (by omega)]
theorem b_repN_l {N n : Nat} (hn : n ≤ 120) (v : Int64) (a K : Nat) (hK : a + K ≤ n) : ∀ (k i q : Nat) (f : AI), i + k = K → k < q → fB_replaceNumber_3l N (nn a) v (nn K) (nn n) q (nn i, f) = some (ovr v a k i f) := by
  intro k
  induction k with
  | zero =>
    intro i q f hi hq
    obtain ⟨q, rfl⟩ : ∃ z, q = z + 1 := ⟨q - 1, by omega⟩
    show fB_replaceNumber_3 N (nn a) v (nn K) (nn n) (fB_replaceNumber_3l N (nn a) v (nn K) (nn n) q) (nn i) f = _
    unfold fB_replaceNumber_3
    rw [if_pos (by rw [nn_le (by omega) (by omega)]; omega)]
    rfl
  | succ k ih =>
    intro i q f hi hq
    obtain ⟨q, rfl⟩ : ∃ z, q = z + 1 := ⟨q - 1, by omega⟩
    show fB_replaceNumber_3 N (nn a) v (nn K) (nn n) (fB_replaceNumber_3l N (nn a) v (nn K) (nn n) q) (nn i) f = _
    unfold fB_replaceNumber_3
    rw [if_neg (by rw [nn_le (by omega) (by omega)]; omega), show fB_lowByte v (nn i) = some (lowB v (nn i)) from rfl, o_bind, nn_add, b_rep hn (by omega), o_bind, nn_s, ih (i + 1) q _ (by omega) (by omega)]
    rfl
/-- the length of a document, put over four bytes -/
theorem low_len {x : Nat} (hx : x ≤ 120) : lowB (nn x).toInt64 (nn 0) = nn x ∧ lowB (nn x).toInt64 (nn 1) = 0 ∧ lowB (nn x).toInt64 (nn 2) = 0 ∧ lowB (nn x).toInt64 (nn 3) = 0 := by
  have h : ∀ y : Fin 121, lowB (nn y.val).toInt64 (nn 0) = nn y.val ∧ lowB (nn y.val).toInt64 (nn 1) = 0 ∧ lowB (nn y.val).toInt64 (nn 2) = 0 ∧ lowB (nn y.val).toInt64 (nn 3) = 0 := by decide +kernel
  exact h ⟨x, by omega⟩
theorem upd_wr : ∀ (l : List Int32) (f : AI) (n a : Nat) (v : Int32), a < n → upd (wr f n l) a v = wr (upd f a v) n l
  | [], _, _, _, _, _ => rfl
  | x :: l, f, n, a, v, h => by
    show upd (wr (upd f n x) (n + 1) l) a v = wr (upd (upd f a v) n x) (n + 1) l
    rw [upd_wr l _ (n + 1) a v (by omega)]
    congr 1
    funext j
    unfold upd
    by_cases e1 : j = a
    · rw [if_pos e1, if_neg (by omega), if_pos e1]
    · rw [if_neg e1]
      by_cases e2 : j = n
      · rw [if_pos e2, if_pos e2]
      · rw [if_neg e2, if_neg e2, if_neg e1]
theorem upd_same (f : AI) (a : Nat) (v w : Int32) : upd (upd f a v) a w = upd f a w := by
  funext j
  unfold upd
  by_cases e : j = a
  · rw [if_pos e, if_pos e]
  · rw [if_neg e, if_neg e, if_neg e]
theorem upd_com (f : AI) (a b : Nat) (v w : Int32) (h : a ≠ b) : upd (upd f a v) b w = upd (upd f b w) a v := by
  funext j
  unfold upd
  by_cases e : j = b
  · rw [if_pos e, if_neg (by omega), if_pos e]
  · rw [if_neg e]
    by_cases e2 : j = a
    · rw [if_pos e2, if_pos e2]
    · rw [if_neg e2, if_neg e2, if_neg e]
/-- four bytes put over the four that stand at the front -/
theorem over4 (f : AI) (n : Nat) (l : List Int32) (a b c d x y z w : Int32) : upd (upd (upd (upd (wr f n (x :: y :: z :: w :: l)) n a) (n + 1) b) (n + 2) c) (n + 3) d = wr f n (a :: b :: c :: d :: l) := by
  show upd (upd (upd (upd (wr (upd (upd (upd (upd f n x) (n + 1) y) (n + 2) z) (n + 3) w) (n + 4) l) n a) (n + 1) b) (n + 2) c) (n + 3) d = wr (upd (upd (upd (upd f n a) (n + 1) b) (n + 2) c) (n + 3) d) (n + 4) l
  rw [upd_wr _ _ _ _ _ (by omega), upd_wr _ _ _ _ _ (by omega), upd_wr _ _ _ _ _ (by omega), upd_wr _ _ _ _ _ (by omega)]
  congr 1
  funext j
  unfold upd
  by_cases e0 : j = n
  · subst e0
    rw [if_neg (by omega), if_neg (by omega), if_neg (by omega), if_pos rfl, if_neg (by omega), if_neg (by omega), if_neg (by omega), if_pos rfl]
  · by_cases e1 : j = n + 1
    · subst e1
      rw [if_neg (by omega), if_neg (by omega), if_pos rfl, if_neg (by omega), if_neg (by omega), if_pos rfl]
    · by_cases e2 : j = n + 2
      · subst e2
        rw [if_neg (by omega), if_pos rfl, if_neg (by omega), if_pos rfl]
      · by_cases e3 : j = n + 3
        · rw [if_pos e3, if_pos e3]
        · simp only [if_neg e0, if_neg e1, if_neg e2, if_neg e3]
theorem b_len {N n a : Nat} (hN : 10 ≤ N) (hn : n ≤ 120) (ha : a + 4 ≤ n) (f : AI) (l : List Int32) : fB_replaceNumber N (nn a) ((nn n - nn a).toInt64) (nn 4) (nn n) (wr f a (0 :: 0 :: 0 :: 0 :: l)) = some (wr f a (nn (n - a) :: 0 :: 0 :: 0 :: l)) := by
  obtain ⟨h0, h1, h2, h3⟩ := low_len (show n - a ≤ 120 by omega)
  rw [nn_sub (by omega)]
  have := b_repN_l (N := N) hn (nn (n - a)).toInt64 a 4 (by omega) 4 0 N (wr f a (0 :: 0 :: 0 :: 0 :: l)) (by omega) (by omega)
  refine this.trans ?_
  show some (upd (upd (upd (upd _ (a + 0) (lowB _ (nn 0))) (a + 1) (lowB _ (nn 1))) (a + 2) (lowB _ (nn 2))) (a + 3) (lowB _ (nn 3))) = _
  rw [h0, h1, h2, h3, Nat.add_zero, over4]
