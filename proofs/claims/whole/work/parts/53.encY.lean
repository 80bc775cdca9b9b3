/-! the writer, the written program: properties, links, documents -/
def gE (E : En) : Prop := dI (eC E) (eG E) (ePar E) (eOwn E) (eLet E) (eSor E) (eTar E) ∧ eO E ≤ 12 ∧ (∀ o, o < eO E → ∃ i, i < eC E ∧ eKin E o = nn i) ∧ ∀ o p, o < eO E → p < eG E → eSor E p = 3 → ePrt E (8 * o + p) = -1 ∨ ∃ x, x < eO E ∧ ePrt E (8 * o + p) = nn x
theorem b_id (c : Option (Bool × Int32 × AI)) : (c.bind fun u => if u.1 = true then some (true, u.2.1, u.2.2) else some (false, u.2.1, u.2.2)) = c := by
  cases c with
  | none => rfl
  | some u =>
    obtain ⟨b, x, y⟩ := u
    cases b <;> rfl
theorem b_id2 (c : Option (Bool × Int32 × AI)) : (c.bind fun u => some (u.1, u.2.1, u.2.2)) = c := by
  cases c <;> rfl
def Rk (E : En) (rec : Nat → Int32 → Option (List Int32)) (rk : Int32 × Int32 × Int32 × Int32 × AI → Option (Bool × Int32 × AI)) (d : Int32) : Prop := ∀ (o : Nat) (c : Int32) (n : Nat) (f : AI), o < eO E → n ≤ 120 → Wo n f (rec o c) (rk (nn o, c, d, nn n, f))
theorem w_link {E : En} (hO : eO E ≤ 12) {rec : Nat → Int32 → Option (List Int32)} {rk : Int32 × Int32 × Int32 × Int32 × AI → Option (Bool × Int32 × AI)} {d : Int32} (hR : Rk E rec rk (d + 1)) {N : Nat} (l tgt pt : Int32) (hpt : pt = -1 ∨ ∃ x, x < eO E ∧ pt = nn x) {n : Nat} (hn : n ≤ 120) (f : AI) : Wo n f (if pt = -1 then some [10, 97 + l, 0] else (rec pt.toNatClampNeg tgt).map (fun r => [3, 97 + l, 0] ++ r)) (fW_writeLink N rk l pt tgt d (nn (eC E)) (nn (eG E)) (ePar E) (eOwn E) (eLet E) (eSor E) (eTar E) (nn (eO E)) (eKin E) (eVal E) (ePrt E) (nn n) f) := by
  unfold fW_writeLink
  by_cases h : pt = -1
  · rw [if_pos h, if_pos h, b_id2]
    exact w_head hn f 10 l
  · rw [if_neg h, if_neg h]
    rcases hpt with e | ⟨x, hx, rfl⟩
    · exact absurd e h
    · have hx2 : x < 2147483648 := by omega
      rw [nn_c hx2]
      refine Wo_seq (L1 := some [3, 97 + l, 0]) (L2 := rec x tgt) (w_head hn f 3 l) (fun l1 h1 hb => ?_) (fun m g hm => ?_)
      · cases h1
        dsimp only
        rw [if_pos rfl, b_id]
        exact hR x tgt _ _ hx hb
      · dsimp only
        rw [if_neg (by decide)]
        exact Fo_i m hm g
theorem dLetter {G : Nat} (hG : G ≤ 8) (let_ : AI) {p : Nat} (hp : p < G) : fD_letter (nn p) (nn G) let_ = some (let_ p) := by
  unfold fD_letter
  rw [dH (by omega) p (by omega), o_bind, decide_eq_true hp, if_pos rfl, if_pos (nn_okt (by omega) (by omega)), nn_c (by omega)]
theorem iVal {O : Nat} (hO : O ≤ 12) {o p : Nat} (ho : o < O) (hp : p < 8) (val : AJ) : fI_valueAt (nn o) (nn p) (nn O) val = some (val (8 * o + p)) := by
  unfold fI_valueAt
  rw [iHC hO ho hp, o_bind, if_pos rfl, iCell, o_bind, if_pos (nn_okt (by omega) (by omega)), nn_c (by omega)]
theorem iPrt {O : Nat} (hO : O ≤ 12) {o p : Nat} (ho : o < O) (hp : p < 8) (prt : AI) : fI_partnerAt (nn o) (nn p) (nn O) prt = some (prt (8 * o + p)) := by
  unfold fI_partnerAt
  rw [iHC hO ho hp, o_bind, if_pos rfl, iCell, o_bind, if_pos (nn_okt (by omega) (by omega)), nn_c (by omega)]
theorem w_prop {E : En} (hE : gE E) {rec : Nat → Int32 → Option (List Int32)} {rk : Int32 × Int32 × Int32 × Int32 × AI → Option (Bool × Int32 × AI)} {d : Int32} (hR : Rk E rec rk (d + 1)) {N : Nat} (hN : 10 ≤ N) {o p : Nat} (ho : o < eO E) (hp : p < eG E) {n : Nat} (hn : n ≤ 120) (f : AI) : Wo n f (elL E rec o p) (fW_writeProperty N rk (nn o) (nn p) d (nn (eC E)) (nn (eG E)) (ePar E) (eOwn E) (eLet E) (eSor E) (eTar E) (nn (eO E)) (eKin E) (eVal E) (ePrt E) (nn n) f) := by
  obtain ⟨⟨hC, hG, hpI, hu, hx⟩, hO, hk, hl⟩ := hE
  unfold fW_writeProperty elL
  rw [dLetter hG _ hp, o_bind, iVal hO ho (by omega), o_bind, dSort hG _ hp, o_bind]
  by_cases h0 : eSor E p = 0
  · rw [if_pos h0, if_pos h0]
    refine Wo_seq (L1 := some (hd E 16 p)) (L2 := some (num (eVal E (8 * o + p)) 4 0)) (w_head hn f 16 _) (fun l1 h1 hb => ?_) (fun m g hm => ?_)
    · cases h1
      dsimp only
      rw [if_pos rfl, b_id]
      exact w_num hN _ (K := 4) (by omega) hb _
    · dsimp only
      rw [if_neg (by decide)]
      exact Fo_i m hm g
  · rw [if_neg h0, if_neg h0]
    by_cases h1 : eSor E p = 1
    · rw [if_pos h1, if_pos h1]
      refine Wo_seq (L1 := some (hd E 18 p)) (L2 := some (num (eVal E (8 * o + p)) 8 0)) (w_head hn f 18 _) (fun l1 h1 hb => ?_) (fun m g hm => ?_)
      · cases h1
        dsimp only
        rw [if_pos rfl, b_id]
        exact w_num hN _ (K := 8) (by omega) hb _
      · dsimp only
        rw [if_neg (by decide)]
        exact Fo_i m hm g
    · rw [if_neg h1, if_neg h1]
      by_cases h2 : eSor E p = 2
      · rw [if_pos h2, if_pos h2]
        refine Wo_seq (L1 := some (hd E 8 p)) (L2 := some (num (eVal E (8 * o + p)) 1 0)) (w_head hn f 8 _) (fun l1 h1 hb => ?_) (fun m g hm => ?_)
        · cases h1
          dsimp only
          rw [if_pos rfl, b_id]
          exact w_num hN _ (K := 1) (by omega) hb _
        · dsimp only
          rw [if_neg (by decide)]
          exact Fo_i m hm g
      · have h3 : eSor E p = 3 := by
          obtain ⟨k, hk, ek⟩ := (hx p hp).2.2.1
          rw [ek] at h0 h1 h2 ⊢
          rw [show (0 : Int32) = nn 0 from rfl, nn_eq (by omega) (by omega)] at h0
          rw [show (1 : Int32) = nn 1 from rfl, nn_eq (by omega) (by omega)] at h1
          rw [show (2 : Int32) = nn 2 from rfl, nn_eq (by omega) (by omega)] at h2
          rw [show (3 : Int32) = nn 3 from rfl, nn_eq (by omega) (by omega)]
          omega
        rw [if_neg h2, if_neg h2, iPrt hO ho (by omega), o_bind, dTarget hG _ hp, o_bind, b_id2]
        exact w_link hO hR _ _ _ (hl o p ho hp h3) hn f
theorem dOwn {G : Nat} (hG : G ≤ 8) (own : AI) {p : Nat} (hp : p < 8) (c : Int32) : fD_isOwn (nn p) c (nn G) own = some (decide (p < G) && decide (own p = c)) := by
  unfold fD_isOwn
  rw [dH (by omega) p (by omega), o_bind, if_pos (nn_okt (by omega) hp), nn_c (by omega)]
  by_cases h : p < G
  · rw [decide_eq_true h, if_pos rfl, Bool.true_and]
    by_cases h2 : own p = c
    · rw [if_pos h2, decide_eq_true h2]
    · rw [if_neg h2, decide_eq_false h2]
  · rw [decide_eq_false h, if_neg (by decide), Bool.false_and]
/-- behind a failure nothing more is written -/
theorem own_f {E : En} {rk : Int32 × Int32 × Int32 × Int32 × AI → Option (Bool × Int32 × AI)} {N : Nat} {a b c : Int32} (q : Nat) (i : Int32) {m : Nat} (hm : m ≤ 120) (g : AI) : Fo (fW_writeOwnProperties_6l N rk a b c (nn (eC E)) (nn (eG E)) (ePar E) (eOwn E) (eLet E) (eSor E) (eTar E) (nn (eO E)) (eKin E) (eVal E) (ePrt E) (q + 1) (false, i, nn m, g)) := by
  show Fo (fW_writeOwnProperties_6 N rk a b c (nn (eC E)) (nn (eG E)) (ePar E) (eOwn E) (eLet E) (eSor E) (eTar E) (nn (eO E)) (eKin E) (eVal E) (ePrt E) (fW_writeOwnProperties_6l N rk a b c (nn (eC E)) (nn (eG E)) (ePar E) (eOwn E) (eLet E) (eSor E) (eTar E) (nn (eO E)) (eKin E) (eVal E) (ePrt E) q) false i (nn m) g)
  unfold fW_writeOwnProperties_6
  by_cases h : (8 : Int32) ≤ i
  · rw [if_pos h]; exact Fo_i m hm g
  · rw [if_neg h, if_neg (by decide)]; exact Fo_i m hm g
theorem w_own {E : En} (hE : gE E) {rec : Nat → Int32 → Option (List Int32)} {rk : Int32 × Int32 × Int32 × Int32 × AI → Option (Bool × Int32 × AI)} {d : Int32} (hR : Rk E rec rk (d + 1)) {N : Nat} (hN : 10 ≤ N) {o : Nat} (ho : o < eO E) (c : Nat) : ∀ (k i q n : Nat) (f : AI), i + k = 8 → k < q → n ≤ 120 → Wo n f (esL E rec o ((List.range' i k).filter (fun p => decide (p < eG E) && decide (eOwn E p = nn c)))) (fW_writeOwnProperties_6l N rk (nn o) (nn c) d (nn (eC E)) (nn (eG E)) (ePar E) (eOwn E) (eLet E) (eSor E) (eTar E) (nn (eO E)) (eKin E) (eVal E) (ePrt E) q (true, nn i, nn n, f)) := by
  have hG := hE.1.2.1
  intro k
  induction k with
  | zero =>
    intro i q n f hi hq hn
    obtain ⟨q, rfl⟩ : ∃ z, q = z + 1 := ⟨q - 1, by omega⟩
    show Wo n f _ (fW_writeOwnProperties_6 N rk (nn o) (nn c) d (nn (eC E)) (nn (eG E)) (ePar E) (eOwn E) (eLet E) (eSor E) (eTar E) (nn (eO E)) (eKin E) (eVal E) (ePrt E) (fW_writeOwnProperties_6l N rk (nn o) (nn c) d (nn (eC E)) (nn (eG E)) (ePar E) (eOwn E) (eLet E) (eSor E) (eTar E) (nn (eO E)) (eKin E) (eVal E) (ePrt E) q) true (nn i) (nn n) f)
    unfold fW_writeOwnProperties_6
    rw [if_pos (by rw [show (8 : Int32) = nn 8 from rfl, nn_le (by omega) (by omega)]; omega)]
    exact Wo_ret hn f
  | succ k ih =>
    intro i q n f hi hq hn
    obtain ⟨q, rfl⟩ : ∃ z, q = z + 1 := ⟨q - 1, by omega⟩
    show Wo n f _ (fW_writeOwnProperties_6 N rk (nn o) (nn c) d (nn (eC E)) (nn (eG E)) (ePar E) (eOwn E) (eLet E) (eSor E) (eTar E) (nn (eO E)) (eKin E) (eVal E) (ePrt E) (fW_writeOwnProperties_6l N rk (nn o) (nn c) d (nn (eC E)) (nn (eG E)) (ePar E) (eOwn E) (eLet E) (eSor E) (eTar E) (nn (eO E)) (eKin E) (eVal E) (ePrt E) q) true (nn i) (nn n) f)
    unfold fW_writeOwnProperties_6
    rw [if_neg (by rw [show (8 : Int32) = nn 8 from rfl, nn_le (by omega) (by omega)]; omega), if_pos rfl, dOwn hG _ (by omega), o_bind, nn_s, List.range'_succ, List.filter_cons]
    by_cases h : (decide (i < eG E) && decide (eOwn E i = nn c)) = true
    · rw [if_pos h, if_pos h]
      have hi2 : i < eG E := by rw [Bool.and_eq_true, decide_eq_true_iff] at h; exact h.1
      refine Wo_seq (L1 := elL E rec o i) (L2 := esL E rec o ((List.range' (i + 1) k).filter (fun p => decide (p < eG E) && decide (eOwn E p = nn c)))) (w_prop hE hR hN ho hi2 hn f) (fun l1 h1 hb => ?_) (fun m g hm => ?_)
      · dsimp only
        rw [if_pos rfl]
        exact ih (i + 1) q _ _ (by omega) (by omega) hb
      · dsimp only
        rw [if_neg (by decide)]
        obtain ⟨q, rfl⟩ : ∃ z, q = z + 1 := ⟨q - 1, by omega⟩
        exact own_f q _ hm g
    · rw [if_neg h, if_neg h]
      exact ih (i + 1) q n f (by omega) (by omega) hn
