/-! the reference: the n-th property; elements as lists -/
theorem nn_m (a : Nat) : nn (a + 1) + (-1 : Int32) = nn a := by
  have h : nn (a + 1) = nn a + 1 := (nn_s a).symm
  rw [h, Int32.add_assoc, show (1 : Int32) + (-1) = 0 from by decide, Int32.add_zero]
def nP (E : En) (c : Int32) (k p : Nat) : Bool := decide (eOwn E p = nn k) && isK (ePar E) c (eOwn E p)
theorem m_isOf {E : En} (hE : gE E) {N : Nat} (hN : 10 ≤ N) {c : Int32} (hc : c = -1 ∨ ∃ i, i < eC E ∧ c = nn i) {p : Nat} (hp : p < 8) : fM_isOf N (nn p) c (ePar E) (eOwn E) = some (isK (ePar E) c (eOwn E p)) := by
  unfold fM_isOf
  rw [if_pos (nn_okt (by omega) hp), nn_c (by omega), mK hE.1.1 hE.1.2.2.1 (by omega) _ hc]
  rfl
theorem nth_in {E : En} (hE : gE E) {N : Nat} (hN : 10 ≤ N) {c : Int32} (hc : c = -1 ∨ ∃ i, i < eC E ∧ c = nn i) (v2 : Int32) (k : Nat) (rc : Int32 × Int32 → Option Int32) : ∀ (m p q left : Nat), p + m = eG E → m < q → left < 2147483648 → fM_nth_17l N c v2 (nn (eC E)) (nn (eG E)) (ePar E) (eOwn E) (nn k) rc q (nn left, nn p) = match ((List.range' p m).filter (nP E c k))[left]? with
    | some x => some (nn x)
    | none => rc (nn (left - ((List.range' p m).filter (nP E c k)).length), nn (k + 1)) := by
  have hG := hE.1.2.1
  intro m
  induction m with
  | zero =>
    intro p q left hp hq hl
    obtain ⟨q, rfl⟩ : ∃ z, q = z + 1 := ⟨q - 1, by omega⟩
    show fM_nth_17 N c v2 (nn (eC E)) (nn (eG E)) (ePar E) (eOwn E) (nn k) rc (fM_nth_17l N c v2 (nn (eC E)) (nn (eG E)) (ePar E) (eOwn E) (nn k) rc q) (nn left) (nn p) = _
    unfold fM_nth_17
    rw [if_pos (by rw [nn_le (by omega) (by omega)]; omega), nn_s]
    rfl
  | succ m ih =>
    intro p q left hp hq hl
    obtain ⟨q, rfl⟩ : ∃ z, q = z + 1 := ⟨q - 1, by omega⟩
    show fM_nth_17 N c v2 (nn (eC E)) (nn (eG E)) (ePar E) (eOwn E) (nn k) rc (fM_nth_17l N c v2 (nn (eC E)) (nn (eG E)) (ePar E) (eOwn E) (nn k) rc q) (nn left) (nn p) = _
    unfold fM_nth_17
    rw [if_neg (by rw [nn_le (by omega) (by omega)]; omega), if_pos (nn_okt (by omega) (by omega)), nn_c (by omega), m_isOf hE hN hc (by omega), o_bind, nn_s, List.range'_succ, List.filter_cons, ih (p + 1) q left (by omega) (by omega) hl]
    by_cases h1 : eOwn E p = nn k
    · rw [if_pos h1]
      by_cases h2 : isK (ePar E) c (eOwn E p) = true
      · have hP : nP E c k p = true := by unfold nP; rw [decide_eq_true h1, h2]; rfl
        rw [if_pos h2, if_pos hP]
        cases left with
        | zero => rw [if_pos (c := nn 0 = 0) rfl]; rfl
        | succ a =>
          rw [if_neg (c := nn (a + 1) = 0) (by rw [show (0 : Int32) = nn 0 from rfl, nn_eq (by omega) (by omega)]; omega), nn_m, ih (p + 1) q a (by omega) (by omega) (by omega)]
          rw [List.getElem?_cons_succ, List.length_cons, show a + 1 - ((List.filter (nP E c k) (List.range' (p + 1) m)).length + 1) = a - (List.filter (nP E c k) (List.range' (p + 1) m)).length by omega]
      · have hP : ¬ nP E c k p = true := by unfold nP; rw [Bool.and_eq_true]; exact fun z => h2 z.2
        rw [if_neg h2, if_neg hP]
    · have hP : ¬ nP E c k p = true := by unfold nP; rw [Bool.and_eq_true, decide_eq_true_iff]; exact fun z => h1 z.1
      rw [if_neg h1, if_neg hP]
theorem nP_list {E : En} (hG : eG E ≤ 8) (c : Int32) (k : Nat) : (List.range' 0 (eG E)).filter (nP E c k) = if isK (ePar E) c (nn k) = true then ownL E k else [] := by
  have e1 : ownL E k = (List.range' 0 (eG E)).filter (fun p => decide (eOwn E p = nn k)) := by
    unfold ownL
    have := List.range'_append (s := 0) (m := eG E) (n := 8 - eG E) (step := 1)
    rw [show 0 + 1 * eG E = eG E by omega, show eG E + (8 - eG E) = 8 by omega] at this
    rw [← this, List.filter_append]
    have z : (List.range' (eG E) (8 - eG E)).filter (fun p => decide (p < eG E) && decide (eOwn E p = nn k)) = [] := by
      rw [List.filter_eq_nil_iff]
      intro a ha
      rw [List.mem_range'_1] at ha
      rw [decide_eq_false (by omega), Bool.false_and]
      decide
    rw [z, List.append_nil]
    apply List.filter_congr
    intro a ha
    rw [List.mem_range'_1] at ha
    rw [decide_eq_true (by omega), Bool.true_and]
  by_cases h : isK (ePar E) c (nn k) = true
  · rw [if_pos h, e1]
    apply List.filter_congr
    intro a ha
    unfold nP
    by_cases h2 : eOwn E a = nn k
    · rw [h2, h, Bool.and_true]
    · rw [decide_eq_false h2, Bool.false_and]
  · rw [if_neg h, List.filter_eq_nil_iff]
    intro a ha
    unfold nP
    rw [Bool.and_eq_true, decide_eq_true_iff]
    rintro ⟨h2, h3⟩
    rw [h2] at h3
    exact h h3
theorem nth_out {E : En} (hE : gE E) {N : Nat} (hN : 10 ≤ N) {c : Int32} (hc : c = -1 ∨ ∃ i, i < eC E ∧ c = nn i) (v2 : Int32) : ∀ (m k q left : Nat), k + m = eC E → m < q → left < 2147483648 → fM_nth_5l N c v2 (nn (eC E)) (nn (eG E)) (ePar E) (eOwn E) q (nn left, nn k) = some (match (kiL E c k m)[left]? with
    | some x => nn x
    | none => -1) := by
  have hC := hE.1.1
  have hG := hE.1.2.1
  intro m
  induction m with
  | zero =>
    intro k q left hk hq hl
    obtain ⟨q, rfl⟩ : ∃ z, q = z + 1 := ⟨q - 1, by omega⟩
    show fM_nth_5 N c v2 (nn (eC E)) (nn (eG E)) (ePar E) (eOwn E) (fM_nth_5l N c v2 (nn (eC E)) (nn (eG E)) (ePar E) (eOwn E) q) (nn left) (nn k) = _
    unfold fM_nth_5
    rw [if_pos (by rw [nn_le (by omega) (by omega)]; omega)]
    rfl
  | succ m ih =>
    intro k q left hk hq hl
    obtain ⟨q, rfl⟩ : ∃ z, q = z + 1 := ⟨q - 1, by omega⟩
    show fM_nth_5 N c v2 (nn (eC E)) (nn (eG E)) (ePar E) (eOwn E) (fM_nth_5l N c v2 (nn (eC E)) (nn (eG E)) (ePar E) (eOwn E) q) (nn left) (nn k) = _
    unfold fM_nth_5
    rw [if_neg (by rw [nn_le (by omega) (by omega)]; omega)]
    have h0 := nth_in hE hN hc v2 k (fM_nth_5l N c v2 (nn (eC E)) (nn (eG E)) (ePar E) (eOwn E) q) (eG E) 0 N left (by omega) (by omega) hl
    rw [show fM_nth_17l N c v2 (nn (eC E)) (nn (eG E)) (ePar E) (eOwn E) (nn k) (fM_nth_5l N c v2 (nn (eC E)) (nn (eG E)) (ePar E) (eOwn E) q) N (nn left, (0 : Int32)) = _ from h0]
    have hki : kiL E c k (m + 1) = (List.range' 0 (eG E)).filter (nP E c k) ++ kiL E c (k + 1) m := by
      rw [nP_list hG]
      unfold kiL
      rw [List.range'_succ, List.flatMap_cons]
    rw [hki]
    cases h : ((List.range' 0 (eG E)).filter (nP E c k))[left]? with
    | some x =>
      have hlt := (List.getElem?_eq_some_iff.mp h).1
      rw [List.getElem?_append_left hlt, h]
    | none =>
      have hge := List.getElem?_eq_none_iff.mp h
      rw [List.getElem?_append_right hge]
      exact ih (k + 1) q _ (by omega) (by omega) (by omega)
theorem m_nth {E : En} (hE : gE E) {N : Nat} (hN : 10 ≤ N) {c : Int32} (hc : c = -1 ∨ ∃ i, i < eC E ∧ c = nn i) {i : Nat} (hi : i < 2147483648) : fM_nth N c (nn i) (nn (eC E)) (nn (eG E)) (ePar E) (eOwn E) = some (match (kinL E c (eC E))[i]? with
    | some x => nn x
    | none => -1) := by
  have hC := hE.1.1
  exact nth_out hE hN hc (nn i) (eC E) 0 N i (by omega) (by omega) hi
theorem kin_mem {E : En} {c : Int32} {n p : Nat} (h : p ∈ kinL E c n) : p < eG E ∧ p < 8 := by
  unfold kinL at h
  rw [List.mem_flatMap] at h
  obtain ⟨k, -, h⟩ := h
  by_cases hk : isK (ePar E) c (nn k) = true
  · rw [if_pos hk] at h
    unfold ownL at h
    rw [List.mem_filter, Bool.and_eq_true, decide_eq_true_iff, List.mem_range'_1] at h
    omega
  · rw [if_neg hk] at h; cases h
theorem kin_len (E : En) (c : Int32) (n : Nat) : (kinL E c n).length ≤ 8 * n := by
  unfold kinL
  generalize 0 = s
  induction n generalizing s with
  | zero => simp
  | succ n ih =>
    rw [List.range'_succ, List.flatMap_cons, List.length_append]
    have h1 : (if isK (ePar E) c (nn s) = true then ownL E s else []).length ≤ 8 := by
      by_cases hk : isK (ePar E) c (nn s) = true
      · rw [if_pos hk]
        unfold ownL
        exact Nat.le_trans (List.length_filter_le _ _) (by simp)
      · rw [if_neg hk]; simp
    have h2 := ih (s + 1)
    omega
/-- what the reference holds of the objects -/
def hH (E : En) (held : AJ) : Prop := ∀ o p, o < eO E → p < eG E → (eSor E p = 3 → held (8 * o + p) = (ePrt E (8 * o + p)).toInt64) ∧ (¬ eSor E p = 3 → held (8 * o + p) = eVal E (8 * o + p))
theorem m_plain {E : En} (hE : gE E) {held : AJ} (hh : hH E held) (rec : Nat → Int32 → Option (List Int32)) {N : Nat} (hN : 10 ≤ N) {o p : Nat} (ho : o < eO E) (hp : p < eG E) (h : ¬ eSor E p = 3 ∨ ePrt E (8 * o + p) = -1) : ∃ e op, elL E rec o p = some e ∧ MW op e ∧ 1 ≤ e.length ∧ ∀ n b k g oo os on, fM_element N (nn o) (nn p) n b k (eLet E) (eSor E) (eTar E) (eKin E) held g oo os on = (op n b g).bind fun u => some (u.1, u.2.1, k, u.2.2, oo, os, on) := by
  obtain ⟨⟨hC, hG, hpI, hu, hx⟩, hO, hk, hl⟩ := hE
  have hs : ∃ x, x < 4 ∧ eSor E p = nn x := (hx p hp).2.2.1
  have hel := fun n b k g oo os on => m_el (N := N) n b k (eLet E) (eSor E) (eTar E) (eKin E) held g oo os on (show o < 12 by omega) (show p < 8 by omega) hs
  by_cases h3 : eSor E p = 3
  · have h0 : ¬ eSor E p = 0 := by rw [h3]; decide
    have h1 : ¬ eSor E p = 1 := by rw [h3]; decide
    have h2 : ¬ eSor E p = 2 := by rw [h3]; decide
    have hpt : ePrt E (8 * o + p) = -1 := h.resolve_left (fun z => z h3)
    have hv : held (8 * o + p) < 0 := by
      rw [(hh o p ho hp).1 h3, hpt]; decide
    refine ⟨hd E 10 p, m_hd 10 (eLet E p), ?_, m_hdW _ _, (show 1 ≤ 3 by decide), fun n b k g oo os on => ?_⟩
    · unfold elL
      rw [if_neg h0, if_neg h1, if_neg h2, if_pos hpt]
    · rw [hel]
      simp only [if_pos h3, if_neg h0, if_neg h1, if_neg h2, if_pos hv]
  · have hval := (hh o p ho hp).2 h3
    have num4 : MW (fM_writeNumber N (eVal E (8 * o + p)) 4) (num (eVal E (8 * o + p)) 4 0) := m_num hN _ (K := 4) (by omega)
    have num8 : MW (fM_writeNumber N (eVal E (8 * o + p)) 8) (num (eVal E (8 * o + p)) 8 0) := m_num hN _ (K := 8) (by omega)
    have num1 : MW (fM_writeNumber N (eVal E (8 * o + p)) 1) (num (eVal E (8 * o + p)) 1 0) := m_num hN _ (K := 1) (by omega)
    by_cases h0 : eSor E p = 0
    · refine ⟨hd E 16 p ++ num (eVal E (8 * o + p)) 4 0, _, ?_, MW_seq (m_hdW 16 (eLet E p)) num4, ?_, fun n b k g oo os on => ?_⟩
      · unfold elL; rw [if_pos h0]
      · rw [List.length_append]; exact Nat.le_trans (by decide : 1 ≤ 3) (Nat.le_add_right _ _)
      · rw [hel, hval]
        simp only [if_neg h3, if_pos h0, Option.bind_assoc]
    · by_cases h1 : eSor E p = 1
      · refine ⟨hd E 18 p ++ num (eVal E (8 * o + p)) 8 0, _, ?_, MW_seq (m_hdW 18 (eLet E p)) num8, ?_, fun n b k g oo os on => ?_⟩
        · unfold elL; rw [if_neg h0, if_pos h1]
        · rw [List.length_append]; exact Nat.le_trans (by decide : 1 ≤ 3) (Nat.le_add_right _ _)
        · rw [hel, hval]
          simp only [if_neg h3, if_neg h0, if_pos h1, Option.bind_assoc]
      · have h2 : eSor E p = 2 := by
          obtain ⟨k, hk, ek⟩ := hs
          rw [ek] at h0 h1 h3 ⊢
          rw [show (0 : Int32) = nn 0 from rfl, nn_eq (by omega) (by omega)] at h0
          rw [show (1 : Int32) = nn 1 from rfl, nn_eq (by omega) (by omega)] at h1
          rw [show (3 : Int32) = nn 3 from rfl, nn_eq (by omega) (by omega)] at h3
          rw [show (2 : Int32) = nn 2 from rfl, nn_eq (by omega) (by omega)]
          omega
        refine ⟨hd E 8 p ++ num (eVal E (8 * o + p)) 1 0, _, ?_, MW_seq (m_hdW 8 (eLet E p)) num1, ?_, fun n b k g oo os on => ?_⟩
        · unfold elL; rw [if_neg h0, if_neg h1, if_pos h2]
        · rw [List.length_append]; exact Nat.le_trans (by decide : 1 ≤ 3) (Nat.le_add_right _ _)
        · rw [hel, hval]
          simp only [if_neg h3, if_neg h0, if_neg h1, if_pos h2, Option.bind_assoc]
theorem m_linkE {E : En} (hE : gE E) {held : AJ} (hh : hH E held) (rec : Nat → Int32 → Option (List Int32)) {N : Nat} {o p x : Nat} (ho : o < eO E) (hp : p < eG E) (h3 : eSor E p = 3) (hx : x < eO E) (ex : ePrt E (8 * o + p) = nn x) : elL E rec o p = (rec x (eTar E p)).map (fun l => hd E 3 p ++ l) ∧ ∀ n b k g oo os on, fM_element N (nn o) (nn p) n b k (eLet E) (eSor E) (eTar E) (eKin E) held g oo os on = (m_hd 3 (eLet E p) n b g).bind fun u => fM_begin N (nn x) (eTar E p) u.1 u.2.1 k (eKin E) u.2.2 oo os on := by
  obtain ⟨⟨hC, hG, hpI, hu, hxx⟩, hO, hk, hl⟩ := hE
  have hs : ∃ x, x < 4 ∧ eSor E p = nn x := (hxx p hp).2.2.1
  have h0 : ¬ eSor E p = 0 := by rw [h3]; decide
  have h1 : ¬ eSor E p = 1 := by rw [h3]; decide
  have h2 : ¬ eSor E p = 2 := by rw [h3]; decide
  have hheld : held (8 * o + p) = (nn x).toInt64 := by rw [(hh o p ho hp).1 h3, ex]
  have hv : ¬ held (8 * o + p) < 0 := by
    rw [hheld, Int64.lt_iff_toInt_lt, Int32.toInt_toInt64, nn_i (by omega), show (0 : Int64).toInt = 0 from by decide]
    omega
  have ht : (held (8 * o + p)).toInt32 = nn x := by rw [hheld]; simp
  refine ⟨?_, fun n b k g oo os on => ?_⟩
  · unfold elL
    rw [if_neg h0, if_neg h1, if_neg h2, if_neg (by rw [ex]; exact nn_ne1 (by omega)), ex, nn_c (by omega)]
  · rw [m_el (N := N) n b k (eLet E) (eSor E) (eTar E) (eKin E) held g oo os on (show o < 12 by omega) (show p < 8 by omega) hs]
    simp only [if_pos h3, if_neg h0, if_neg h1, if_neg h2, if_neg hv, ht]
