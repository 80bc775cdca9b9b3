/-! slots of an object by letter: value, linked, put, link -/
theorem fs_no {P : Nat → Bool} (k i : Nat) (h : ∀ j, P j = false) : fs P k i = -1 := by
  rcases fs_some (P := P) k i with ⟨h1, _⟩ | ⟨j, _, _, h3, _⟩
  · exact h1
  · rw [h j] at h3; cases h3
theorem pP_neg (par own let_ : AI) (l : Int32) (p : Nat) : pP par own let_ (-1) l p = false := by
  unfold pP
  rw [isK_neg _ _ _ neg1_lt, Bool.and_false]
def slt (G O : Nat) (par own let_ kin : AI) (x l : Int32) : Int32 := fs (pP par own let_ (kdO O kin x) l) G 0
theorem p_slot {C G O : Nat} {par own let_ kin : AI} (hC : C ≤ 6) (hG : G ≤ 8) (hO : O ≤ 12) (hp : pI C par) (hk : ∀ o, o < O → ∃ i, i < C ∧ kin o = nn i) {N : Nat} (hN : 10 ≤ N) (x l : Int32) : fP_propertyOfObject N x l (nn C) (nn G) par own let_ (nn O) kin = some (slt G O par own let_ kin x l) := by
  unfold fP_propertyOfObject
  rw [iKind hO, o_bind, dP hC hG hp hN l (kdO_or hk x), o_bind]
  rfl
theorem m_slot {C G O : Nat} {par own let_ kin : AI} (hC : C ≤ 6) (hG : G ≤ 8) (hO : O ≤ 12) (hp : pI C par) (hu : uI G par own let_) (hk : ∀ o, o < O → ∃ i, i < C ∧ kin o = nn i) {N : Nat} (hN : 10 ≤ N) (x l : Int32) : fM_slot N x l (nn G) (nn O) par own let_ kin = some (slt G O par own let_ kin x l) := by
  unfold fM_slot slt
  rcases in_or x O with h | ⟨k, hk', rfl, h | h⟩
  · rw [mO_neg h, o_bind, if_neg (by decide)]
    unfold kdO
    rw [if_pos h, fs_no _ _ (fun j => pP_neg _ _ _ _ j)]
  · rw [mO (by omega) k hk', o_bind, decide_eq_true h, if_pos rfl, if_pos (nn_okt hk' (by omega)), nn_c hk']
    have e : kdO O kin (nn k) = kin k := by unfold kdO; rw [if_neg (nn_neg hk'), nn_c hk', if_pos h]
    rw [e, mF hC hG hp hN l (Or.inr (hk k h)) (pP_u hC hp hu l (Or.inr (hk k h)))]
    rfl
  · rw [mO (by omega) k hk', o_bind, decide_eq_false (by omega), if_neg (by decide)]
    unfold kdO
    rw [if_neg (nn_neg hk'), nn_c hk', if_neg (by omega), fs_no _ _ (fun j => pP_neg _ _ _ _ j)]
theorem slt_or {G O : Nat} (par own let_ kin : AI) (x l : Int32) : slt G O par own let_ kin x l = -1 ∨ ∃ o p, o < O ∧ p < G ∧ x = nn o ∧ o < 2147483648 ∧ slt G O par own let_ kin x l = nn p := by
  unfold slt
  rcases fs_some (P := pP par own let_ (kdO O kin x) l) G 0 with ⟨h1, _⟩ | ⟨j, _, h2, h3, h4⟩
  · exact Or.inl h1
  · refine Or.inr ?_
    rcases in_or x O with h | ⟨k, hk, rfl, h | h⟩
    · unfold kdO at h3
      rw [if_pos h, pP_neg] at h3
      cases h3
    · exact ⟨k, j, h, by omega, rfl, hk, h4⟩
    · unfold kdO at h3
      rw [if_neg (nn_neg hk), nn_c hk, if_neg (by omega), pP_neg] at h3
      cases h3
/-- no cell: the property is none -/
theorem iHC_no (x : Int32) (O : Nat) : fI_hasCell x (-1) (nn O) = some false := by
  unfold fI_hasCell fI_has
  by_cases h : x < 0
  · rw [if_pos h]; rfl
  · rw [if_neg h]
    by_cases h2 : nn O ≤ x
    · rw [if_pos h2]; rfl
    · rw [if_neg h2, o_bind, if_pos rfl, if_pos neg1_lt]
theorem q_value {C G O : Nat} {par own let_ sor tar kin : AI} {val : AJ} {prt : AI} {held : AJ} (hd : dI C G par own let_ sor tar) (h : oI C G O sor kin val prt held) {N : Nat} (hN : 10 ≤ N) (x l : Int32) : ∃ r, fP_value N x l (nn C) (nn G) par own let_ (nn O) kin val = some r ∧ fM_value N x l (nn G) (nn O) par own let_ sor kin held = some r := by
  obtain ⟨hC, hG, hp, hu, hx⟩ := hd
  obtain ⟨hO, hk, hc⟩ := h
  unfold fP_value fM_value
  rw [p_slot hC hG hO hp hk hN, o_bind, m_slot hC hG hO hp hu hk hN, o_bind]
  rcases slt_or (G := G) (O := O) par own let_ kin x l with e | ⟨o, p, ho, hpG, rfl, ho2, e⟩
  · rw [e, if_pos neg1_lt]
    refine ⟨0, ?_, rfl⟩
    unfold fI_valueAt
    rw [iHC_no]; rfl
  · rw [e, if_neg (nn_neg (by omega)), if_pos (nn_okt (by omega) (by omega)), nn_c (by omega), show (8 : Int32) = nn 8 from rfl, nn_mul, nn_add, if_pos (nn_okt (by omega) (by omega)), nn_c (by omega)]
    unfold fI_valueAt
    rw [iHC hO ho (by omega), o_bind, if_pos rfl, iCell, o_bind, if_pos (nn_okt (by omega) (by omega)), nn_c (by omega)]
    refine ⟨val (8 * o + p), rfl, ?_⟩
    obtain ⟨c1, c2⟩ := hc o p ho (by omega)
    by_cases hs : sor p = 3
    · rw [if_pos hs, (c1 ⟨hpG, hs⟩).1]
    · rw [if_neg hs, (c2 (fun z => hs z.2)).2]
theorem q_linked {C G O : Nat} {par own let_ sor tar kin : AI} {val : AJ} {prt : AI} {held : AJ} (hd : dI C G par own let_ sor tar) (h : oI C G O sor kin val prt held) {N : Nat} (hN : 10 ≤ N) (x l : Int32) : ∃ r, fP_linked N x l (nn C) (nn G) par own let_ (nn O) kin prt = some r ∧ fM_linked N x l (nn G) (nn O) par own let_ sor kin held = some r := by
  obtain ⟨hC, hG, hp, hu, hx⟩ := hd
  obtain ⟨hO, hk, hc⟩ := h
  unfold fP_linked fM_linked
  rw [p_slot hC hG hO hp hk hN, o_bind, m_slot hC hG hO hp hu hk hN, o_bind]
  rcases slt_or (G := G) (O := O) par own let_ kin x l with e | ⟨o, p, ho, hpG, rfl, ho2, e⟩
  · rw [e, if_pos neg1_lt]
    refine ⟨-1, ?_, rfl⟩
    unfold fI_partnerAt
    rw [iHC_no]; rfl
  · rw [e, if_neg (nn_neg (by omega)), if_pos (nn_okt (by omega) (by omega)), nn_c (by omega), show (8 : Int32) = nn 8 from rfl, nn_mul, nn_add, if_pos (nn_okt (by omega) (by omega)), nn_c (by omega)]
    unfold fI_partnerAt
    rw [iHC hO ho (by omega), o_bind, if_pos rfl, iCell, o_bind, if_pos (nn_okt (by omega) (by omega)), nn_c (by omega)]
    refine ⟨prt (8 * o + p), rfl, ?_⟩
    obtain ⟨c1, c2⟩ := hc o p ho (by omega)
    by_cases hs : sor p = 3
    · rw [if_pos hs, (c1 ⟨hpG, hs⟩).2.1]
      simp
    · rw [if_neg hs, (c2 (fun z => hs z.2)).1]
theorem dSort {G : Nat} (hG : G ≤ 8) (sor : AI) {p : Nat} (hp : p < G) : fD_sort (nn p) (nn G) sor = some (sor p) := by
  unfold fD_sort
  rw [dH (by omega) p (by omega), o_bind, decide_eq_true hp, if_pos rfl, if_pos (nn_okt (by omega) (by omega)), nn_c (by omega)]
theorem dSort_no (G : Nat) (sor : AI) : fD_sort (-1) (nn G) sor = some (-1) := by
  unfold fD_sort
  rw [dH_neg neg1_lt]; rfl
theorem dTarget {G : Nat} (hG : G ≤ 8) (tar : AI) {p : Nat} (hp : p < G) : fD_target (nn p) (nn G) tar = some (tar p) := by
  unfold fD_target
  rw [dH (by omega) p (by omega), o_bind, decide_eq_true hp, if_pos rfl, if_pos (nn_okt (by omega) (by omega)), nn_c (by omega)]
/-- a value that fits a sort -/
def fitV (s : Int32) (v : Int64) : Bool := if s = 0 then decide (v = v.toInt32.toInt64) else if s = 1 then true else if s = 2 then decide (v = 0 ∨ v = 1) else false
theorem d_allows {G : Nat} (hG : G ≤ 8) (sor : AI) {p : Nat} (hp : p < G) (v : Int64) : fD_allowsValue (nn p) v (nn G) sor = some (fitV (sor p) v) := by
  unfold fD_allowsValue fitV
  rw [dSort hG sor hp, o_bind]
  by_cases h0 : sor p = 0
  · rw [if_pos h0, if_pos h0]
    simp only [lg_cmp_eq]
    by_cases e : v = v.toInt32.toInt64
    · rw [if_pos e, decide_eq_true e]
    · rw [if_neg e, decide_eq_false e]
  · rw [if_neg h0, if_neg h0]
    by_cases h1 : sor p = 1
    · rw [if_pos h1, if_pos h1]
    · rw [if_neg h1, if_neg h1]
      by_cases h2 : sor p = 2
      · rw [if_pos h2, if_pos h2]
        simp only [lg_cmp_eq]
        by_cases e : v = 0
        · rw [if_pos e, decide_eq_true (Or.inl e)]
        · rw [if_neg e]
          by_cases e1 : v = 1
          · rw [if_pos e1, decide_eq_true (Or.inr e1)]
          · rw [if_neg e1, decide_eq_false (fun z => z.elim e e1)]
      · rw [if_neg h2, if_neg h2]
theorem fit_int (v : Int64) : v = v.toInt32.toInt64 ↔ ¬ v < -2147483648 ∧ ¬ 2147483647 < v := by
  rw [← Int64.toInt_inj, Int32.toInt_toInt64, Int64.toInt_toInt32, Int64.lt_iff_toInt_lt, Int64.lt_iff_toInt_lt, show (-2147483648 : Int64).toInt = -2147483648 from by decide, show (2147483647 : Int64).toInt = 2147483647 from by decide]
  constructor
  · intro h
    have h1 := Int.le_bmod (x := v.toInt) (m := 2 ^ 32) (by decide)
    have h2 := Int.bmod_lt (x := v.toInt) (m := 2 ^ 32) (by decide)
    rw [← h] at h1 h2
    omega
  · rintro ⟨h1, h2⟩
    rw [Int.bmod_eq_of_le (by omega) (by omega)]
theorem fit_flag (v : Int64) : (v = 0 ∨ v = 1) ↔ ¬ v < 0 ∧ v ≤ 1 := by
  rw [← Int64.toInt_inj, ← Int64.toInt_inj, Int64.lt_iff_toInt_lt, Int64.le_iff_toInt_le, show (0 : Int64).toInt = 0 from by decide, show (1 : Int64).toInt = 1 from by decide]
  omega
theorem q_put {C G O : Nat} {par own let_ sor tar kin : AI} {val : AJ} {prt : AI} {held : AJ} (hd : dI C G par own let_ sor tar) (h : oI C G O sor kin val prt held) {N : Nat} (hN : 10 ≤ N) (x l : Int32) (v : Int64) : ∃ r val' held', fP_put N x l v (nn C) (nn G) par own let_ sor (nn O) kin val = some (r, val') ∧ fM_put N x l v (nn G) (nn O) par own let_ sor kin held = some (r, held') ∧ oI C G O sor kin val' prt held' := by
  have hdd := hd
  have hoo := h
  obtain ⟨hC, hG, hp, hu, hx⟩ := hd
  obtain ⟨hO, hk, hc⟩ := h
  unfold fP_put fM_put
  rw [p_slot hC hG hO hp hk hN, o_bind, m_slot hC hG hO hp hu hk hN, o_bind]
  rcases slt_or (G := G) (O := O) par own let_ kin x l with e | ⟨o, p, ho, hpG, rfl, ho2, e⟩
  · rw [e, if_pos neg1_lt]
    refine ⟨false, val, held, ?_, rfl, hoo⟩
    unfold fD_allowsValue
    rw [dSort_no]; rfl
  · rw [e, if_neg (nn_neg (by omega)), d_allows hG sor hpG, o_bind, iSetV hO ho (by omega), o_bind, nn_c (by omega), show (8 : Int32) = nn 8 from rfl, nn_mul, nn_add, nn_c (by omega)]
    have hok : ok (nn p) 8 = true := nn_okt (by omega) (by omega)
    have hok2 : ok (nn (8 * o + p)) 96 = true := nn_okt (by omega) (by omega)
    simp only [if_pos hok, if_pos hok2, lg_cmp_lt, lg_cmp_gt, lg_cmp_le]
    have good : ¬ sor p = 3 → oI C G O sor kin (vp_updL val (8 * o + p) v) prt (vp_updL held (8 * o + p) v) := by
      intro hs
      refine ⟨hO, hk, fun o2 p2 h1 h2 => ?_⟩
      obtain ⟨c1, c2⟩ := hc o2 p2 h1 h2
      unfold cI_ vp_updL
      by_cases e : 8 * o2 + p2 = 8 * o + p
      · have e1 : o2 = o := by omega
        have e2 : p2 = p := by omega
        subst e1 e2
        rw [if_pos rfl, if_pos rfl]
        exact ⟨fun z => absurd z.2 hs, fun z => ⟨(c2 z).1, rfl⟩⟩
      · rw [if_neg e, if_neg e]
        exact ⟨c1, c2⟩
    by_cases h3 : sor p = 3
    · rw [if_pos h3]
      refine ⟨false, val, held, ?_, rfl, hoo⟩
      unfold fitV
      rw [h3]
      rfl
    · rw [if_neg h3]
      unfold fitV
      by_cases h0 : sor p = 0
      · rw [if_pos h0, if_pos h0]
        have h2 : ¬ sor p = 2 := by rw [h0]; decide
        rw [if_neg h2]
        by_cases ev : v = v.toInt32.toInt64
        · obtain ⟨f1, f2⟩ := (fit_int v).mp ev
          rw [decide_eq_true ev, if_pos rfl, if_neg f1, if_neg f2]
          exact ⟨true, _, _, rfl, rfl, good h3⟩
        · rw [decide_eq_false ev, if_neg (by decide)]
          refine ⟨false, val, held, rfl, ?_, hoo⟩
          by_cases f1 : v < -2147483648
          · rw [if_pos f1]
          · rw [if_neg f1]
            by_cases f2 : 2147483647 < v
            · rw [if_pos f2]
            · exact absurd ((fit_int v).mpr ⟨f1, f2⟩) ev
      · rw [if_neg h0, if_neg h0]
        by_cases h1 : sor p = 1
        · have h2 : ¬ sor p = 2 := by rw [h1]; decide
          rw [if_pos h1, if_pos rfl, if_neg h2]
          exact ⟨true, _, _, rfl, rfl, good h3⟩
        · have h2 : sor p = 2 := by
            obtain ⟨k, hk, ek⟩ := (hx p hpG).2.2.1
            rw [ek] at h0 h1 h3 ⊢
            rw [show (0 : Int32) = nn 0 from rfl, nn_eq (by omega) (by omega)] at h0
            rw [show (1 : Int32) = nn 1 from rfl, nn_eq (by omega) (by omega)] at h1
            rw [show (3 : Int32) = nn 3 from rfl, nn_eq (by omega) (by omega)] at h3
            rw [show (2 : Int32) = nn 2 from rfl, nn_eq (by omega) (by omega)]
            omega
          rw [if_neg h1, if_pos h2, if_pos h2]
          by_cases ev : v = 0 ∨ v = 1
          · obtain ⟨f1, f2⟩ := (fit_flag v).mp ev
            rw [decide_eq_true ev, if_pos rfl, if_neg f1, if_pos f2]
            exact ⟨true, _, _, rfl, rfl, good h3⟩
          · rw [decide_eq_false ev, if_neg (by decide)]
            refine ⟨false, val, held, rfl, ?_, hoo⟩
            by_cases f1 : v < 0
            · rw [if_pos f1]
            · rw [if_neg f1]
              by_cases f2 : v ≤ 1
              · exact absurd ((fit_flag v).mpr ⟨f1, f2⟩) ev
              · rw [if_neg f2]
theorem q_link {C G O : Nat} {par own let_ sor tar kin : AI} {val : AJ} {prt : AI} {held : AJ} (hd : dI C G par own let_ sor tar) (h : oI C G O sor kin val prt held) {N : Nat} (hN : 10 ≤ N) (x l w : Int32) : ∃ r prt' held', fP_link N x l w (nn C) (nn G) par own let_ sor tar (nn O) kin prt = some (r, prt') ∧ fM_link N x l w (nn G) (nn O) par own let_ sor tar kin held = some (r, held') ∧ oI C G O sor kin val prt' held' := by
  have hoo := h
  obtain ⟨hC, hG, hp, hu, hx⟩ := hd
  obtain ⟨hO, hk, hc⟩ := h
  unfold fP_link fM_link
  rw [p_slot hC hG hO hp hk hN, o_bind, m_slot hC hG hO hp hu hk hN, o_bind]
  rcases slt_or (G := G) (O := O) par own let_ kin x l with e | ⟨o, p, ho, hpG, rfl, ho2, e⟩
  · rw [e, if_pos neg1_lt]
    refine ⟨false, prt, held, ?_, rfl, hoo⟩
    unfold fD_isLink
    rw [dSort_no]; rfl
  · have hok : ok (nn p) 8 = true := nn_okt (by omega) (by omega)
    have hok2 : ok (nn (8 * o + p)) 96 = true := nn_okt (by omega) (by omega)
    rw [e, if_neg (nn_neg (by omega)), iSetP hO ho (by omega), o_bind, nn_c (by omega), show (8 : Int32) = nn 8 from rfl, nn_mul, nn_add, nn_c (by omega), iKind hO, o_bind, dTarget hG tar hpG, o_bind, dK hC hp (by omega) _ (kdO_or hk w), o_bind]
    simp only [if_pos hok, if_pos hok2]
    unfold fD_isLink
    rw [dSort hG sor hpG, o_bind]
    have good : sor p = 3 → (w = -1 ∨ ∃ y, y < O ∧ w = nn y) → oI C G O sor kin val (upd prt (8 * o + p) w) (vp_updL held (8 * o + p) w.toInt64) := by
      intro hs hw
      refine ⟨hO, hk, fun o2 p2 h1 h2 => ?_⟩
      obtain ⟨c1, c2⟩ := hc o2 p2 h1 h2
      unfold cI_ vp_updL upd
      by_cases e : 8 * o2 + p2 = 8 * o + p
      · have e1 : o2 = o := by omega
        have e2 : p2 = p := by omega
        subst e1 e2
        rw [if_pos rfl, if_pos rfl]
        exact ⟨fun z => ⟨(c1 z).1, rfl, hw⟩, fun z => absurd ⟨hpG, hs⟩ z⟩
      · rw [if_neg e, if_neg e]
        exact ⟨c1, c2⟩
    by_cases h3 : sor p = 3
    · rw [if_pos h3, if_pos h3, o_bind, if_pos rfl]
      by_cases hw : w = -1
      · rw [if_pos hw, if_pos hw]
        exact ⟨true, _, _, rfl, rfl, good h3 (Or.inl hw)⟩
      · rw [if_neg hw, if_neg hw]
        rcases in_or w O with h | ⟨k, hk', rfl, h | h⟩
        · rw [mO_neg h]
          refine ⟨false, prt, held, ?_, rfl, hoo⟩
          unfold kdO
          rw [if_pos h, isK_neg _ _ _ neg1_lt, if_neg (by decide)]
        · have ek : kdO O kin (nn k) = kin k := by unfold kdO; rw [if_neg (nn_neg hk'), nn_c hk', if_pos h]
          rw [mO (by omega) k hk', o_bind, decide_eq_true h, if_pos rfl, if_pos (nn_okt hk' (by omega)), nn_c hk', mK hC hp (by omega) _ (Or.inr (hk k h)), o_bind, ek]
          by_cases hz : isK par (kin k) (tar p) = true
          · rw [if_pos hz, if_pos hz]
            exact ⟨true, _, _, rfl, rfl, good h3 (Or.inr ⟨k, h, rfl⟩)⟩
          · rw [if_neg hz, if_neg hz]
            exact ⟨false, _, _, rfl, rfl, hoo⟩
        · rw [mO (by omega) k hk', o_bind, decide_eq_false (by omega)]
          refine ⟨false, prt, held, ?_, rfl, hoo⟩
          unfold kdO
          rw [if_neg (nn_neg hk'), nn_c hk', if_neg (c := k < O) (by omega), isK_neg _ _ _ neg1_lt, if_neg (by decide)]
    · rw [if_neg h3, if_neg h3]
      exact ⟨false, _, _, rfl, rfl, hoo⟩
