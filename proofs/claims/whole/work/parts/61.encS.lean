/-! what encode writes are bytes; encode, both sides -/
def isB (x : Int32) : Prop := ∃ k, k < 256 ∧ x = nn k
theorem lowB_B (v : Int64) (i : Int32) : isB (lowB v i) := by
  unfold lowB
  obtain ⟨j, hj, e⟩ := pk_andE ((v >>> (((8 : Int32) * i).toInt64 &&& 63)).toInt32) (m := 255) 8 (by decide)
  exact ⟨j, hj, e⟩
theorem num_B (v : Int64) : ∀ k i x, x ∈ num v k i → isB x
  | 0, _, _, h => by cases h
  | k + 1, i, x, h => by
    rcases List.mem_cons.mp h with h | h
    · rw [h]; exact lowB_B v (nn i)
    · exact num_B v k (i + 1) x h
theorem hd_B {E : En} (hE : gE E) {t p : Nat} (ht : t < 256) (hp : p < eG E) : ∀ x, x ∈ hd E (nn t) p → isB x := by
  obtain ⟨k, hk, e⟩ := (hE.1.2.2.2.2 p hp).2.1
  intro x hx
  unfold hd at hx
  rw [e, show (97 : Int32) + nn k = nn (97 + k) from nn_add 97 k] at hx
  simp only [List.mem_cons, List.not_mem_nil, or_false] at hx
  rcases hx with h | h | h
  · exact ⟨t, ht, h⟩
  · exact ⟨97 + k, by omega, h⟩
  · exact ⟨0, by omega, h⟩
def recB (E : En) (rec : Nat → Int32 → Option (List Int32)) : Prop := ∀ o b l, o < eO E → rec o b = some l → l.length ≤ 120 → ∀ x, x ∈ l → isB x
theorem el_B {E : En} (hE : gE E) {rec : Nat → Int32 → Option (List Int32)} (hr : recB E rec) {o p : Nat} (ho : o < eO E) (hp : p < eG E) {l : List Int32} (h : elL E rec o p = some l) (hl : l.length ≤ 120) : ∀ x, x ∈ l → isB x := by
  unfold elL at h
  by_cases h0 : eSor E p = 0
  · rw [if_pos h0] at h
    cases h
    intro x hx
    rcases List.mem_append.mp hx with h | h
    · exact hd_B hE (t := 16) (by omega) hp x h
    · exact num_B _ _ _ x h
  · rw [if_neg h0] at h
    by_cases h1 : eSor E p = 1
    · rw [if_pos h1] at h
      cases h
      intro x hx
      rcases List.mem_append.mp hx with h | h
      · exact hd_B hE (t := 18) (by omega) hp x h
      · exact num_B _ _ _ x h
    · rw [if_neg h1] at h
      by_cases h2 : eSor E p = 2
      · rw [if_pos h2] at h
        cases h
        intro x hx
        rcases List.mem_append.mp hx with h | h
        · exact hd_B hE (t := 8) (by omega) hp x h
        · exact num_B _ _ _ x h
      · rw [if_neg h2] at h
        by_cases h3 : ePrt E (8 * o + p) = -1
        · rw [if_pos h3] at h
          cases h
          exact hd_B hE (t := 10) (by omega) hp
        · rw [if_neg h3] at h
          have hs : eSor E p = 3 := by
            obtain ⟨k, hk, ek⟩ := (hE.1.2.2.2.2 p hp).2.2.1
            rw [ek] at h0 h1 h2 ⊢
            rw [show (0 : Int32) = nn 0 from rfl, nn_eq (by omega) (by omega)] at h0
            rw [show (1 : Int32) = nn 1 from rfl, nn_eq (by omega) (by omega)] at h1
            rw [show (2 : Int32) = nn 2 from rfl, nn_eq (by omega) (by omega)] at h2
            rw [show (3 : Int32) = nn 3 from rfl, nn_eq (by omega) (by omega)]
            omega
          obtain ⟨y, hy, ey⟩ := (hE.2.2.2 o p ho hp hs).resolve_left h3
          have hO := hE.2.1
          rw [ey, nn_c (by omega)] at h
          cases hd2 : rec y (eTar E p) with
          | none => rw [hd2] at h; cases h
          | some l2 =>
            rw [hd2] at h
            cases h
            intro x hx
            rw [List.length_append] at hl
            rcases List.mem_append.mp hx with h | h
            · exact hd_B hE (t := 3) (by omega) hp x h
            · exact hr y _ l2 hy hd2 (by omega) x h
theorem es_B {E : En} (hE : gE E) {rec : Nat → Int32 → Option (List Int32)} (hr : recB E rec) {o : Nat} (ho : o < eO E) : ∀ (ps : List Nat), (∀ p, p ∈ ps → p < eG E) → ∀ l, esL E rec o ps = some l → l.length ≤ 120 → ∀ x, x ∈ l → isB x
  | [], _, l, h, _, x, hx => by cases h; cases hx
  | p :: ps, hps, l, h, hl, x, hx => by
    change (elL E rec o p).bind (fun l1 => (esL E rec o ps).map fun l2 => l1 ++ l2) = some l at h
    cases h1 : elL E rec o p with
    | none => rw [h1] at h; cases h
    | some l1 =>
      rw [h1] at h
      cases h2 : esL E rec o ps with
      | none => rw [h2] at h; cases h
      | some l2 =>
        rw [h2] at h
        cases h
        rw [List.length_append] at hl
        rcases List.mem_append.mp hx with h | h
        · exact el_B hE hr ho (hps p List.mem_cons_self) h1 (by omega) x h
        · exact es_B hE hr ho ps (fun p hp => hps p (List.mem_cons_of_mem _ hp)) l2 h2 (by omega) x h
theorem doc_B {E : En} (hE : gE E) : ∀ r, recB E (docL E r)
  | 0 => fun o b l _ h => by cases h
  | r + 1 => fun o b l ho h hl x hx => by
    have hC := hE.1.1
    rw [docL_s] at h
    cases h1 : esL E (docL E r) o (kinL E (eKin E o) (eC E)) with
    | none => rw [h1] at h; cases h
    | some l1 =>
      rw [h1] at h
      cases h
      rw [finL_len] at hl
      unfold finL at hx
      have hz : isB 0 := ⟨0, by omega, rfl⟩
      rcases List.mem_cons.mp hx with h | hx
      · exact ⟨_, by omega, h⟩
      rcases List.mem_cons.mp hx with h | hx
      · rw [h]; exact hz
      rcases List.mem_cons.mp hx with h | hx
      · rw [h]; exact hz
      rcases List.mem_cons.mp hx with h | hx
      · rw [h]; exact hz
      rcases List.mem_append.mp hx with hx | hx
      · rcases List.mem_append.mp hx with hx | hx
        · unfold mkL at hx
          by_cases e : eKin E o = b
          · rw [if_pos e] at hx; cases hx
          · rw [if_neg e] at hx
            obtain ⟨c, hc, ec⟩ := hE.2.2.1 o ho
            rw [ec, show (65 : Int32) + nn c = nn (65 + c) from nn_add 65 c] at hx
            simp only [List.mem_cons, List.not_mem_nil, or_false] at hx
            rcases hx with h | h | h | h | h | h | h | h | h | h
            · exact ⟨2, by omega, h⟩
            · exact ⟨95, by omega, h⟩
            · exact ⟨116, by omega, h⟩
            · exact ⟨0, by omega, h⟩
            · exact ⟨2, by omega, h⟩
            · exact ⟨0, by omega, h⟩
            · exact ⟨0, by omega, h⟩
            · exact ⟨0, by omega, h⟩
            · exact ⟨65 + c, by omega, h⟩
            · exact ⟨0, by omega, h⟩
        · exact es_B hE (doc_B hE r) ho _ (fun p hp => (kin_mem hp).1) l1 h1 (by omega) x hx
      · rw [List.mem_singleton.mp hx]; exact hz
theorem wr_mem : ∀ (l : List Int32) (f : AI) (n j : Nat), n ≤ j → j < n + l.length → wr f n l j ∈ l
  | [], _, n, j, h1, h2 => by simp at h2; omega
  | x :: l, f, n, j, h1, h2 => by
    show wr (upd f n x) (n + 1) l j ∈ _
    simp only [List.length_cons] at h2
    by_cases e : j = n
    · subst e
      rw [wr_lt l _ (j + 1) j (by omega), upd_at]
      exact List.mem_cons_self
    · exact List.mem_cons_of_mem _ (wr_mem l _ (n + 1) j (by omega) (by omega))
theorem q_encode {E : En} (hE : gE E) {N : Nat} (hN : 200 ≤ N) {held : AJ} (hh : hH E held) (x b : Int32) {B : Nat} {row : AI} (hy : yI B row) (wc : Int32) (w : AI) (ln0 : Int32) (fd : Bool) (op0 : Int32) (out oo os on : AI) : ∃ r B' row' wc' w' z1 z2 z3 z4 z5 z6 z7, fP_encode N x b (nn (eC E)) (nn (eG E)) (ePar E) (eOwn E) (eLet E) (eSor E) (eTar E) (nn (eO E)) (eKin E) (eVal E) (ePrt E) (nn B) row wc w = some (r, nn B', row', wc', w') ∧ fM_encode N x b (nn (eC E)) (nn (eG E)) (nn (eO E)) (nn B) ln0 fd op0 (ePar E) (eOwn E) (eLet E) (eSor E) (eTar E) (eKin E) held row out oo os on = some (r, nn B', z1, z2, z3, row', z4, z5, z6, z7) ∧ yI B' row' := by
  have hO := hE.2.1
  obtain ⟨wc', w', e1⟩ := p_encode hE (show 10 ≤ N by omega) x b hy.1 row wc w
  obtain ⟨z1, z2, z3, z4, z5, z6, z7, e2⟩ := m_encode hE hN hh x b (B := B) row ln0 fd op0 out oo os on
  have hdoc : ∀ l, encR E x b = some (some l) → l.length ≤ 120 → yI l.length (wr row 0 l) := by
    intro l h hl
    unfold encR at h
    by_cases hz : isK (ePar E) (kdO (eO E) (eKin E) x) b = true
    · rw [if_pos hz] at h
      have h := Option.some.inj h
      have ho : x.toNatClampNeg < eO E := by
        unfold kdO at hz
        by_cases h1 : x < 0
        · rw [if_pos h1, isK_neg _ _ _ neg1_lt] at hz; cases hz
        · rw [if_neg h1] at hz
          by_cases h2 : x.toNatClampNeg < eO E
          · exact h2
          · rw [if_neg h2, isK_neg _ _ _ neg1_lt] at hz; cases hz
      exact ⟨hl, fun i hi => doc_B hE 5 _ b l ho h hl _ (wr_mem l row 0 i (by omega) (by omega))⟩
    · rw [if_neg hz] at h; cases h
  cases hr : encR E x b with
  | none =>
    rw [hr] at e1 e2
    exact ⟨_, _, _, _, _, _, _, _, _, _, _, _, e1, e2, hy⟩
  | some o =>
    rw [hr] at e1 e2
    cases o with
    | none => exact ⟨_, _, _, _, _, _, _, _, _, _, _, _, e1, e2, hy⟩
    | some l =>
      dsimp only at e1 e2
      by_cases hl : l.length ≤ 120
      · rw [if_pos hl] at e1 e2
        exact ⟨_, _, _, _, _, _, _, _, _, _, _, _, e1, e2, hdoc l hr hl⟩
      · rw [if_neg hl] at e1 e2
        exact ⟨_, _, _, _, _, _, _, _, _, _, _, _, e1, e2, hy⟩
