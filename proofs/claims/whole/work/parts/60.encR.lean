/-! encode: both sides answer alike -/
theorem isK_cls {C : Nat} {par : AI} (hC : C ≤ 6) (hp : pI C par) : ∀ (c : Nat), c < C → ∀ b, isK par (nn c) b = true → ∃ k, k ≤ c ∧ b = nn k := by
  intro c
  induction c using Nat.strongRecOn with
  | _ c ih =>
    intro hc b h
    rw [isK_s hC hp hc] at h
    by_cases e : nn c = b
    · exact ⟨c, Nat.le_refl _, e.symm⟩
    · rw [if_neg e] at h
      rcases hp c hc with e2 | ⟨j, hj, e2⟩
      · rw [e2, isK_neg _ _ _ neg1_lt] at h; cases h
      · rw [e2] at h
        obtain ⟨k, hk, e3⟩ := ih j hj (by omega) b h
        exact ⟨k, by omega, e3⟩
theorem cp_s (out f : AI) (i k : Nat) : va_cpy out (upd f i (out i)) (i + 1) (i + 1) k = va_cpy out f i i (k + 1) := by
  funext j
  unfold va_cpy upd
  by_cases h1 : i + 1 ≤ j ∧ j < i + 1 + k
  · rw [if_pos h1, if_pos (by omega), show i + 1 + (j - (i + 1)) = i + (j - i) by omega]
  · rw [if_neg h1]
    by_cases h2 : j = i
    · rw [if_pos h2, if_pos (by omega), show i + (j - i) = i by omega]
    · rw [if_neg h2, if_neg (by omega)]
theorem m_cpy {E : En} {N : Nat} {a1 a2 cnt op : Int32} {held : AJ} {g oo os on : AI} {n : Nat} (hn : n ≤ 120) : ∀ (k i q : Nat) (f : AI), i + k = n → k < q → fM_encode_154l N a1 a2 (nn (eC E)) (nn (eG E)) cnt (ePar E) (eOwn E) (eLet E) (eSor E) (eTar E) (eKin E) held (nn n) (nn n) false op g oo os on q (nn i, f) = some (nn n, nn n, nn n, false, op, va_cpy g f i i k, g, oo, os, on) := by
  intro k
  induction k with
  | zero =>
    intro i q f hi hq
    obtain ⟨q, rfl⟩ : ∃ z, q = z + 1 := ⟨q - 1, by omega⟩
    show fM_encode_154 N a1 a2 (nn (eC E)) (nn (eG E)) cnt (ePar E) (eOwn E) (eLet E) (eSor E) (eTar E) (eKin E) held (nn n) (nn n) false op g oo os on (fM_encode_154l N a1 a2 (nn (eC E)) (nn (eG E)) cnt (ePar E) (eOwn E) (eLet E) (eSor E) (eTar E) (eKin E) held (nn n) (nn n) false op g oo os on q) (nn i) f = _
    unfold fM_encode_154
    rw [if_pos (by rw [nn_le (by omega) (by omega)]; omega)]
    have : va_cpy g f i i 0 = f := by
      funext j
      unfold va_cpy
      rw [if_neg (by omega)]
    rw [this]
  | succ k ih =>
    intro i q f hi hq
    obtain ⟨q, rfl⟩ : ∃ z, q = z + 1 := ⟨q - 1, by omega⟩
    show fM_encode_154 N a1 a2 (nn (eC E)) (nn (eG E)) cnt (ePar E) (eOwn E) (eLet E) (eSor E) (eTar E) (eKin E) held (nn n) (nn n) false op g oo os on (fM_encode_154l N a1 a2 (nn (eC E)) (nn (eG E)) cnt (ePar E) (eOwn E) (eLet E) (eSor E) (eTar E) (eKin E) held (nn n) (nn n) false op g oo os on q) (nn i) f = _
    unfold fM_encode_154
    rw [if_neg (by rw [nn_le (by omega) (by omega)]; omega), if_pos (nn_okt (by omega) (by omega)), if_pos (nn_okt (by omega) (by omega)), nn_c (by omega), nn_s, ih (i + 1) q _ (by omega) (by omega), cp_s]
theorem lp_end {E : En} {N : Nat} (hN : 200 ≤ N) {a1 a2 cnt sz : Int32} {held : AJ} {by_ : AI} (q : Nat) {n : Nat} (hn : n ≤ 120) (g oo os on : AI) : fM_encode_53l N a1 a2 (nn (eC E)) (nn (eG E)) cnt (ePar E) (eOwn E) (eLet E) (eSor E) (eTar E) (eKin E) held sz by_ (q + 1) (nn n, false, nn 0, g, oo, os, on) = some (nn n, nn n, nn n, false, nn 0, va_cpy g by_ 0 0 n, g, oo, os, on) := by
  show fM_encode_53 N a1 a2 (nn (eC E)) (nn (eG E)) cnt (ePar E) (eOwn E) (eLet E) (eSor E) (eTar E) (eKin E) held sz by_ (fM_encode_53l N a1 a2 (nn (eC E)) (nn (eG E)) cnt (ePar E) (eOwn E) (eLet E) (eSor E) (eTar E) (eKin E) held sz by_ q) (nn n) false (nn 0) g oo os on = _
  unfold fM_encode_53
  rw [if_pos (by decide), if_neg (by decide)]
  exact m_cpy hn n 0 N by_ (by omega) (by omega)
theorem m_encode {E : En} (hE : gE E) {N : Nat} (hN : 200 ≤ N) {held : AJ} (hh : hH E held) (x b : Int32) {B : Nat} (row : AI) (ln0 : Int32) (fd : Bool) (op0 : Int32) (out oo os on : AI) : ∃ z1 z2 z3 z4 z5 z6 z7, fM_encode N x b (nn (eC E)) (nn (eG E)) (nn (eO E)) (nn B) ln0 fd op0 (ePar E) (eOwn E) (eLet E) (eSor E) (eTar E) (eKin E) held row out oo os on = some (match encR E x b with
    | none => (-1, nn B, z1, z2, z3, row, z4, z5, z6, z7)
    | some none => (-2, nn B, z1, z2, z3, row, z4, z5, z6, z7)
    | some (some l) => if l.length ≤ 120 then (nn l.length, nn l.length, z1, z2, z3, wr row 0 l, z4, z5, z6, z7) else (-2, nn B, z1, z2, z3, row, z4, z5, z6, z7)) := by
  have hC := hE.1.1
  have hO := hE.2.1
  unfold fM_encode encR
  have none_case : kdO (eO E) (eKin E) x = -1 → isK (ePar E) (kdO (eO E) (eKin E) x) b = false := fun h => by rw [h, isK_neg _ _ _ neg1_lt]
  rcases in_or x (eO E) with h | ⟨o, ho', rfl, h | h⟩
  · rw [mO_neg h, o_bind, if_neg (by decide), none_case (by unfold kdO; rw [if_pos h]), if_neg (by decide)]
    exact ⟨_, _, _, _, _, _, _, rfl⟩
  · have ek : kdO (eO E) (eKin E) (nn o) = eKin E o := by unfold kdO; rw [if_neg (nn_neg ho'), nn_c ho', if_pos h]
    obtain ⟨c, hc, ec⟩ := hE.2.2.1 o h
    rw [mO (by omega) o ho', o_bind, decide_eq_true h, if_pos rfl, mC_b (by omega), o_bind, ek, if_pos (nn_okt ho' (by omega)), nn_c ho', mK hC hE.1.2.2.1 (by omega) _ (Or.inr ⟨c, hc, ec⟩), o_bind]
    by_cases hz : isK (ePar E) (eKin E o) b = true
    · have hbC : clB (eC E) b = true := by
        rw [ec] at hz
        obtain ⟨k, hk, e⟩ := isK_cls hC hE.1.2.2.1 c hc b hz
        unfold clB
        rw [e, decide_eq_true_iff, nn_i (by omega)]
        omega
      rw [if_pos hbC, if_pos hz, if_pos hz]
      have hb := m_begin (N := N) (k := 0) (o := o) (by omega) (by omega) b 0 false (eKin E) out oo os on
      rw [show fM_begin N (nn o) b 0 false 0 (eKin E) out oo os on = _ from hb, Option.bind_assoc]
      have hbg := m_bgW (show 10 ≤ N by omega) (eKin E o) b
      have hmk : (if eKin E o = b then [] else [2, 95, 116, 0, 2, 0, 0, 0, 65 + eKin E o, 0]) = mkL E o b := rfl
      rw [hmk] at hbg
      have hml : (mkL E o b).length ≤ 10 := by
        unfold mkL
        by_cases e : eKin E o = b
        · rw [if_pos e]; simp
        · rw [if_neg e]; simp
      have e1 := (hbg.1 0 out (by omega)).1 (by rw [List.length_append]; simp only [List.length_cons, List.length_nil]; omega)
      rw [show m_bg N (eKin E o) b 0 false out = _ from e1, o_bind]
      rw [List.length_append]
      obtain ⟨i1, i2⟩ := fr hE (show 10 ≤ N by omega) (a1 := nn o) (a2 := b) (cnt := nn (eO E)) (sz := nn B) hh (by_ := row) 4 0 (by omega) (kinL E (eKin E o) (eC E)) o 0 0 (4 + (mkL E o b).length) (wr out 0 ([0, 0, 0, 0] ++ mkL E o b)) (upd oo 0 (nn o)) (upd os 0 0) (upd on 0 0) h rfl (Nat.zero_le _) (upd_at _ _ _) (upd_at _ _ _) (upd_at _ _ _) (by omega) (by omega)
      have est : ∀ q, fM_encode_53l N (nn o) b (nn (eC E)) (nn (eG E)) (nn (eO E)) (ePar E) (eOwn E) (eLet E) (eSor E) (eTar E) (eKin E) held (nn B) row q (nn (0 + (([0, 0, 0, 0] : List Int32).length + (mkL E o b).length)), false, nn (0 + 1), wr out 0 ([0, 0, 0, 0] ++ mkL E o b), upd oo 0 (nn o), upd os 0 0, upd on 0 0) = fM_encode_53l N (nn o) b (nn (eC E)) (nn (eG E)) (nn (eO E)) (ePar E) (eOwn E) (eLet E) (eSor E) (eTar E) (eKin E) held (nn B) row q (nn (4 + (mkL E o b).length), false, nn (0 + 1), wr out 0 ([0, 0, 0, 0] ++ mkL E o b), upd oo 0 (nn o), upd os 0 0, upd on 0 0) := by
        intro q
        rw [show 0 + (([0, 0, 0, 0] : List Int32).length + (mkL E o b).length) = 4 + (mkL E o b).length by simp only [List.length_cons, List.length_nil]; omega]
      rw [docL_s]
      by_cases hin : ∀ l, esL E (docL E 4) o (kinL E (eKin E o) (eC E)) = some l → ¬ 4 + (mkL E o b).length + l.length + 1 ≤ 120
      · obtain ⟨j, j1, j2⟩ := i2 hin
        obtain ⟨x', y', g', oo', os', on', e⟩ := j2 (N - j)
        rw [show N - j + j = N by omega] at e
        have e' := (est N).trans e
        refine ⟨x', true, y', g', oo', os', on', ?_⟩
        refine Eq.trans e' ?_
        cases hes : esL E (docL E 4) o (kinL E (eKin E o) (eC E)) with
        | none => rfl
        | some l =>
          have := hin l hes
          show _ = some (if (finL (mkL E o b) l).length ≤ 120 then _ else _)
          rw [if_neg (by rw [finL_len]; omega)]
      · obtain ⟨l1, hl1⟩ := Classical.not_forall.mp hin
        have eL : esL E (docL E 4) o (kinL E (eKin E o) (eC E)) = some l1 := Classical.byContradiction (fun z => hl1 (fun w => absurd w z))
        have hbl1 : 4 + (mkL E o b).length + l1.length + 1 ≤ 120 := Classical.byContradiction (fun z => hl1 (fun _ => z))
        obtain ⟨j, oo', os', on', j1, j2, j3⟩ := i1 l1 eL hbl1
        have hout : pat 0 (4 + (mkL E o b).length + l1.length + 1 - 0) (wr (wr out 0 ([0, 0, 0, 0] ++ mkL E o b)) (4 + (mkL E o b).length) (l1 ++ [0])) = wr out 0 (finL (mkL E o b) l1) := by
          have e1 : wr (wr out 0 ([0, 0, 0, 0] ++ mkL E o b)) (4 + (mkL E o b).length) (l1 ++ [0]) = wr out 0 (0 :: 0 :: 0 :: 0 :: (mkL E o b ++ l1 ++ [0])) := by
            have := wr_app ([0, 0, 0, 0] ++ mkL E o b) (l1 ++ [0]) out 0
            rw [show 0 + ([0, 0, 0, 0] ++ mkL E o b : List Int32).length = 4 + (mkL E o b).length by rw [List.length_append]; simp only [List.length_cons, List.length_nil]; omega] at this
            rw [← this]
            simp only [List.cons_append, List.nil_append, List.append_assoc]
          rw [e1, pat_fin _ _ _ _ _ (by omega)]
        have e := j3 (N - j)
        rw [show N - j + j = N by omega, hout] at e
        have e' := (est N).trans e
        obtain ⟨q, hq⟩ : ∃ q, N - j = q + 1 := ⟨N - j - 1, by omega⟩
        rw [hq, lp_end hN q hbl1] at e'
        have hlen := finL_len (mkL E o b) l1
        refine ⟨nn (4 + (mkL E o b).length + l1.length + 1), false, nn 0, wr out 0 (finL (mkL E o b) l1), oo', os', on', Eq.trans e' ?_⟩
        rw [eL]
        show _ = some (if (finL (mkL E o b) l1).length ≤ 120 then _ else _)
        rw [if_pos (by rw [hlen]; exact hbl1), ← hlen, cpy_wr]
    · rw [if_neg hz, if_neg hz]
      by_cases hbC : clB (eC E) b = true
      · rw [if_pos hbC]
        exact ⟨_, _, _, _, _, _, _, rfl⟩
      · rw [if_neg hbC]
        exact ⟨_, _, _, _, _, _, _, rfl⟩
  · rw [mO (by omega) o ho', o_bind, decide_eq_false (by omega), if_neg (by decide), none_case (by unfold kdO; rw [if_neg (nn_neg ho'), nn_c ho', if_neg (by omega)]), if_neg (by decide)]
    exact ⟨_, _, _, _, _, _, _, rfl⟩
