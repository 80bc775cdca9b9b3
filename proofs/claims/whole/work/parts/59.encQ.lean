/-! the reference: its loop over the open documents -/
abbrev St7 : Type := Int32 × Bool × Int32 × AI × AI × AI × AI
abbrev R10 : Type := Int32 × Int32 × Int32 × Bool × Int32 × AI × AI × AI × AI × AI
def TB (sz : Int32) (by_ : AI) (r : Option R10) : Prop := ∃ x y g oo os on, r = some (-2, sz, x, true, y, by_, g, oo, os, on)
theorem lp_fail {E : En} {N : Nat} {a1 a2 cnt sz : Int32} {held : AJ} {by_ : AI} (q : Nat) (x y : Int32) (g oo os on : AI) : TB sz by_ (fM_encode_53l N a1 a2 (nn (eC E)) (nn (eG E)) cnt (ePar E) (eOwn E) (eLet E) (eSor E) (eTar E) (eKin E) held sz by_ (q + 1) (x, true, y, g, oo, os, on)) := by
  show TB sz by_ (fM_encode_53 N a1 a2 (nn (eC E)) (nn (eG E)) cnt (ePar E) (eOwn E) (eLet E) (eSor E) (eTar E) (eKin E) held sz by_ (fM_encode_53l N a1 a2 (nn (eC E)) (nn (eG E)) cnt (ePar E) (eOwn E) (eLet E) (eSor E) (eTar E) (eKin E) held sz by_ q) x true y g oo os on)
  unfold fM_encode_53
  by_cases h : y ≤ 0
  · rw [if_pos h, if_pos rfl]; exact ⟨x, y, g, oo, os, on, rfl⟩
  · rw [if_neg h, if_pos rfl, if_pos rfl]; exact ⟨x, y, g, oo, os, on, rfl⟩
theorem lp_step {E : En} {N : Nat} {a1 a2 cnt sz : Int32} {held : AJ} {by_ : AI} {k o i : Nat} (hk : k < 5) (ho : o < 12) (q : Nat) (n : Int32) (g oo os on : AI) (hoo : oo k = nn o) (hon : on k = nn i) : fM_encode_53l N a1 a2 (nn (eC E)) (nn (eG E)) cnt (ePar E) (eOwn E) (eLet E) (eSor E) (eTar E) (eKin E) held sz by_ (q + 1) (n, false, nn (k + 1), g, oo, os, on) = (fM_nth N (eKin E o) (nn i) (nn (eC E)) (nn (eG E)) (ePar E) (eOwn E)).bind fun u => if 0 ≤ u then ((fM_element N (nn o) u n false (nn (k + 1)) (eLet E) (eSor E) (eTar E) (eKin E) held g oo os (upd on k (nn (i + 1)))).bind fun w => fM_encode_53l N a1 a2 (nn (eC E)) (nn (eG E)) cnt (ePar E) (eOwn E) (eLet E) (eSor E) (eTar E) (eKin E) held sz by_ q w) else ((fM_end n false (nn (k + 1)) g os).bind fun w => fM_encode_53l N a1 a2 (nn (eC E)) (nn (eG E)) cnt (ePar E) (eOwn E) (eLet E) (eSor E) (eTar E) (eKin E) held sz by_ q (w.1, w.2.1, w.2.2.1, w.2.2.2, oo, os, upd on k (nn (i + 1)))) := by
  show fM_encode_53 N a1 a2 (nn (eC E)) (nn (eG E)) cnt (ePar E) (eOwn E) (eLet E) (eSor E) (eTar E) (eKin E) held sz by_ (fM_encode_53l N a1 a2 (nn (eC E)) (nn (eG E)) cnt (ePar E) (eOwn E) (eLet E) (eSor E) (eTar E) (eKin E) held sz by_ q) n false (nn (k + 1)) g oo os on = _
  unfold fM_encode_53
  have hok : ok (nn k) 5 = true := nn_okt (by omega) hk
  have hok2 : ok (nn o) 12 = true := nn_okt (by omega) ho
  rw [if_neg (by rw [show (0 : Int32) = nn 0 from rfl, nn_le (by omega) (by omega)]; omega), if_neg (by decide)]
  simp only [nn_p, if_pos hok, nn_c (show k < 2147483648 by omega), hoo, if_pos hok2, nn_c (show o < 2147483648 by omega), hon, nn_s]
theorem lp_elF {E : En} {N : Nat} {a1 a2 cnt sz : Int32} {held : AJ} {by_ : AI} {k o i p : Nat} (hE : gE E) (hN : 10 ≤ N) (hk : k < 5) (ho : o < eO E) (hi : i < 2147483648) (hp : (kinL E (eKin E o) (eC E))[i]? = some p) (q : Nat) (n : Int32) (g oo os on : AI) (hoo : oo k = nn o) (hon : on k = nn i) : fM_encode_53l N a1 a2 (nn (eC E)) (nn (eG E)) cnt (ePar E) (eOwn E) (eLet E) (eSor E) (eTar E) (eKin E) held sz by_ (q + 1) (n, false, nn (k + 1), g, oo, os, on) = (fM_element N (nn o) (nn p) n false (nn (k + 1)) (eLet E) (eSor E) (eTar E) (eKin E) held g oo os (upd on k (nn (i + 1)))).bind fun w => fM_encode_53l N a1 a2 (nn (eC E)) (nn (eG E)) cnt (ePar E) (eOwn E) (eLet E) (eSor E) (eTar E) (eKin E) held sz by_ q w := by
  have hO := hE.2.1
  have hpm := kin_mem (List.mem_of_getElem? hp)
  rw [lp_step hk (by omega) q n g oo os on hoo hon, m_nth hE hN (Or.inr (hE.2.2.1 o ho)) hi, hp, o_bind]
  dsimp only
  rw [if_pos (nn_ge0 (by omega))]
theorem lp_elE {E : En} {N : Nat} {a1 a2 cnt sz : Int32} {held : AJ} {by_ : AI} {k o i : Nat} (hE : gE E) (hN : 10 ≤ N) (hk : k < 5) (ho : o < eO E) (hi : i < 2147483648) (hp : (kinL E (eKin E o) (eC E))[i]? = none) (q : Nat) (n : Int32) (g oo os on : AI) (hoo : oo k = nn o) (hon : on k = nn i) : fM_encode_53l N a1 a2 (nn (eC E)) (nn (eG E)) cnt (ePar E) (eOwn E) (eLet E) (eSor E) (eTar E) (eKin E) held sz by_ (q + 1) (n, false, nn (k + 1), g, oo, os, on) = (fM_end n false (nn (k + 1)) g os).bind fun w => fM_encode_53l N a1 a2 (nn (eC E)) (nn (eG E)) cnt (ePar E) (eOwn E) (eLet E) (eSor E) (eTar E) (eKin E) held sz by_ q (w.1, w.2.1, w.2.2.1, w.2.2.2, oo, os, upd on k (nn (i + 1))) := by
  have hO := hE.2.1
  rw [lp_step hk (by omega) q n g oo os on hoo hon, m_nth hE hN (Or.inr (hE.2.2.1 o ho)) hi, hp, o_bind]
  dsimp only
  rw [if_neg (by decide)]
theorem pat_fin (g : AI) (s : Nat) (pre l : List Int32) (x : Nat) (hx : x = 4 + pre.length + l.length + 1) : pat s x (wr g s (0 :: 0 :: 0 :: 0 :: (pre ++ l ++ [0]))) = wr g s (finL pre l) := by
  unfold pat
  rw [over4, hx]
  rfl
def kept (k : Nat) (oo os on oo' os' on' : AI) : Prop := ∀ x, x < k → oo' x = oo x ∧ os' x = os x ∧ on' x = on x
theorem drop_head {α : Type} {l : List α} {i : Nat} {p : α} {ps : List α} (h : l.drop i = p :: ps) : l[i]? = some p ∧ l.drop (i + 1) = ps ∧ i + 1 ≤ l.length := by
  have e : l[i]? = some p := by
    have := List.getElem?_drop (xs := l) (i := i) (j := 0)
    rw [h, Nat.add_zero] at this
    exact this.symm
  refine ⟨e, ?_, (List.getElem?_eq_some_iff.mp e).1⟩
  rw [← List.tail_drop, h]
  rfl
theorem drop_nil {α : Type} {l : List α} {i : Nat} (h : l.drop i = []) : l[i]? = none := by
  rw [List.getElem?_eq_none_iff]
  exact List.drop_eq_nil_iff.mp h
theorem upd_at (f : AI) (k : Nat) (v : Int32) : upd f k v k = v := by unfold upd; rw [if_pos rfl]
theorem upd_ne (f : AI) {k x : Nat} (v : Int32) (h : x ≠ k) : upd f k v x = f x := by unfold upd; rw [if_neg h]
/-- no element is left -/
theorem fr_nil {E : En} (hE : gE E) {N : Nat} (hN : 10 ≤ N) {a1 a2 cnt sz : Int32} {held : AJ} (hh : hH E held) {by_ : AI} {k : Nat} (hk : k < 5) {rec : Nat → Int32 → Option (List Int32)} : ∀ (o st i n : Nat) (g oo os on : AI), o < eO E → (kinL E (eKin E o) (eC E)).drop i = [] → i ≤ (kinL E (eKin E o) (eC E)).length → oo k = nn o → os k = nn st → on k = nn i → st + 4 ≤ n → n ≤ 120 →
    (∀ l, esL E rec o [] = some l → n + l.length + 1 ≤ 120 → ∃ j oo' os' on', j ≤ l.length + 1 ∧ kept k oo os on oo' os' on' ∧ ∀ q, fM_encode_53l N a1 a2 (nn (eC E)) (nn (eG E)) cnt (ePar E) (eOwn E) (eLet E) (eSor E) (eTar E) (eKin E) held sz by_ (q + j) (nn n, false, nn (k + 1), g, oo, os, on) = fM_encode_53l N a1 a2 (nn (eC E)) (nn (eG E)) cnt (ePar E) (eOwn E) (eLet E) (eSor E) (eTar E) (eKin E) held sz by_ q (nn (n + l.length + 1), false, nn k, pat st (n + l.length + 1 - st) (wr g n (l ++ [0])), oo', os', on')) ∧
    ((∀ l, esL E rec o [] = some l → ¬ n + l.length + 1 ≤ 120) → ∃ j, j ≤ 124 - n ∧ ∀ q, TB sz by_ (fM_encode_53l N a1 a2 (nn (eC E)) (nn (eG E)) cnt (ePar E) (eOwn E) (eLet E) (eSor E) (eTar E) (eKin E) held sz by_ (q + j) (nn n, false, nn (k + 1), g, oo, os, on))) := by
  intro o st i n g oo os on ho hdr hi hoo hos hon hst hn
  have hC := hE.1.1
  have hlen := kin_len E (eKin E o) (eC E)
  have hnone := drop_nil hdr
  constructor
  · intro l hl hb
    cases hl
    refine ⟨1, oo, os, upd on k (nn (i + 1)), Nat.le_refl _, fun x hx => ⟨rfl, rfl, upd_ne _ _ (by omega)⟩, fun q => ?_⟩
    simp only [List.length_nil, Nat.add_zero] at hb
    rw [lp_elE hE hN hk ho (by omega) hnone q _ g oo os on hoo hon, m_end hk hst (by omega) g os hos, o_bind]
    rfl
  · intro hl
    have h120 : n = 120 := by
      have := hl [] rfl
      simp only [List.length_nil, Nat.add_zero] at this
      omega
    refine ⟨2, by omega, fun q => ?_⟩
    rw [show q + 2 = (q + 1) + 1 from rfl, lp_elE hE hN hk ho (by omega) hnone (q + 1) _ g oo os on hoo hon]
    obtain ⟨x, g', e⟩ := m_endF hk hst h120 g os hos
    rw [e, o_bind]
    exact lp_fail q _ _ _ _ _ _
/-- an element that is written at once -/
theorem fr_plain {E : En} (hE : gE E) {N : Nat} (hN : 10 ≤ N) {a1 a2 cnt sz : Int32} {held : AJ} (hh : hH E held) {by_ : AI} {k : Nat} (hk : k < 5) {rec : Nat → Int32 → Option (List Int32)} {p : Nat} {ps : List Nat} (ihp : ∀ (o st i n : Nat) (g oo os on : AI), o < eO E → (kinL E (eKin E o) (eC E)).drop i = ps → i ≤ (kinL E (eKin E o) (eC E)).length → oo k = nn o → os k = nn st → on k = nn i → st + 4 ≤ n → n ≤ 120 →
    (∀ l, esL E rec o ps = some l → n + l.length + 1 ≤ 120 → ∃ j oo' os' on', j ≤ l.length + 1 ∧ kept k oo os on oo' os' on' ∧ ∀ q, fM_encode_53l N a1 a2 (nn (eC E)) (nn (eG E)) cnt (ePar E) (eOwn E) (eLet E) (eSor E) (eTar E) (eKin E) held sz by_ (q + j) (nn n, false, nn (k + 1), g, oo, os, on) = fM_encode_53l N a1 a2 (nn (eC E)) (nn (eG E)) cnt (ePar E) (eOwn E) (eLet E) (eSor E) (eTar E) (eKin E) held sz by_ q (nn (n + l.length + 1), false, nn k, pat st (n + l.length + 1 - st) (wr g n (l ++ [0])), oo', os', on')) ∧
    ((∀ l, esL E rec o ps = some l → ¬ n + l.length + 1 ≤ 120) → ∃ j, j ≤ 124 - n ∧ ∀ q, TB sz by_ (fM_encode_53l N a1 a2 (nn (eC E)) (nn (eG E)) cnt (ePar E) (eOwn E) (eLet E) (eSor E) (eTar E) (eKin E) held sz by_ (q + j) (nn n, false, nn (k + 1), g, oo, os, on)))) (o st i n : Nat) (g oo os on : AI) (ho : o < eO E) (hdr : (kinL E (eKin E o) (eC E)).drop i = p :: ps) (hoo : oo k = nn o) (hos : os k = nn st) (hon : on k = nn i) (hst : st + 4 ≤ n) (hn : n ≤ 120) (hpl : ¬ eSor E p = 3 ∨ ePrt E (8 * o + p) = -1) :
    (∀ l, esL E rec o (p :: ps) = some l → n + l.length + 1 ≤ 120 → ∃ j oo' os' on', j ≤ l.length + 1 ∧ kept k oo os on oo' os' on' ∧ ∀ q, fM_encode_53l N a1 a2 (nn (eC E)) (nn (eG E)) cnt (ePar E) (eOwn E) (eLet E) (eSor E) (eTar E) (eKin E) held sz by_ (q + j) (nn n, false, nn (k + 1), g, oo, os, on) = fM_encode_53l N a1 a2 (nn (eC E)) (nn (eG E)) cnt (ePar E) (eOwn E) (eLet E) (eSor E) (eTar E) (eKin E) held sz by_ q (nn (n + l.length + 1), false, nn k, pat st (n + l.length + 1 - st) (wr g n (l ++ [0])), oo', os', on')) ∧
    ((∀ l, esL E rec o (p :: ps) = some l → ¬ n + l.length + 1 ≤ 120) → ∃ j, j ≤ 124 - n ∧ ∀ q, TB sz by_ (fM_encode_53l N a1 a2 (nn (eC E)) (nn (eG E)) cnt (ePar E) (eOwn E) (eLet E) (eSor E) (eTar E) (eKin E) held sz by_ (q + j) (nn n, false, nn (k + 1), g, oo, os, on))) := by
  have hC := hE.1.1
  have hlen := kin_len E (eKin E o) (eC E)
  obtain ⟨hp, hd2, hi2⟩ := drop_head hdr
  have hpm := kin_mem (List.mem_of_getElem? hp)
  obtain ⟨e, op, h1, h2, h3, h4⟩ := m_plain hE hh rec hN ho hpm.1 hpl
  have step : ∀ q, fM_encode_53l N a1 a2 (nn (eC E)) (nn (eG E)) cnt (ePar E) (eOwn E) (eLet E) (eSor E) (eTar E) (eKin E) held sz by_ (q + 1) (nn n, false, nn (k + 1), g, oo, os, on) = (op (nn n) false g).bind fun u => fM_encode_53l N a1 a2 (nn (eC E)) (nn (eG E)) cnt (ePar E) (eOwn E) (eLet E) (eSor E) (eTar E) (eKin E) held sz by_ q (u.1, u.2.1, nn (k + 1), u.2.2, oo, os, upd on k (nn (i + 1))) := by
    intro q
    rw [lp_elF hE hN hk ho (by omega) hp q _ g oo os on hoo hon, h4, Option.bind_assoc]
    rfl
  have hes : esL E rec o (p :: ps) = (esL E rec o ps).map fun l2 => e ++ l2 := by
    show (elL E rec o p).bind _ = _
    rw [h1]; rfl
  by_cases hb : n + e.length ≤ 120
  · have hop := (h2.1 n g hn).1 hb
    obtain ⟨i1, i2⟩ := ihp o st (i + 1) (n + e.length) (wr g n e) oo os (upd on k (nn (i + 1))) ho hd2 hi2 hoo hos (upd_at _ _ _) (by omega) hb
    constructor
    · intro l hl hbl
      rw [hes] at hl
      cases hes2 : esL E rec o ps with
      | none => rw [hes2] at hl; cases hl
      | some l2 =>
        rw [hes2] at hl
        cases hl
        rw [List.length_append] at hbl
        obtain ⟨j, oo', os', on', j1, j2, j3⟩ := i1 l2 hes2 (by omega)
        refine ⟨j + 1, oo', os', on', by rw [List.length_append]; omega, fun x hx => ?_, fun q => ?_⟩
        · obtain ⟨k1, k2, k3⟩ := j2 x hx
          exact ⟨k1, k2, by rw [k3, upd_ne _ _ (by omega)]⟩
        · rw [show q + (j + 1) = (q + j) + 1 by omega, step, hop, o_bind]
          dsimp only
          rw [j3, List.length_append, List.append_assoc, wr_app e (l2 ++ [0]), show n + e.length + l2.length + 1 = n + (e.length + l2.length) + 1 by omega]
    · intro hl
      have : ∀ l, esL E rec o ps = some l → ¬ n + e.length + l.length + 1 ≤ 120 := by
        intro l2 h
        have := hl (e ++ l2) (by rw [hes, h]; rfl)
        rw [List.length_append] at this
        omega
      obtain ⟨j, j1, j2⟩ := i2 this
      refine ⟨j + 1, by omega, fun q => ?_⟩
      rw [show q + (j + 1) = (q + j) + 1 by omega, step, hop, o_bind]
      exact j2 q
  · obtain ⟨m, g', hm, hop⟩ := (h2.1 n g hn).2 hb
    constructor
    · intro l hl hbl
      rw [hes] at hl
      cases hes2 : esL E rec o ps with
      | none => rw [hes2] at hl; cases hl
      | some l2 =>
        rw [hes2] at hl
        cases hl
        rw [List.length_append] at hbl
        omega
    · intro _
      refine ⟨2, by omega, fun q => ?_⟩
      rw [show q + 2 = (q + 1) + 1 from rfl, step, hop, o_bind]
      exact lp_fail q _ _ _ _ _ _
/-- a link at the deepest level -/
theorem fr_cons0 {E : En} (hE : gE E) {N : Nat} (hN : 10 ≤ N) {a1 a2 cnt sz : Int32} {held : AJ} (hh : hH E held) {by_ : AI} {k : Nat} (hk : k = 4) {p : Nat} {ps : List Nat} (ihp : ∀ (o st i n : Nat) (g oo os on : AI), o < eO E → (kinL E (eKin E o) (eC E)).drop i = ps → i ≤ (kinL E (eKin E o) (eC E)).length → oo k = nn o → os k = nn st → on k = nn i → st + 4 ≤ n → n ≤ 120 →
    (∀ l, esL E (docL E 0) o ps = some l → n + l.length + 1 ≤ 120 → ∃ j oo' os' on', j ≤ l.length + 1 ∧ kept k oo os on oo' os' on' ∧ ∀ q, fM_encode_53l N a1 a2 (nn (eC E)) (nn (eG E)) cnt (ePar E) (eOwn E) (eLet E) (eSor E) (eTar E) (eKin E) held sz by_ (q + j) (nn n, false, nn (k + 1), g, oo, os, on) = fM_encode_53l N a1 a2 (nn (eC E)) (nn (eG E)) cnt (ePar E) (eOwn E) (eLet E) (eSor E) (eTar E) (eKin E) held sz by_ q (nn (n + l.length + 1), false, nn k, pat st (n + l.length + 1 - st) (wr g n (l ++ [0])), oo', os', on')) ∧
    ((∀ l, esL E (docL E 0) o ps = some l → ¬ n + l.length + 1 ≤ 120) → ∃ j, j ≤ 124 - n ∧ ∀ q, TB sz by_ (fM_encode_53l N a1 a2 (nn (eC E)) (nn (eG E)) cnt (ePar E) (eOwn E) (eLet E) (eSor E) (eTar E) (eKin E) held sz by_ (q + j) (nn n, false, nn (k + 1), g, oo, os, on)))) : ∀ (o st i n : Nat) (g oo os on : AI), o < eO E → (kinL E (eKin E o) (eC E)).drop i = (p :: ps) → i ≤ (kinL E (eKin E o) (eC E)).length → oo k = nn o → os k = nn st → on k = nn i → st + 4 ≤ n → n ≤ 120 →
    (∀ l, esL E (docL E 0) o (p :: ps) = some l → n + l.length + 1 ≤ 120 → ∃ j oo' os' on', j ≤ l.length + 1 ∧ kept k oo os on oo' os' on' ∧ ∀ q, fM_encode_53l N a1 a2 (nn (eC E)) (nn (eG E)) cnt (ePar E) (eOwn E) (eLet E) (eSor E) (eTar E) (eKin E) held sz by_ (q + j) (nn n, false, nn (k + 1), g, oo, os, on) = fM_encode_53l N a1 a2 (nn (eC E)) (nn (eG E)) cnt (ePar E) (eOwn E) (eLet E) (eSor E) (eTar E) (eKin E) held sz by_ q (nn (n + l.length + 1), false, nn k, pat st (n + l.length + 1 - st) (wr g n (l ++ [0])), oo', os', on')) ∧
    ((∀ l, esL E (docL E 0) o (p :: ps) = some l → ¬ n + l.length + 1 ≤ 120) → ∃ j, j ≤ 124 - n ∧ ∀ q, TB sz by_ (fM_encode_53l N a1 a2 (nn (eC E)) (nn (eG E)) cnt (ePar E) (eOwn E) (eLet E) (eSor E) (eTar E) (eKin E) held sz by_ (q + j) (nn n, false, nn (k + 1), g, oo, os, on))) := by
  intro o st i n g oo os on ho hdr hi hoo hos hon hst hn
  have hC := hE.1.1
  have hO := hE.2.1
  have hlen := kin_len E (eKin E o) (eC E)
  obtain ⟨hp, hd2, hi2⟩ := drop_head hdr
  have hpm := kin_mem (List.mem_of_getElem? hp)
  by_cases hpl : ¬ eSor E p = 3 ∨ ePrt E (8 * o + p) = -1
  · exact fr_plain hE hN hh (by omega) ihp o st i n g oo os on ho hdr hoo hos hon hst hn hpl
  · have h3 : eSor E p = 3 := Classical.not_not.mp (fun z => hpl (Or.inl z))
    obtain ⟨x, hx, ex⟩ : ∃ x, x < eO E ∧ ePrt E (8 * o + p) = nn x := (hE.2.2.2 o p ho hpm.1 h3).resolve_left (fun z => hpl (Or.inr z))
    obtain ⟨h1, h4⟩ := m_linkE (N := N) hE hh (docL E 0) ho hpm.1 h3 hx ex
    have hes : esL E (docL E 0) o (p :: ps) = none := by
      show (elL E (docL E 0) o p).bind _ = _
      rw [h1]; rfl
    refine ⟨fun l hl => (by rw [hes] at hl; cases hl), fun _ => ⟨2, by omega, fun q => ?_⟩⟩
    rw [show q + 2 = (q + 1) + 1 from rfl, lp_elF hE hN (by omega) ho (by omega) hp (q + 1) _ g oo os on hoo hon, h4, Option.bind_assoc]
    have : ∃ u, m_hd 3 (eLet E p) (nn n) false g = some u := by
      by_cases hb : n + 3 ≤ 120
      · exact ⟨_, ((m_hdW 3 (eLet E p)).1 n g hn).1 hb⟩
      · obtain ⟨m, g', _, e⟩ := ((m_hdW 3 (eLet E p)).1 n g hn).2 hb
        exact ⟨_, e⟩
    obtain ⟨u, eu⟩ := this
    rw [eu, o_bind, m_begin5 (by omega) (by omega), o_bind]
    exact lp_fail q _ _ _ _ _ _
/-- a link at a level above -/
theorem fr_cons {E : En} (hE : gE E) {N : Nat} (hN : 10 ≤ N) {a1 a2 cnt sz : Int32} {held : AJ} (hh : hH E held) {by_ : AI} {k r : Nat} (hk : k + 1 < 5) (ih : ∀ ps : List Nat, ∀ (o st i n : Nat) (g oo os on : AI), o < eO E → (kinL E (eKin E o) (eC E)).drop i = ps → i ≤ (kinL E (eKin E o) (eC E)).length → oo (k + 1) = nn o → os (k + 1) = nn st → on (k + 1) = nn i → st + 4 ≤ n → n ≤ 120 →
    (∀ l, esL E (docL E r) o ps = some l → n + l.length + 1 ≤ 120 → ∃ j oo' os' on', j ≤ l.length + 1 ∧ kept (k + 1) oo os on oo' os' on' ∧ ∀ q, fM_encode_53l N a1 a2 (nn (eC E)) (nn (eG E)) cnt (ePar E) (eOwn E) (eLet E) (eSor E) (eTar E) (eKin E) held sz by_ (q + j) (nn n, false, nn ((k + 1) + 1), g, oo, os, on) = fM_encode_53l N a1 a2 (nn (eC E)) (nn (eG E)) cnt (ePar E) (eOwn E) (eLet E) (eSor E) (eTar E) (eKin E) held sz by_ q (nn (n + l.length + 1), false, nn (k + 1), pat st (n + l.length + 1 - st) (wr g n (l ++ [0])), oo', os', on')) ∧
    ((∀ l, esL E (docL E r) o ps = some l → ¬ n + l.length + 1 ≤ 120) → ∃ j, j ≤ 124 - n ∧ ∀ q, TB sz by_ (fM_encode_53l N a1 a2 (nn (eC E)) (nn (eG E)) cnt (ePar E) (eOwn E) (eLet E) (eSor E) (eTar E) (eKin E) held sz by_ (q + j) (nn n, false, nn ((k + 1) + 1), g, oo, os, on)))) {p : Nat} {ps : List Nat} (ihp : ∀ (o st i n : Nat) (g oo os on : AI), o < eO E → (kinL E (eKin E o) (eC E)).drop i = ps → i ≤ (kinL E (eKin E o) (eC E)).length → oo k = nn o → os k = nn st → on k = nn i → st + 4 ≤ n → n ≤ 120 →
    (∀ l, esL E (docL E (r + 1)) o ps = some l → n + l.length + 1 ≤ 120 → ∃ j oo' os' on', j ≤ l.length + 1 ∧ kept k oo os on oo' os' on' ∧ ∀ q, fM_encode_53l N a1 a2 (nn (eC E)) (nn (eG E)) cnt (ePar E) (eOwn E) (eLet E) (eSor E) (eTar E) (eKin E) held sz by_ (q + j) (nn n, false, nn (k + 1), g, oo, os, on) = fM_encode_53l N a1 a2 (nn (eC E)) (nn (eG E)) cnt (ePar E) (eOwn E) (eLet E) (eSor E) (eTar E) (eKin E) held sz by_ q (nn (n + l.length + 1), false, nn k, pat st (n + l.length + 1 - st) (wr g n (l ++ [0])), oo', os', on')) ∧
    ((∀ l, esL E (docL E (r + 1)) o ps = some l → ¬ n + l.length + 1 ≤ 120) → ∃ j, j ≤ 124 - n ∧ ∀ q, TB sz by_ (fM_encode_53l N a1 a2 (nn (eC E)) (nn (eG E)) cnt (ePar E) (eOwn E) (eLet E) (eSor E) (eTar E) (eKin E) held sz by_ (q + j) (nn n, false, nn (k + 1), g, oo, os, on)))) : ∀ (o st i n : Nat) (g oo os on : AI), o < eO E → (kinL E (eKin E o) (eC E)).drop i = (p :: ps) → i ≤ (kinL E (eKin E o) (eC E)).length → oo k = nn o → os k = nn st → on k = nn i → st + 4 ≤ n → n ≤ 120 →
    (∀ l, esL E (docL E (r + 1)) o (p :: ps) = some l → n + l.length + 1 ≤ 120 → ∃ j oo' os' on', j ≤ l.length + 1 ∧ kept k oo os on oo' os' on' ∧ ∀ q, fM_encode_53l N a1 a2 (nn (eC E)) (nn (eG E)) cnt (ePar E) (eOwn E) (eLet E) (eSor E) (eTar E) (eKin E) held sz by_ (q + j) (nn n, false, nn (k + 1), g, oo, os, on) = fM_encode_53l N a1 a2 (nn (eC E)) (nn (eG E)) cnt (ePar E) (eOwn E) (eLet E) (eSor E) (eTar E) (eKin E) held sz by_ q (nn (n + l.length + 1), false, nn k, pat st (n + l.length + 1 - st) (wr g n (l ++ [0])), oo', os', on')) ∧
    ((∀ l, esL E (docL E (r + 1)) o (p :: ps) = some l → ¬ n + l.length + 1 ≤ 120) → ∃ j, j ≤ 124 - n ∧ ∀ q, TB sz by_ (fM_encode_53l N a1 a2 (nn (eC E)) (nn (eG E)) cnt (ePar E) (eOwn E) (eLet E) (eSor E) (eTar E) (eKin E) held sz by_ (q + j) (nn n, false, nn (k + 1), g, oo, os, on))) := by
  intro o st i n g oo os on ho hdr hi hoo hos hon hst hn
  have hC := hE.1.1
  have hO := hE.2.1
  have hlen := kin_len E (eKin E o) (eC E)
  obtain ⟨hp, hd2, hi2⟩ := drop_head hdr
  have hpm := kin_mem (List.mem_of_getElem? hp)
  by_cases hpl : ¬ eSor E p = 3 ∨ ePrt E (8 * o + p) = -1
  · exact fr_plain hE hN hh (by omega) ihp o st i n g oo os on ho hdr hoo hos hon hst hn hpl
  · have h3 : eSor E p = 3 := Classical.not_not.mp (fun z => hpl (Or.inl z))
    obtain ⟨x, hx, ex⟩ : ∃ x, x < eO E ∧ ePrt E (8 * o + p) = nn x := (hE.2.2.2 o p ho hpm.1 h3).resolve_left (fun z => hpl (Or.inr z))
    obtain ⟨h1, h4⟩ := m_linkE (N := N) hE hh (docL E (r + 1)) ho hpm.1 h3 hx ex
    have step : ∀ q, fM_encode_53l N a1 a2 (nn (eC E)) (nn (eG E)) cnt (ePar E) (eOwn E) (eLet E) (eSor E) (eTar E) (eKin E) held sz by_ (q + 1) (nn n, false, nn (k + 1), g, oo, os, on) = (m_hd 3 (eLet E p) (nn n) false g).bind fun u => ((m_bg N (eKin E x) (eTar E p) u.1 u.2.1 u.2.2).bind fun w => fM_encode_53l N a1 a2 (nn (eC E)) (nn (eG E)) cnt (ePar E) (eOwn E) (eLet E) (eSor E) (eTar E) (eKin E) held sz by_ q (w.1, w.2.1, nn (k + 1 + 1), w.2.2, upd oo (k + 1) (nn x), upd os (k + 1) u.1, upd (upd on k (nn (i + 1))) (k + 1) 0)) := by
      intro q
      rw [lp_elF hE hN (by omega) ho (by omega) hp q _ g oo os on hoo hon, h4, Option.bind_assoc]
      congr 1
      funext u
      rw [m_begin hk (by omega), Option.bind_assoc]
      rfl
    have hes : esL E (docL E (r + 1)) o (p :: ps) = ((docL E (r + 1) x (eTar E p)).map (fun l => hd E 3 p ++ l)).bind fun l1 => (esL E (docL E (r + 1)) o ps).map fun l2 => l1 ++ l2 := by
      show (elL E (docL E (r + 1)) o p).bind _ = _
      rw [h1]
    rw [docL_s] at hes
    have hmk : (if eKin E x = eTar E p then [] else [2, 95, 116, 0, 2, 0, 0, 0, 65 + eKin E x, 0]) = mkL E x (eTar E p) := rfl
    have hbg := m_bgW hN (eKin E x) (eTar E p)
    rw [hmk] at hbg
    generalize mkL E x (eTar E p) = mk at hes hbg
    generalize hL : esL E (docL E r) x (kinL E (eKin E x) (eC E)) = L at hes
    -- a failure at once
    have failed : (∀ l, esL E (docL E (r + 1)) o (p :: ps) = some l → ¬ n + l.length + 1 ≤ 120) → (∃ j, j ≤ 124 - n ∧ ∀ q, TB sz by_ (fM_encode_53l N a1 a2 (nn (eC E)) (nn (eG E)) cnt (ePar E) (eOwn E) (eLet E) (eSor E) (eTar E) (eKin E) held sz by_ (q + j) (nn n, false, nn (k + 1), g, oo, os, on))) →
        (∀ l, esL E (docL E (r + 1)) o (p :: ps) = some l → n + l.length + 1 ≤ 120 → ∃ j oo' os' on', j ≤ l.length + 1 ∧ kept k oo os on oo' os' on' ∧ ∀ q, fM_encode_53l N a1 a2 (nn (eC E)) (nn (eG E)) cnt (ePar E) (eOwn E) (eLet E) (eSor E) (eTar E) (eKin E) held sz by_ (q + j) (nn n, false, nn (k + 1), g, oo, os, on) = fM_encode_53l N a1 a2 (nn (eC E)) (nn (eG E)) cnt (ePar E) (eOwn E) (eLet E) (eSor E) (eTar E) (eKin E) held sz by_ q (nn (n + l.length + 1), false, nn k, pat st (n + l.length + 1 - st) (wr g n (l ++ [0])), oo', os', on')) ∧
        ((∀ l, esL E (docL E (r + 1)) o (p :: ps) = some l → ¬ n + l.length + 1 ≤ 120) → ∃ j, j ≤ 124 - n ∧ ∀ q, TB sz by_ (fM_encode_53l N a1 a2 (nn (eC E)) (nn (eG E)) cnt (ePar E) (eOwn E) (eLet E) (eSor E) (eTar E) (eKin E) held sz by_ (q + j) (nn n, false, nn (k + 1), g, oo, os, on))) :=
      fun a b => ⟨fun l hl hb => absurd hb (a l hl), fun _ => b⟩
    have hlenL : ∀ l, esL E (docL E (r + 1)) o (p :: ps) = some l → ∃ l1 l2, L = some l1 ∧ esL E (docL E (r + 1)) o ps = some l2 ∧ l = hd E 3 p ++ finL mk l1 ++ l2 := by
      intro l hl
      rw [hes] at hl
      cases L with
      | none => cases hl
      | some l1 =>
        cases h2 : esL E (docL E (r + 1)) o ps with
        | none => rw [h2] at hl; cases hl
        | some l2 =>
          rw [h2] at hl
          cases hl
          exact ⟨l1, l2, rfl, rfl, rfl⟩
    have hlen3 : ∀ l1 l2 : List Int32, (hd E 3 p ++ finL mk l1 ++ l2).length = 3 + (4 + mk.length + l1.length + 1) + l2.length := by
      intro l1 l2
      rw [List.length_append, List.length_append, finL_len]
      rfl
    by_cases hb : n + 3 ≤ 120
    · have eh := ((m_hdW 3 (eLet E p)).1 n g hn).1 hb
      by_cases hb2 : n + 3 + (4 + mk.length) ≤ 120
      · have eb := (hbg.1 (n + 3) (wr g n [3, 97 + eLet E p, 0]) hb).1 (by rw [List.length_append]; exact hb2)
        have hq : ∀ q, fM_encode_53l N a1 a2 (nn (eC E)) (nn (eG E)) cnt (ePar E) (eOwn E) (eLet E) (eSor E) (eTar E) (eKin E) held sz by_ (q + 1) (nn n, false, nn (k + 1), g, oo, os, on) = fM_encode_53l N a1 a2 (nn (eC E)) (nn (eG E)) cnt (ePar E) (eOwn E) (eLet E) (eSor E) (eTar E) (eKin E) held sz by_ q (nn (n + 3 + (4 + mk.length)), false, nn (k + 1 + 1), wr (wr g n [3, 97 + eLet E p, 0]) (n + 3) ([0, 0, 0, 0] ++ mk), upd oo (k + 1) (nn x), upd os (k + 1) (nn (n + 3)), upd (upd on k (nn (i + 1))) (k + 1) 0) := by
          intro q
          rw [step, eh, o_bind]
          dsimp only
          rw [show (n + [3, 97 + eLet E p, 0].length) = n + 3 from rfl, eb, o_bind]
          dsimp only
          rw [List.length_append]
          rfl
        obtain ⟨i1, i2⟩ := ih (kinL E (eKin E x) (eC E)) x (n + 3) 0 (n + 3 + (4 + mk.length)) (wr (wr g n [3, 97 + eLet E p, 0]) (n + 3) ([0, 0, 0, 0] ++ mk)) (upd oo (k + 1) (nn x)) (upd os (k + 1) (nn (n + 3))) (upd (upd on k (nn (i + 1))) (k + 1) 0) hx rfl (Nat.zero_le _) (upd_at _ _ _) (upd_at _ _ _) (upd_at _ _ _) (by omega) hb2
        rw [hL] at i1 i2
        by_cases hin : ∀ l, L = some l → ¬ n + 3 + (4 + mk.length) + l.length + 1 ≤ 120
        · obtain ⟨j, j1, j2⟩ := i2 hin
          refine failed (fun l hl => ?_) ⟨j + 1, by omega, fun q => ?_⟩
          · obtain ⟨l1, l2, e1, e2, rfl⟩ := hlenL l hl
            have := hin l1 e1
            rw [hlen3]
            omega
          · rw [show q + (j + 1) = (q + j) + 1 by omega, hq]
            exact j2 q
        · obtain ⟨l1, hl1⟩ := Classical.not_forall.mp hin
          have eL : L = some l1 := Classical.byContradiction (fun z => hl1 (fun w => absurd w z))
          have hbl1 : n + 3 + (4 + mk.length) + l1.length + 1 ≤ 120 := Classical.byContradiction (fun z => hl1 (fun _ => z))
          obtain ⟨j, oo', os', on', j1, j2, j3⟩ := i1 l1 eL hbl1
          have hout : pat (n + 3) (n + 3 + (4 + mk.length) + l1.length + 1 - (n + 3)) (wr (wr (wr g n [3, 97 + eLet E p, 0]) (n + 3) ([0, 0, 0, 0] ++ mk)) (n + 3 + (4 + mk.length)) (l1 ++ [0])) = wr g n (hd E 3 p ++ finL mk l1) := by
            have e1 : wr (wr (wr g n [3, 97 + eLet E p, 0]) (n + 3) ([0, 0, 0, 0] ++ mk)) (n + 3 + (4 + mk.length)) (l1 ++ [0]) = wr (wr g n [3, 97 + eLet E p, 0]) (n + 3) (0 :: 0 :: 0 :: 0 :: (mk ++ l1 ++ [0])) := by
              have := wr_app ([0, 0, 0, 0] ++ mk) (l1 ++ [0]) (wr g n [3, 97 + eLet E p, 0]) (n + 3)
              rw [show n + 3 + ([0, 0, 0, 0] ++ mk : List Int32).length = n + 3 + (4 + mk.length) by rw [List.length_append]; rfl] at this
              rw [← this]
              simp only [List.cons_append, List.nil_append, List.append_assoc]
            rw [e1, pat_fin _ _ _ _ _ (by omega)]
            exact (wr_app [3, 97 + eLet E p, 0] (finL mk l1) g n).symm
          rw [hout] at j3
          obtain ⟨k1, k2, k3⟩ := j2 k (by omega)
          have hn2 : n + 3 + (4 + mk.length) + l1.length + 1 = n + (hd E 3 p ++ finL mk l1).length := by
            rw [List.length_append, finL_len, show (hd E 3 p).length = 3 from rfl]
            omega
          rw [hn2] at j3 hbl1
          obtain ⟨i3, i4⟩ := ihp o st (i + 1) (n + (hd E 3 p ++ finL mk l1).length) (wr g n (hd E 3 p ++ finL mk l1)) oo' os' on' ho hd2 hi2 (by rw [k1, upd_ne _ _ (by omega)]; exact hoo) (by rw [k2, upd_ne _ _ (by omega)]; exact hos) (by rw [k3, upd_ne _ _ (by omega), upd_at]) (by omega) hbl1
          have hlenA : (hd E 3 p ++ finL mk l1).length = 3 + (4 + mk.length + l1.length + 1) := by
            rw [List.length_append, finL_len]; rfl
          constructor
          · intro l hl hbl
            obtain ⟨l1', l2, e1, e2, rfl⟩ := hlenL l hl
            rw [eL] at e1
            cases e1
            rw [hlen3] at hbl
            obtain ⟨j', oo2, os2, on2, m1, m2, m3⟩ := i3 l2 e2 (by omega)
            refine ⟨j' + j + 1, oo2, os2, on2, by rw [hlen3]; omega, fun y hy => ?_, fun q => ?_⟩
            · obtain ⟨q1, q2, q3⟩ := m2 y hy
              obtain ⟨r1, r2, r3⟩ := j2 y (by omega)
              refine ⟨by rw [q1, r1, upd_ne _ _ (by omega)], by rw [q2, r2, upd_ne _ _ (by omega)], by rw [q3, r3, upd_ne _ _ (by omega), upd_ne _ _ (by omega)]⟩
            · rw [show q + (j' + j + 1) = (q + j' + j) + 1 by omega, hq, j3, m3]
              rw [List.length_append (as := hd E 3 p ++ finL mk l1) (bs := l2), List.append_assoc (hd E 3 p ++ finL mk l1) l2 [0], wr_app (hd E 3 p ++ finL mk l1) (l2 ++ [0]), show n + (hd E 3 p ++ finL mk l1).length + l2.length + 1 = n + ((hd E 3 p ++ finL mk l1).length + l2.length) + 1 by omega]
          · intro hl
            have : ∀ l2, esL E (docL E (r + 1)) o ps = some l2 → ¬ n + (hd E 3 p ++ finL mk l1).length + l2.length + 1 ≤ 120 := by
              intro l2 h2
              have := hl (hd E 3 p ++ finL mk l1 ++ l2) (by rw [hes, eL, h2]; rfl)
              rw [List.length_append] at this
              omega
            obtain ⟨j', m1, m2⟩ := i4 this
            refine ⟨j' + j + 1, by omega, fun q => ?_⟩
            rw [show q + (j' + j + 1) = (q + j' + j) + 1 by omega, hq, j3]
            exact m2 q
      · obtain ⟨m, g', hm, eb⟩ := (hbg.1 (n + 3) (wr g n [3, 97 + eLet E p, 0]) hb).2 (by rw [List.length_append]; exact hb2)
        refine failed (fun l hl => ?_) ⟨2, by omega, fun q => ?_⟩
        · obtain ⟨l1, l2, e1, e2, rfl⟩ := hlenL l hl
          rw [hlen3]
          omega
        · rw [show q + 2 = (q + 1) + 1 from rfl, step, eh, o_bind]
          dsimp only
          rw [show (n + [3, 97 + eLet E p, 0].length) = n + 3 from rfl, eb, o_bind]
          exact lp_fail q _ _ _ _ _ _
    · obtain ⟨m, g', hm, eh⟩ := ((m_hdW 3 (eLet E p)).1 n g hn).2 hb
      refine failed (fun l hl => ?_) ⟨2, by omega, fun q => ?_⟩
      · obtain ⟨l1, l2, e1, e2, rfl⟩ := hlenL l hl
        rw [hlen3]
        omega
      · rw [show q + 2 = (q + 1) + 1 from rfl, step, eh, o_bind]
        obtain ⟨m2, g2, hm2, eb⟩ := hbg.2 m g' hm
        dsimp only
        rw [eb, o_bind]
        exact lp_fail q _ _ _ _ _ _
theorem fr {E : En} (hE : gE E) {N : Nat} (hN : 10 ≤ N) {a1 a2 cnt sz : Int32} {held : AJ} (hh : hH E held) {by_ : AI} : ∀ (r k : Nat), k + 1 + r = 5 → ∀ (ps : List Nat) (o st i n : Nat) (g oo os on : AI), o < eO E → (kinL E (eKin E o) (eC E)).drop i = ps → i ≤ (kinL E (eKin E o) (eC E)).length → oo k = nn o → os k = nn st → on k = nn i → st + 4 ≤ n → n ≤ 120 →
    (∀ l, esL E (docL E r) o ps = some l → n + l.length + 1 ≤ 120 → ∃ j oo' os' on', j ≤ l.length + 1 ∧ kept k oo os on oo' os' on' ∧ ∀ q, fM_encode_53l N a1 a2 (nn (eC E)) (nn (eG E)) cnt (ePar E) (eOwn E) (eLet E) (eSor E) (eTar E) (eKin E) held sz by_ (q + j) (nn n, false, nn (k + 1), g, oo, os, on) = fM_encode_53l N a1 a2 (nn (eC E)) (nn (eG E)) cnt (ePar E) (eOwn E) (eLet E) (eSor E) (eTar E) (eKin E) held sz by_ q (nn (n + l.length + 1), false, nn k, pat st (n + l.length + 1 - st) (wr g n (l ++ [0])), oo', os', on')) ∧
    ((∀ l, esL E (docL E r) o ps = some l → ¬ n + l.length + 1 ≤ 120) → ∃ j, j ≤ 124 - n ∧ ∀ q, TB sz by_ (fM_encode_53l N a1 a2 (nn (eC E)) (nn (eG E)) cnt (ePar E) (eOwn E) (eLet E) (eSor E) (eTar E) (eKin E) held sz by_ (q + j) (nn n, false, nn (k + 1), g, oo, os, on))) := by
  have hC := hE.1.1
  have hO := hE.2.1
  intro r
  induction r with
  | zero =>
    intro k hk ps
    induction ps with
    | nil => exact fr_nil hE hN hh (by omega)
    | cons p ps ihp => exact fr_cons0 hE hN hh (by omega) ihp
  | succ r ih =>
    intro k hk ps
    induction ps with
    | nil => exact fr_nil hE hN hh (by omega)
    | cons p ps ihp => exact fr_cons hE hN hh (by omega) (ih (k + 1) (by omega)) ihp
