/-! the writer, the written program: a whole document -/
theorem esL_app (E : En) (rec : Nat → Int32 → Option (List Int32)) (o : Nat) : ∀ (l1 l2 : List Nat), esL E rec o (l1 ++ l2) = (esL E rec o l1).bind fun a => (esL E rec o l2).map fun b => a ++ b
  | [], l2 => by
    show esL E rec o l2 = (esL E rec o l2).map fun b => [] ++ b
    cases esL E rec o l2 <;> rfl
  | p :: l1, l2 => by
    show (elL E rec o p).bind (fun x => (esL E rec o (l1 ++ l2)).map fun y => x ++ y) = ((elL E rec o p).bind fun x => (esL E rec o l1).map fun y => x ++ y).bind fun a => (esL E rec o l2).map fun b => a ++ b
    rw [esL_app E rec o l1 l2]
    cases elL E rec o p with
    | none => rfl
    | some x =>
      cases esL E rec o l1 with
      | none => rfl
      | some a =>
        cases esL E rec o l2 with
        | none => rfl
        | some b => show some (x ++ (a ++ b)) = some (x ++ a ++ b); rw [List.append_assoc]
def kiL (E : En) (c : Int32) (k j : Nat) : List Nat := (List.range' k j).flatMap (fun k => if isK (ePar E) c (nn k) = true then ownL E k else [])
theorem doc_f {E : En} {rk : Int32 × Int32 × Int32 × Int32 × AI → Option (Bool × Int32 × AI)} {N : Nat} {a b c s v : Int32} (q : Nat) (i : Int32) {m : Nat} (hm : m ≤ 120) (g : AI) : Fo (fW_writeDocumentS_61l N rk a b c (nn (eC E)) (nn (eG E)) (ePar E) (eOwn E) (eLet E) (eSor E) (eTar E) (nn (eO E)) (eKin E) (eVal E) (ePrt E) s v (q + 1) (false, i, nn m, g)) := by
  show Fo (fW_writeDocumentS_61 N rk a b c (nn (eC E)) (nn (eG E)) (ePar E) (eOwn E) (eLet E) (eSor E) (eTar E) (nn (eO E)) (eKin E) (eVal E) (ePrt E) s v (fW_writeDocumentS_61l N rk a b c (nn (eC E)) (nn (eG E)) (ePar E) (eOwn E) (eLet E) (eSor E) (eTar E) (nn (eO E)) (eKin E) (eVal E) (ePrt E) s v q) false i (nn m) g)
  unfold fW_writeDocumentS_61
  by_cases h : v < i
  · rw [if_pos h, if_neg (by decide)]; exact Fo_i m hm g
  · rw [if_neg h, if_neg (by decide), if_neg (by decide)]; exact Fo_i m hm g
/-- a document's bytes: its length, four bytes, what stands before its elements, its elements, the end -/
def finL (pre l : List Int32) : List Int32 := nn (4 + pre.length + l.length + 1) :: 0 :: 0 :: 0 :: (pre ++ l ++ [0])
theorem finL_len (pre l : List Int32) : (finL pre l).length = 4 + pre.length + l.length + 1 := by
  unfold finL
  simp only [List.length_cons, List.length_append, List.length_nil]
  omega
theorem w_kin {E : En} (hE : gE E) {rec : Nat → Int32 → Option (List Int32)} {rk : Int32 × Int32 × Int32 × Int32 × AI → Option (Bool × Int32 × AI)} {d : Int32} (hR : Rk E rec rk (d + 1)) {N : Nat} (hN : 10 ≤ N) {o : Nat} (ho : o < eO E) (b : Int32) {c : Nat} (hc : c < eC E) (st : Nat) (g : AI) : ∀ (j k q : Nat) (pre : List Int32), k + j = c + 1 → j < q → st + 4 + pre.length ≤ 120 → Wo st g ((esL E rec o (kiL E (nn c) k j)).map (finL pre)) (fW_writeDocumentS_61l N rk (nn o) b d (nn (eC E)) (nn (eG E)) (ePar E) (eOwn E) (eLet E) (eSor E) (eTar E) (nn (eO E)) (eKin E) (eVal E) (ePrt E) (nn st) (nn c) q (true, nn k, nn (st + 4 + pre.length), wr g st (0 :: 0 :: 0 :: 0 :: pre))) := by
  have hC := hE.1.1
  intro j
  induction j with
  | zero =>
    intro k q pre hk hq hb
    obtain ⟨q, rfl⟩ : ∃ z, q = z + 1 := ⟨q - 1, by omega⟩
    show Wo st g _ (fW_writeDocumentS_61 N rk (nn o) b d (nn (eC E)) (nn (eG E)) (ePar E) (eOwn E) (eLet E) (eSor E) (eTar E) (nn (eO E)) (eKin E) (eVal E) (ePrt E) (nn st) (nn c) (fW_writeDocumentS_61l N rk (nn o) b d (nn (eC E)) (nn (eG E)) (ePar E) (eOwn E) (eLet E) (eSor E) (eTar E) (nn (eO E)) (eKin E) (eVal E) (ePrt E) (nn st) (nn c) q) true (nn k) (nn (st + 4 + pre.length)) (wr g st (0 :: 0 :: 0 :: 0 :: pre)))
    unfold fW_writeDocumentS_61
    rw [if_pos (by rw [nn_lt (by omega) (by omega)]; omega), if_pos rfl]
    show Wo st g (some (finL pre [])) _
    obtain ⟨u, e, h1, -⟩ := w_add hb (wr g st (0 :: 0 :: 0 :: 0 :: pre)) 0
    obtain ⟨h2, h3⟩ := h1 [0] rfl
    rw [e, o_bind]
    by_cases h : st + 4 + pre.length + 1 ≤ 120
    · have hu := h2 h
      rw [hu]
      dsimp only
      rw [if_pos rfl]
      have e4 : wr (wr g st (0 :: 0 :: 0 :: 0 :: pre)) (st + 4 + pre.length) [0] = wr g st (0 :: 0 :: 0 :: 0 :: (pre ++ [0])) := by
        have := wr_app (0 :: 0 :: 0 :: 0 :: pre) [0] g st
        rw [show st + (0 :: 0 :: 0 :: 0 :: pre : List Int32).length = st + 4 + pre.length by simp only [List.length_cons]; omega] at this
        exact this.symm
      have hr := b_len (N := N) (n := st + 4 + pre.length + 1) (a := st) hN h (by omega) g (pre ++ [0])
      rw [e4]
      show Wo st g (some (finL pre [])) ((fB_replaceNumber N (nn st) ((nn (st + 4 + pre.length + 1) - nn st).toInt64) (nn 4) (nn (st + 4 + pre.length + 1)) (wr g st (0 :: 0 :: 0 :: 0 :: (pre ++ [0])))).bind fun u147 => some (true, nn (st + 4 + pre.length + 1), u147))
      rw [hr, o_bind]
      refine ⟨_, rfl, fun l hl => ?_, fun hl => by cases hl⟩
      cases hl
      have hlen := finL_len pre []
      have hz : st + (finL pre []).length = st + 4 + pre.length + 1 := by rw [hlen]; simp only [List.length_nil]; omega
      refine ⟨fun _ => ?_, fun z => absurd (by rw [hz]; exact h) z⟩
      rw [hz]
      unfold finL
      rw [List.append_nil, show st + 4 + pre.length + 1 - st = 4 + pre.length + ([] : List Int32).length + 1 by simp only [List.length_nil]; omega]
    · obtain ⟨f1, m, hm, f2⟩ := h3 h
      rw [f1, if_neg (by decide), f2]
      refine ⟨_, rfl, fun l hl => ?_, fun hl => by cases hl⟩
      cases hl
      have hlen := finL_len pre []
      exact ⟨fun z => absurd z (by rw [hlen]; simp only [List.length_nil]; omega), fun _ => ⟨rfl, m, hm, rfl⟩⟩
  | succ j ih =>
    intro k q pre hk hq hb
    obtain ⟨q, rfl⟩ : ∃ z, q = z + 1 := ⟨q - 1, by omega⟩
    show Wo st g _ (fW_writeDocumentS_61 N rk (nn o) b d (nn (eC E)) (nn (eG E)) (ePar E) (eOwn E) (eLet E) (eSor E) (eTar E) (nn (eO E)) (eKin E) (eVal E) (ePrt E) (nn st) (nn c) (fW_writeDocumentS_61l N rk (nn o) b d (nn (eC E)) (nn (eG E)) (ePar E) (eOwn E) (eLet E) (eSor E) (eTar E) (nn (eO E)) (eKin E) (eVal E) (ePrt E) (nn st) (nn c) q) true (nn k) (nn (st + 4 + pre.length)) (wr g st (0 :: 0 :: 0 :: 0 :: pre)))
    unfold fW_writeDocumentS_61
    rw [if_neg (by rw [nn_lt (by omega) (by omega)]; omega), if_pos rfl, dK hC hE.1.2.2.1 (by omega) _ (Or.inr ⟨c, hc, rfl⟩), o_bind, nn_s]
    have hki : kiL E (nn c) k (j + 1) = (if isK (ePar E) (nn c) (nn k) = true then ownL E k else []) ++ kiL E (nn c) (k + 1) j := by
      unfold kiL
      rw [List.range'_succ, List.flatMap_cons]
    rw [hki]
    by_cases h : isK (ePar E) (nn c) (nn k) = true
    · rw [if_pos h, if_pos h, esL_app]
      obtain ⟨u, e, h1, h2⟩ := w_own hE hR hN ho k 8 0 N (st + 4 + pre.length) (wr g st (0 :: 0 :: 0 :: 0 :: pre)) (by omega) (by omega) hb
      rw [show fW_writeOwnProperties N rk (nn o) (nn k) d (nn (eC E)) (nn (eG E)) (ePar E) (eOwn E) (eLet E) (eSor E) (eTar E) (nn (eO E)) (eKin E) (eVal E) (ePrt E) (nn (st + 4 + pre.length)) (wr g st (0 :: 0 :: 0 :: 0 :: pre)) = some u from e, o_bind]
      obtain ⟨q, rfl⟩ : ∃ z, q = z + 1 := ⟨q - 1, by omega⟩
      have fail : Fl u → ∀ L : Option (List Int32), (∀ l, L = some l → ¬ st + l.length ≤ 120) → Wo st g L (if u.1 = true then fW_writeDocumentS_61l N rk (nn o) b d (nn (eC E)) (nn (eG E)) (ePar E) (eOwn E) (eLet E) (eSor E) (eTar E) (nn (eO E)) (eKin E) (eVal E) (ePrt E) (nn st) (nn c) (q + 1) (true, nn (k + 1), u.2.1, u.2.2) else fW_writeDocumentS_61l N rk (nn o) b d (nn (eC E)) (nn (eG E)) (ePar E) (eOwn E) (eLet E) (eSor E) (eTar E) (nn (eO E)) (eKin E) (eVal E) (ePrt E) (nn st) (nn c) (q + 1) (false, nn (k + 1), u.2.1, u.2.2)) := by
        rintro ⟨f1, m, hm, f2⟩ L hL
        rw [f1, if_neg (by decide), f2]
        obtain ⟨w, e, hw⟩ := doc_f (E := E) (rk := rk) (N := N) (a := nn o) (b := b) (c := d) (s := nn st) (v := nn c) q (nn (k + 1)) hm u.2.2
        exact ⟨w, e, fun l hl => ⟨fun z => absurd z (hL l hl), fun _ => hw⟩, fun _ => hw⟩
      change (∀ l, esL E rec o (ownL E k) = some l → _) at h1
      change (esL E rec o (ownL E k) = none → _) at h2
      cases he : esL E rec o (ownL E k) with
      | none => exact fail (h2 he) _ (fun l hl => by cases hl)
      | some l1 =>
        obtain ⟨w1, w2⟩ := h1 l1 he
        by_cases hn : st + 4 + pre.length + l1.length ≤ 120
        · have hu := w1 hn
          rw [hu]
          dsimp only
          rw [if_pos rfl]
          have e4 : wr (wr g st (0 :: 0 :: 0 :: 0 :: pre)) (st + 4 + pre.length) l1 = wr g st (0 :: 0 :: 0 :: 0 :: (pre ++ l1)) := by
            have := wr_app (0 :: 0 :: 0 :: 0 :: pre) l1 g st
            rw [show st + (0 :: 0 :: 0 :: 0 :: pre : List Int32).length = st + 4 + pre.length by simp only [List.length_cons]; omega] at this
            exact this.symm
          have := ih (k + 1) (q + 1) (pre ++ l1) (by omega) (by omega) (by rw [List.length_append]; omega)
          rw [List.length_append, show st + 4 + (pre.length + l1.length) = st + 4 + pre.length + l1.length by omega] at this
          rw [e4]
          refine cast ?_ this
          congr 1
          cases esL E rec o (kiL E (nn c) (k + 1) j) with
          | none => rfl
          | some l2 =>
            show some (finL (pre ++ l1) l2) = some (finL pre (l1 ++ l2))
            unfold finL
            rw [List.length_append, List.length_append, List.append_assoc pre l1 l2, show 4 + (pre.length + l1.length) + l2.length + 1 = 4 + pre.length + (l1.length + l2.length) + 1 by omega]
        · refine fail (w2 hn) _ (fun l hl => ?_)
          cases h2 : esL E rec o (kiL E (nn c) (k + 1) j) with
          | none => rw [h2] at hl; cases hl
          | some l2 =>
            rw [h2] at hl
            cases hl
            rw [finL_len, List.length_append]
            omega
    · rw [if_neg h, if_neg h, List.nil_append]
      exact ih (k + 1) q pre (by omega) (by omega) hb
