/-! the writer, the written program: the recursion, and encode -/
theorem isK_le {C : Nat} {par : AI} (hC : C ≤ 6) (hp : pI C par) : ∀ (c : Nat), c < C → ∀ k, k < 2147483648 → isK par (nn c) (nn k) = true → k ≤ c := by
  intro c
  induction c using Nat.strongRecOn with
  | _ c ih =>
    intro hc k hk h
    rw [isK_s hC hp hc] at h
    by_cases e : nn c = nn k
    · rw [nn_eq (by omega) hk] at e; omega
    · rw [if_neg e] at h
      rcases hp c hc with e2 | ⟨j, hj, e2⟩
      · rw [e2, isK_neg _ _ _ neg1_lt] at h; cases h
      · rw [e2] at h
        have := ih j hj (by omega) k hk h
        omega
theorem kin_cut {E : En} (hE : gE E) {c : Nat} (hc : c < eC E) : kinL E (nn c) (eC E) = kiL E (nn c) 0 (c + 1) := by
  have hC := hE.1.1
  have e : List.range' 0 (eC E) = List.range' 0 (c + 1) ++ List.range' (c + 1) (eC E - (c + 1)) := by
    have := List.range'_append (s := 0) (m := c + 1) (n := eC E - (c + 1)) (step := 1)
    rw [show 0 + 1 * (c + 1) = c + 1 by omega, show c + 1 + (eC E - (c + 1)) = eC E by omega] at this
    exact this.symm
  unfold kinL kiL
  rw [e, List.flatMap_append]
  have z : (List.range' (c + 1) (eC E - (c + 1))).flatMap (fun k => if isK (ePar E) (nn c) (nn k) = true then ownL E k else []) = [] := by
    rw [List.flatMap_eq_nil_iff]
    intro k hk
    rw [List.mem_range'_1] at hk
    rw [if_neg]
    intro h
    have := isK_le hC hE.1.2.2.1 c hc k (by omega) h
    omega
  rw [z, List.append_nil]
theorem docL_s (E : En) (r o : Nat) (b : Int32) : docL E (r + 1) o b = (esL E (docL E r) o (kinL E (eKin E o) (eC E))).map (finL (mkL E o b)) := rfl
theorem kin_o {E : En} (hE : gE E) {o : Nat} (ho : o < eO E) : fI_kind (nn o) (nn (eO E)) (eKin E) = some (eKin E o) := by
  have hO := hE.2.1
  rw [iKind hO]
  unfold kdO
  rw [if_neg (nn_neg (by omega)), nn_c (by omega), if_pos ho]
theorem Wo_fail {n : Nat} {f : AI} {L : Option (List Int32)} {c : Option (Bool × Int32 × AI)} (h : Fo c) (hL : ∀ l, L = some l → ¬ n + l.length ≤ 120) : Wo n f L c := by
  obtain ⟨w, e, hw⟩ := h
  exact ⟨w, e, fun l hl => ⟨fun z => absurd z (hL l hl), fun _ => hw⟩, fun _ => hw⟩
theorem w_docS {E : En} (hE : gE E) {r d : Nat} (hd : d ≤ 5) {rk : Int32 × Int32 × Int32 × Int32 × AI → Option (Bool × Int32 × AI)} (hR : Rk E (docL E r) rk (nn (d + 1))) {N : Nat} (hN : 10 ≤ N) {o : Nat} (ho : o < eO E) (b : Int32) {n : Nat} (hn : n ≤ 120) (f : AI) : Wo n f (docL E (r + 1) o b) (fW_writeDocumentS N rk (nn o) b (nn d) (nn (eC E)) (nn (eG E)) (ePar E) (eOwn E) (eLet E) (eSor E) (eTar E) (nn (eO E)) (eKin E) (eVal E) (ePrt E) (nn n) f) := by
  have hC := hE.1.1
  obtain ⟨c, hc, ek⟩ := hE.2.2.1 o ho
  have hR' : Rk E (docL E r) rk (nn d + 1) := by rw [nn_s]; exact hR
  unfold fW_writeDocumentS
  rw [kin_o hE ho, o_bind, if_neg (by rw [show (5 : Int32) = nn 5 from rfl, nn_lt (by omega) (by omega)]; omega), docL_s]
  obtain ⟨N', eN⟩ : ∃ z, N = z + 1 := ⟨N - 1, by omega⟩
  have fail : ∀ (L : Option (List Int32)) (m : Nat) (g : AI), m ≤ 120 → (∀ l, L = some l → ¬ n + l.length ≤ 120) → Wo n f L (fW_writeDocumentS_61l N rk (nn o) b (nn d) (nn (eC E)) (nn (eG E)) (ePar E) (eOwn E) (eLet E) (eSor E) (eTar E) (nn (eO E)) (eKin E) (eVal E) (ePrt E) (nn n) (eKin E o) N (false, 0, nn m, g)) := by
    intro L m g hm hL
    refine Wo_fail ?_ hL
    have := doc_f (E := E) (rk := rk) (N := N) (a := nn o) (b := b) (c := nn d) (s := nn n) (v := eKin E o) N' 0 hm g
    rw [← eN] at this
    exact this
  have hlen : ∀ (L : Option (List Int32)) (pre : List Int32) (x : List Int32), L.map (finL pre) = some x → x.length = 4 + pre.length + (x.length - 5 - pre.length) + 1 ∧ 5 + pre.length ≤ x.length := by
    intro L pre x hx
    cases L with
    | none => cases hx
    | some l =>
      cases hx
      have := finL_len pre l
      omega
  obtain ⟨u, e, h1, -⟩ := w_num hN 0 (K := 4) (by omega) hn f
  rw [show fB_addNumber N (0 : Int64) (4 : Int32) (nn n) f = some u from e, o_bind]
  rw [num0] at h1
  obtain ⟨h2, h3⟩ := h1 _ rfl
  by_cases hb : n + 4 ≤ 120
  · have hu := h2 hb
    rw [hu]
    dsimp only
    rw [if_pos rfl]
    unfold mkL
    by_cases hm : eKin E o = b
    · rw [if_pos hm, if_pos hm, ek, kin_cut hE hc]
      exact w_kin hE hR' hN ho b hc n f (c + 1) 0 N [] (by omega) (by omega) (by simp only [List.length_nil]; omega)
    · rw [if_neg hm, if_neg hm]
      obtain ⟨u, e, h1, -⟩ := w_mark hN hb (wr f n [0, 0, 0, 0]) (eKin E o)
      rw [show fW_writeMark N (eKin E o) (nn (n + ([0, 0, 0, 0] : List Int32).length)) (wr f n [0, 0, 0, 0]) = some u from e, o_bind]
      obtain ⟨h2, h3⟩ := h1 _ rfl
      by_cases hb2 : n + 4 + 10 ≤ 120
      · have hu := h2 hb2
        rw [hu]
        dsimp only
        rw [if_pos rfl, ek, kin_cut hE hc]
        have e4 : wr (wr f n [0, 0, 0, 0]) (n + 4) [2, 95, 116, 0, 2, 0, 0, 0, 65 + nn c, 0] = wr f n (0 :: 0 :: 0 :: 0 :: [2, 95, 116, 0, 2, 0, 0, 0, 65 + nn c, 0]) := rfl
        exact w_kin hE hR' hN ho b hc n f (c + 1) 0 N [2, 95, 116, 0, 2, 0, 0, 0, 65 + nn c, 0] (by omega) (by omega) hb2
      · obtain ⟨f1, m, hm, f2⟩ := h3 hb2
        rw [f1, if_neg (by decide), f2]
        refine fail _ m _ hm (fun l hl => ?_)
        have := (hlen _ _ _ hl).2
        simp only [List.length_cons, List.length_nil] at this
        omega
  · obtain ⟨f1, m, hm, f2⟩ := h3 hb
    rw [f1, if_neg (by decide), f2]
    refine fail _ m _ hm (fun l hl => ?_)
    have := (hlen _ _ _ hl).2
    omega
theorem w_docF {E : En} (hE : gE E) {d : Nat} (hd : 5 < d) (hd2 : d < 100) {rk : Int32 × Int32 × Int32 × Int32 × AI → Option (Bool × Int32 × AI)} {N : Nat} (hN : 10 ≤ N) {o : Nat} (ho : o < eO E) (b : Int32) {n : Nat} (hn : n ≤ 120) (f : AI) : Fo (fW_writeDocumentS N rk (nn o) b (nn d) (nn (eC E)) (nn (eG E)) (ePar E) (eOwn E) (eLet E) (eSor E) (eTar E) (nn (eO E)) (eKin E) (eVal E) (ePrt E) (nn n) f) := by
  unfold fW_writeDocumentS
  rw [kin_o hE ho, o_bind, if_pos (by rw [show (5 : Int32) = nn 5 from rfl, nn_lt (by omega) (by omega)]; omega)]
  obtain ⟨N', eN⟩ : ∃ z, N = z + 1 := ⟨N - 1, by omega⟩
  have := doc_f (E := E) (rk := rk) (N := N) (a := nn o) (b := b) (c := nn d) (s := nn n) (v := eKin E o) N' 0 hn f
  rw [← eN] at this
  exact this
theorem w_doc {E : En} (hE : gE E) {N : Nat} (hN : 10 ≤ N) : ∀ (q d o : Nat) (b : Int32) (n : Nat) (f : AI), d ≤ 6 → 7 - d ≤ q → o < eO E → n ≤ 120 → Wo n f (docL E (6 - d) o b) (fW_writeDocumentl N (nn (eC E)) (nn (eG E)) (ePar E) (eOwn E) (eLet E) (eSor E) (eTar E) (nn (eO E)) (eKin E) (eVal E) (ePrt E) q (nn o, b, nn d, nn n, f)) := by
  intro q
  induction q with
  | zero => intro d o b n f h1 h2; omega
  | succ q ih =>
    intro d o b n f h1 h2 ho hn
    show Wo n f (docL E (6 - d) o b) (fW_writeDocumentS N (fW_writeDocumentl N (nn (eC E)) (nn (eG E)) (ePar E) (eOwn E) (eLet E) (eSor E) (eTar E) (nn (eO E)) (eKin E) (eVal E) (ePrt E) q) (nn o) b (nn d) (nn (eC E)) (nn (eG E)) (ePar E) (eOwn E) (eLet E) (eSor E) (eTar E) (nn (eO E)) (eKin E) (eVal E) (ePrt E) (nn n) f)
    by_cases h6 : d = 6
    · subst h6
      exact Wo_fail (w_docF hE (by omega) (by omega) hN ho b hn f) (fun l hl => by cases hl)
    · obtain ⟨r, hr⟩ : ∃ r, 6 - d = r + 1 := ⟨5 - d, by omega⟩
      rw [hr]
      refine w_docS hE (by omega) (fun o2 c2 n2 f2 ho2 hn2 => ?_) hN ho b hn f
      have := ih (d + 1) o2 c2 n2 f2 (by omega) (by omega) ho2 hn2
      rw [show 6 - (d + 1) = r by omega] at this
      exact this
theorem w_write {E : En} (hE : gE E) {N : Nat} (hN : 10 ≤ N) {o : Nat} (ho : o < eO E) (b : Int32) (wc : Int32) (f : AI) : Wo 0 f (docL E 5 o b) (fW_write N (nn o) b (nn (eC E)) (nn (eG E)) (ePar E) (eOwn E) (eLet E) (eSor E) (eTar E) (nn (eO E)) (eKin E) (eVal E) (ePrt E) wc f) := by
  unfold fW_write
  rw [b_id2]
  exact w_doc hE hN 7 1 o b 0 f (by omega) (by omega) ho (by omega)
theorem wr_ge : ∀ (l : List Int32) (f : AI) (n j : Nat), n + l.length ≤ j → wr f n l j = f j
  | [], _, _, _, _ => rfl
  | x :: l, f, n, j, h => by
    show wr (upd f n x) (n + 1) l j = _
    simp only [List.length_cons] at h
    rw [wr_ge l _ (n + 1) j (by omega)]
    unfold upd
    rw [if_neg (by omega)]
theorem cpy_wr (l : List Int32) (w f : AI) : va_cpy (wr w 0 l) f 0 0 l.length = wr f 0 l := by
  funext j
  unfold va_cpy
  by_cases h : 0 ≤ j ∧ j < 0 + l.length
  · rw [if_pos h, show 0 + (j - 0) = j by omega]
    exact wr_same l w f 0 (fun i hi => by omega) j (by omega)
  · rw [if_neg h, wr_ge l f 0 j (by omega)]
/-- what encode answers and leaves: the document, where it is one and has room -/
def encR (E : En) (x b : Int32) : Option (Option (List Int32)) := if isK (ePar E) (kdO (eO E) (eKin E) x) b = true then some (docL E 5 x.toNatClampNeg b) else none
theorem p_encode {E : En} (hE : gE E) {N : Nat} (hN : 10 ≤ N) (x b : Int32) {B : Nat} (hB : B ≤ 120) (row : AI) (wc : Int32) (w : AI) : ∃ wc' w', fP_encode N x b (nn (eC E)) (nn (eG E)) (ePar E) (eOwn E) (eLet E) (eSor E) (eTar E) (nn (eO E)) (eKin E) (eVal E) (ePrt E) (nn B) row wc w = some (match encR E x b with
    | none => (-1, nn B, row, wc', w')
    | some none => (-2, nn B, row, wc', w')
    | some (some l) => if l.length ≤ 120 then (nn l.length, nn l.length, wr row 0 l, wc', w') else (-2, nn B, row, wc', w')) := by
  have hC := hE.1.1
  have hO := hE.2.1
  unfold fP_encode encR
  rw [iKind hO, o_bind, dK hC hE.1.2.2.1 (by omega) _ (kdO_or hE.2.2.1 x), o_bind]
  by_cases h : isK (ePar E) (kdO (eO E) (eKin E) x) b = true
  · rw [if_pos h, if_pos h]
    obtain ⟨o, ho, rfl⟩ : ∃ o, o < eO E ∧ x = nn o := by
      rcases in_or x (eO E) with h1 | ⟨k, hk, rfl, h1 | h1⟩
      · unfold kdO at h
        rw [if_pos h1, isK_neg _ _ _ neg1_lt] at h; cases h
      · exact ⟨k, h1, rfl⟩
      · unfold kdO at h
        rw [if_neg (nn_neg hk), nn_c hk, if_neg (c := k < eO E) (by omega), isK_neg _ _ _ neg1_lt] at h; cases h
    rw [nn_c (by omega)]
    obtain ⟨u, e, h1, h2⟩ := w_write hE hN ho b wc w
    rw [e, o_bind]
    have fail : Fl u → (if u.1 = true then (fB_copyFrom (nn B) row u.2.1 u.2.2).bind fun u47 => some (u47.1, u47.1, u47.2, u.2.1, u.2.2) else some (-2, nn B, row, u.2.1, u.2.2)) = some (-2, nn B, row, u.2.1, u.2.2) := by
      intro hf
      rw [hf.1, if_neg (by decide)]
    cases hd : docL E 5 o b with
    | none => exact ⟨u.2.1, u.2.2, fail (h2 hd)⟩
    | some l =>
      obtain ⟨w1, w2⟩ := h1 l hd
      by_cases hl : l.length ≤ 120
      · have hu := w1 (by omega)
        rw [hu]
        refine ⟨nn l.length, wr w 0 l, ?_⟩
        dsimp only
        rw [if_pos rfl, if_pos hl, Nat.zero_add]
        unfold fB_copyFrom
        rw [if_pos (by unfold ln; rw [decide_eq_true_iff, nn_i (by omega)]; omega), o_bind, nn_c (by omega), cpy_wr]
      · refine ⟨u.2.1, u.2.2, ?_⟩
        dsimp only
        rw [if_neg hl]
        exact fail (w2 (by omega))
  · rw [if_neg h, if_neg h]
    exact ⟨wc, w, rfl⟩
