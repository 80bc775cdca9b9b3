/-! fitting: marks, letters, what a document means -/
def mk (f : AI) (e : El) : Bool := decide (e.2.2.1 = 2 ∧ bv f e.2.1 = 95 ∧ bv f (e.2.1 + 1) = 116)
section ACC
variable {B : Nat} {f : AI} {els : List El} {j : Nat} {e : El}
theorem a_has (hl : els.length ≤ 58) (h : els[j]? = some e) : fO_hasElement (nn j) (nn els.length) = some true ∧ ok (nn j) 60 = true ∧ j < 58 := by
  have hj := (List.getElem?_eq_some_iff.mp h).1
  refine ⟨?_, nn_okt (by omega) (by omega), by omega⟩
  have := hasC (C := els.length) (by omega) j (by omega)
  rw [decide_eq_true hj] at this
  exact this
theorem a_holder (hl : els.length ≤ 58) (h : els[j]? = some e) (a : AI) : fO_holder (nn j) (nn els.length) (wr a 0 (els.map eHo)) = some (eHo e) := by
  obtain ⟨h1, h2, h3⟩ := a_has hl h
  unfold fO_holder
  rw [h1, o_bind, if_pos rfl, if_pos h2, nn_c (by omega), wr_map eHo h]
theorem a_type (hl : els.length ≤ 58) (h : els[j]? = some e) (a : AI) : fO_type (nn j) (nn els.length) (wr a 0 (els.map eTy)) = some (eTy e) := by
  obtain ⟨h1, h2, h3⟩ := a_has hl h
  unfold fO_type
  rw [h1, o_bind, if_pos rfl, if_pos h2, nn_c (by omega), wr_map eTy h]
theorem a_content (hl : els.length ≤ 58) (h : els[j]? = some e) (a : AI) : fO_content (nn j) (nn els.length) (wr a 0 (els.map eCt)) = some (eCt e) := by
  obtain ⟨h1, h2, h3⟩ := a_has hl h
  unfold fO_content
  rw [h1, o_bind, if_pos rfl, if_pos h2, nn_c (by omega), wr_map eCt h]
theorem a_inner (hl : els.length ≤ 58) (h : els[j]? = some e) (a : AI) : fO_inner (nn j) (nn els.length) (wr a 0 (els.map eCh)) = some (eCh e) := by
  obtain ⟨h1, h2, h3⟩ := a_has hl h
  unfold fO_inner
  rw [h1, o_bind, if_pos rfl, if_pos h2, nn_c (by omega), wr_map eCh h]
theorem a_nameByte (hB : B ≤ 120) (hl : els.length ≤ 58) (h : els[j]? = some e) (hg : gEl B f e) (i : Nat) (hi : i < 10) (a : AI) : fO_nameByte (nn j) (nn i) (nn els.length) (wr a 0 (els.map eNm)) (nn B) f = some (av B f (e.2.1 + i)) := by
  obtain ⟨h1, h2, h3⟩ := a_has hl h
  have := hg.1
  unfold fO_nameByte
  rw [h1, o_bind, if_pos rfl, if_pos h2, nn_c (show j < 2147483648 by omega), wr_map eNm h]
  show ((fB_at (nn e.2.1 + nn i) (nn B) f).bind fun u20 => some u20) = _
  rw [nn_add, o_at hB (by omega)]
  rfl
theorem av_in (hy : yI B f) {a : Nat} (ha : a < B) {k : Nat} (hk : k < 256) : av B f a = nn k ↔ bv f a = k := by
  unfold av
  obtain ⟨e, hb⟩ := bv_eq hy ha
  rw [if_pos ha, e, nn_eq (by omega) (by omega)]
theorem a_mark (hy : yI B f) (hl : els.length ≤ 58) (h : els[j]? = some e) (hg : gEl B f e) (a : AI) : fO_isMark (nn j) (nn els.length) (wr a 0 (els.map eNm)) (nn B) f = some (mk f e) := by
  have hB := hy.1
  have hg0 := hg
  obtain ⟨g1, g2, g3, -⟩ := hg0
  unfold fO_isMark mk
  rw [show fO_nameByte (nn j) (0 : Int32) (nn els.length) (wr a 0 (els.map eNm)) (nn B) f = _ from a_nameByte hB hl h hg 0 (by omega) a, o_bind, show fO_nameByte (nn j) (1 : Int32) (nn els.length) (wr a 0 (els.map eNm)) (nn B) f = _ from a_nameByte hB hl h hg 1 (by omega) a, o_bind, show fO_nameByte (nn j) (2 : Int32) (nn els.length) (wr a 0 (els.map eNm)) (nn B) f = _ from a_nameByte hB hl h hg 2 (by omega) a, o_bind, Nat.add_zero]
  by_cases h0 : bv f e.2.1 = 95
  · have hn1 : 1 ≤ e.2.2.1 := by
      by_cases z : e.2.2.1 = 0
      · rw [z, Nat.add_zero] at g3; omega
      · omega
    rw [if_pos (c := av B f e.2.1 = (95 : Int32)) ((av_in hy (by omega) (k := 95) (by omega)).mpr h0)]
    by_cases h1 : bv f (e.2.1 + 1) = 116
    · have hn2 : 2 ≤ e.2.2.1 := by
        by_cases z : e.2.2.1 = 1
        · rw [z] at g3; omega
        · omega
      rw [if_pos (c := av B f (e.2.1 + 1) = (116 : Int32)) ((av_in hy (by omega) (k := 116) (by omega)).mpr h1)]
      by_cases h2 : e.2.2.1 = 2
      · rw [if_pos (c := av B f (e.2.1 + 2) = 0) ((av_0 hy _).mpr (by rw [h2] at g1 g3; exact ⟨g1, g3⟩)), decide_eq_true ⟨h2, h0, h1⟩]
      · rw [if_neg (c := av B f (e.2.1 + 2) = 0) (fun z => by
          have := (av_0 hy _).mp z
          have := (g2 (e.2.1 + 2) (by omega) (by omega)).1
          omega), decide_eq_false (fun z => h2 z.1)]
    · rw [if_neg (c := av B f (e.2.1 + 1) = (116 : Int32)) (fun z => h1 ((av_in hy (by omega) (k := 116) (by omega)).mp z)), decide_eq_false (fun z => h1 z.2.2)]
  · rw [if_neg (c := av B f e.2.1 = (95 : Int32)) (fun z => h0 ((av_in hy (by omega) (k := 95) (by omega)).mp z)), decide_eq_false (fun z => h0 z.2.1)]
theorem m_isMark (hy : yI B f) (hl : els.length ≤ 58) (h : els[j]? = some e) (hg : gEl B f e) (s5 s6 : AI) : fM_isMark (nn j) f (wr s5 0 (els.map eNm)) (wr s6 0 (els.map eNl)) = some (mk f e) := by
  have hB := hy.1
  obtain ⟨h1, h2, h3⟩ := a_has hl h
  obtain ⟨g1, g2, g3, -⟩ := hg
  unfold fM_isMark mk
  simp only [if_pos h2, nn_c (show j < 2147483648 by omega), wr_map eNm h, wr_map eNl h]
  by_cases hn : e.2.2.1 = 2
  · have q : eNl e = (2 : Int32) := by unfold eNl; rw [hn]; rfl
    have e1 : eNm e + (1 : Int32) = nn (e.2.1 + 1) := nn_s _
    have e0 : eNm e = nn e.2.1 := rfl
    rw [if_pos q, e1, e0, if_pos (nn_okt (show e.2.1 < 2147483648 by omega) (show e.2.1 < 120 by omega)), if_pos (nn_okt (show e.2.1 + 1 < 2147483648 by omega) (show e.2.1 + 1 < 120 by omega)), nn_c (show e.2.1 < 2147483648 by omega), nn_c (show e.2.1 + 1 < 2147483648 by omega)]
    have a0 := av_in hy (show e.2.1 < B by omega) (k := 95) (by omega)
    have a1 := av_in hy (show e.2.1 + 1 < B by omega) (k := 116) (by omega)
    unfold av at a0 a1
    rw [if_pos (show e.2.1 < B by omega)] at a0
    rw [if_pos (show e.2.1 + 1 < B by omega)] at a1
    by_cases h0 : bv f e.2.1 = 95
    · rw [if_pos (c := f e.2.1 = (95 : Int32)) (a0.mpr h0)]
      by_cases h1 : bv f (e.2.1 + 1) = 116
      · rw [if_pos (c := f (e.2.1 + 1) = (116 : Int32)) (a1.mpr h1), decide_eq_true ⟨hn, h0, h1⟩]
      · rw [if_neg (c := f (e.2.1 + 1) = (116 : Int32)) (fun z => h1 (a1.mp z)), decide_eq_false (fun z => h1 z.2.2)]
    · rw [if_neg (c := f e.2.1 = (95 : Int32)) (fun z => h0 (a0.mp z)), decide_eq_false (fun z => h0 z.2.1)]
  · have q : ¬ eNl e = (2 : Int32) := by
      unfold eNl
      rw [show (2 : Int32) = nn 2 from rfl, nn_eq (by omega) (by omega)]
      exact hn
    rw [if_neg q, decide_eq_false (fun z => hn z.1)]
end ACC
/-- a kind of, for any number -/
def isKc (E : En) (a b : Int32) : Bool := clB (eC E) a && isK (ePar E) a b
theorem dKc {E : En} (hE : gE E) {N : Nat} (hN : 10 ≤ N) (a b : Int32) : fD_isKindOf N a b (nn (eC E)) (ePar E) = some (isKc E a b) := by
  have hC := hE.1.1
  unfold isKc
  by_cases h : clB (eC E) a = true
  · rw [dK hC hE.1.2.2.1 (by omega) _ (Or.inr (clB_t h)), h, Bool.true_and]
  · have h2 : clB (eC E) a = false := by cases q : clB (eC E) a with
      | true => exact absurd q h
      | false => rfl
    rw [h2, Bool.false_and]
    obtain ⟨N', e⟩ : ∃ z, N = z + 1 := ⟨N - 1, by omega⟩
    have : fD_isKindOf_5l N a b (nn (eC E)) (ePar E) (N' + 1) (a, 0) = some false := by
      show fD_isKindOf_5 N a b (nn (eC E)) (ePar E) (fD_isKindOf_5l N a b (nn (eC E)) (ePar E) N') a 0 = _
      unfold fD_isKindOf_5
      rw [if_neg (by decide), hasC_b (by omega), o_bind, h2, if_neg (by decide)]
    rw [← e] at this
    exact this
/-- the class that a mark names -/
def mcl (f : AI) (e : El) : Int32 := if e.1 = 2 ∧ n4 f e.2.2.2.1 = 2 then f (e.2.2.2.1 + 4) - 65 else -1
def isMd (f : AI) (d : Nat) (e : El) : Bool := decide (e.2.2.2.2.1 = d) && mk f e
def finC (E : En) (f : AI) (w : Int32) : Int32 → Nat → List El → Int32
  | c, n, [] => if 1 < n then -1 else if isKc E c w = true then c else -1
  | _, n, e :: ms => finC E f w (mcl f e) (n + 1) ms
def finM (E : En) (f : AI) (w : Int32) : Int32 → Nat → List El → Option Int32
  | c, n, [] => if 1 < n then none else some c
  | _, n, e :: ms => if isKc E (mcl f e) w = true then finM E f w (mcl f e) (n + 1) ms else none
theorem finC_2 {E : En} {f : AI} {w : Int32} : ∀ (ms : List El) (c : Int32) (n : Nat), 2 ≤ n → finC E f w c n ms = -1
  | [], c, n, h => by rw [finC, if_pos (by omega)]
  | e :: ms, c, n, h => finC_2 ms _ (n + 1) (by omega)
theorem finM_2 {E : En} {f : AI} {w : Int32} : ∀ (ms : List El) (c : Int32) (n : Nat), 2 ≤ n → finM E f w c n ms = none
  | [], c, n, h => by rw [finM, if_pos (by omega)]
  | e :: ms, c, n, h => by
    rw [finM]
    split
    · exact finM_2 ms _ (n + 1) (by omega)
    · rfl
theorem isKc_n1 (E : En) (b : Int32) : isKc E (-1) b = false := by
  unfold isKc clB
  rw [decide_eq_false (by rw [show (-1 : Int32).toInt = -1 from by decide]; omega), Bool.false_and]
theorem fin_same {E : En} {f : AI} {w : Int32} (hw : isKc E w w = true) (ms : List El) : (finM E f w w 0 ms = none → finC E f w w 0 ms = -1) ∧ ∀ v, finM E f w w 0 ms = some v → finC E f w w 0 ms = v ∧ isKc E v w = true ∧ v ≠ -1 := by
  have hne : ∀ v, isKc E v w = true → v ≠ -1 := fun v h z => by rw [z, isKc_n1] at h; cases h
  match ms with
  | [] =>
    show ((if 1 < 0 then none else some w) = none → _) ∧ _
    refine ⟨fun h => (by cases h), fun v h => ?_⟩
    cases h
    exact ⟨by show (if 1 < 0 then (-1 : Int32) else if isKc E w w = true then w else -1) = w; rw [if_neg (by omega), if_pos hw], hw, hne w hw⟩
  | [e] =>
    show ((if isKc E (mcl f e) w = true then (if 1 < 0 + 1 then none else some (mcl f e)) else none) = none → _) ∧ _
    by_cases h : isKc E (mcl f e) w = true
    · rw [if_pos h]
      refine ⟨fun h => (by cases h), fun v hv => ?_⟩
      change (if isKc E (mcl f e) w = true then (if 1 < 0 + 1 then none else some (mcl f e)) else none) = some v at hv
      rw [if_pos h] at hv
      cases hv
      exact ⟨by show (if 1 < 0 + 1 then (-1 : Int32) else if isKc E (mcl f e) w = true then mcl f e else -1) = _; rw [if_neg (by omega), if_pos h], h, hne _ h⟩
    · refine ⟨fun _ => by show (if 1 < 0 + 1 then (-1 : Int32) else if isKc E (mcl f e) w = true then mcl f e else -1) = _; rw [if_neg (by omega), if_neg h], fun v hv => ?_⟩
      change (if isKc E (mcl f e) w = true then (if 1 < 0 + 1 then none else some (mcl f e)) else none) = some v at hv
      rw [if_neg h] at hv; cases hv
  | e1 :: e2 :: ms =>
    refine ⟨fun _ => finC_2 ms _ 2 (by omega), fun v hv => ?_⟩
    change (if isKc E (mcl f e1) w = true then (if isKc E (mcl f e2) w = true then finM E f w (mcl f e2) 2 ms else none) else none) = some v at hv
    rw [finM_2 ms _ 2 (by omega)] at hv
    split at hv
    · split at hv <;> cases hv
    · cases hv
theorem a_marked {N B : Nat} (hN : 200 ≤ N) {f : AI} (hy : yI B f) {els : List El} {j : Nat} {e : El} (hl : els.length ≤ 58) (h : els[j]? = some e) (hg : gEl B f e) (t c : AI) : fF_markedClass N (nn j) (nn B) f (nn els.length) (wr t 0 (els.map eTy)) (wr c 0 (els.map eCt)) = some (mcl f e) := by
  have hB := hy.1
  have g5 := hg.2.2.2.2.1
  have g9 := hg.2.2.2.2.2.2.2.2
  unfold fF_markedClass mcl
  rw [a_content hl h, o_bind, a_type hl h, o_bind]
  have q2 : eTy e = (2 : Int32) ↔ e.1 = 2 := nn_eq (b := 2) (by omega) (by omega)
  by_cases h2 : e.1 = 2
  · have := g5 h2
    rw [if_pos (q2.mpr h2)]
    show ((fB_intAt N (nn e.2.2.2.1) (nn B) f).bind _) = _
    rw [o_int hN hy (by omega), o_bind]
    by_cases hn : n4 f e.2.2.2.1 = 2
    · rw [if_pos hn, if_pos ⟨h2, hn⟩]
      show ((fB_at (nn e.2.2.2.1 + (4 : Int32)) (nn B) f).bind _) = _
      rw [show nn e.2.2.2.1 + (4 : Int32) = nn (e.2.2.2.1 + 4) from nn_add _ 4, o_at hB (by omega), o_bind]
      unfold av
      rw [if_pos (show e.2.2.2.1 + 4 < B by omega)]
    · rw [if_neg hn, if_neg (fun z => hn z.2)]
  · rw [if_neg (fun z => h2 (q2.mp z)), if_neg (fun z => h2 z.1)]
theorem f_mean_l {E : En} (hE : gE E) {N B : Nat} (hN : 200 ≤ N) {f : AI} (hy : yI B f) {els : List El} (hl : els.length ≤ 58) (hg : ∀ e, e ∈ els → gEl B f e) {d : Nat} (hd : d < 25) (hh : ∀ e, e ∈ els → e.2.2.2.2.1 < 1000) (w t n c h : AI) : ∀ (k j q : Nat) (cl : Int32) (m : Nat), j + k = els.length → k < q → m + k < 1000 → fF_findMeant_12l N (nn d) w (nn (eC E)) (ePar E) (nn B) f (nn els.length) (wr t 0 (els.map eTy)) (wr n 0 (els.map eNm)) (wr c 0 (els.map eCt)) (wr h 0 (els.map eHo)) q (cl, nn m, nn j) = some (finC E f (w d) cl m ((els.drop j).filter (isMd f d))) := by
  have hB := hy.1
  intro k
  induction k with
  | zero =>
    intro j q cl m hj hq hm
    obtain ⟨q, rfl⟩ : ∃ z, q = z + 1 := ⟨q - 1, by omega⟩
    show fF_findMeant_12 N (nn d) w (nn (eC E)) (ePar E) (nn B) f (nn els.length) (wr t 0 (els.map eTy)) (wr n 0 (els.map eNm)) (wr c 0 (els.map eCt)) (wr h 0 (els.map eHo)) (fF_findMeant_12l N (nn d) w (nn (eC E)) (ePar E) (nn B) f (nn els.length) (wr t 0 (els.map eTy)) (wr n 0 (els.map eNm)) (wr c 0 (els.map eCt)) (wr h 0 (els.map eHo)) q) cl (nn m) (nn j) = _
    unfold fF_findMeant_12
    rw [if_pos (by rw [nn_le (by omega) (by omega)]; omega), List.drop_eq_nil_of_le (by omega), if_pos (c := ok (nn d) 30 = true) (nn_okt (by omega) (by omega)), nn_c (by omega), dKc hE (by omega), o_bind]
    have q1 : (1 : Int32) < nn m ↔ 1 < m := nn_lt (a := 1) (by omega) (by omega)
    show _ = some (if 1 < m then -1 else if isKc E cl (w d) = true then cl else -1)
    by_cases h1 : 1 < m
    · rw [if_pos (q1.mpr h1), if_pos h1]
    · rw [if_neg (fun z => h1 (q1.mp z)), if_neg h1]
      by_cases h2 : isKc E cl (w d) = true
      · rw [if_pos h2, if_pos h2]
      · rw [if_neg h2, if_neg h2]
  | succ k ih =>
    intro j q cl m hj hq hm
    obtain ⟨q, rfl⟩ : ∃ z, q = z + 1 := ⟨q - 1, by omega⟩
    show fF_findMeant_12 N (nn d) w (nn (eC E)) (ePar E) (nn B) f (nn els.length) (wr t 0 (els.map eTy)) (wr n 0 (els.map eNm)) (wr c 0 (els.map eCt)) (wr h 0 (els.map eHo)) (fF_findMeant_12l N (nn d) w (nn (eC E)) (ePar E) (nn B) f (nn els.length) (wr t 0 (els.map eTy)) (wr n 0 (els.map eNm)) (wr c 0 (els.map eCt)) (wr h 0 (els.map eHo)) q) cl (nn m) (nn j) = _
    have hlt : j < els.length := by omega
    have hge : els[j]? = some els[j] := List.getElem?_eq_getElem hlt
    have hgj := hg _ (List.getElem_mem hlt)
    have hhj := hh _ (List.getElem_mem hlt)
    unfold fF_findMeant_12
    rw [if_neg (by rw [nn_le (by omega) (by omega)]; omega), a_holder hl hge, o_bind, a_mark hy hl hge hgj, o_bind, a_marked hN hy hl hge hgj, o_bind, nn_s, nn_s, List.drop_eq_getElem_cons hlt, List.filter_cons, ih (j + 1) q _ (m + 1) (by omega) (by omega) (by omega), ih (j + 1) q cl m (by omega) (by omega) (by omega)]
    have qh : eHo els[j] = nn d ↔ els[j].2.2.2.2.1 = d := nn_eq (by omega) (by omega)
    by_cases h1 : els[j].2.2.2.2.1 = d
    · rw [if_pos (qh.mpr h1)]
      by_cases h2 : mk f els[j] = true
      · have hi : isMd f d els[j] = true := by unfold isMd; rw [decide_eq_true h1, h2]; rfl
        rw [if_pos h2, if_pos hi]
        rfl
      · have hi : ¬ isMd f d els[j] = true := by unfold isMd; rw [Bool.and_eq_true]; exact fun z => h2 z.2
        rw [if_neg h2, if_neg hi]
    · have hi : ¬ isMd f d els[j] = true := by unfold isMd; rw [Bool.and_eq_true, decide_eq_true_iff]; exact fun z => h1 z.1
      rw [if_neg (fun z => h1 (qh.mp z)), if_neg hi]
theorem f_mean {E : En} (hE : gE E) {N B : Nat} (hN : 200 ≤ N) {f : AI} (hy : yI B f) {els : List El} (hl : els.length ≤ 58) (hg : ∀ e, e ∈ els → gEl B f e) {d : Nat} (hd : d < 25) (hh : ∀ e, e ∈ els → e.2.2.2.2.1 < 1000) (w t n c h : AI) : fF_findMeant N (nn d) w (nn (eC E)) (ePar E) (nn B) f (nn els.length) (wr t 0 (els.map eTy)) (wr n 0 (els.map eNm)) (wr c 0 (els.map eCt)) (wr h 0 (els.map eHo)) = some (finC E f (w d) (w d) 0 (els.filter (isMd f d))) := by
  unfold fF_findMeant
  rw [if_pos (nn_okt (by omega) (by omega)), nn_c (by omega)]
  exact f_mean_l hE hN hy hl hg hd hh w t n c h els.length 0 N (w d) 0 (by omega) (by omega) (by omega)
