/-! fitting, the reference: what a document means; letters of both -/
theorem upd_id (g : AI) (d : Nat) : upd g d (g d) = g := by
  funext x
  unfold upd
  by_cases h : x = d
  · rw [if_pos h, h]
  · rw [if_neg h]
theorem m_mean_l {E : En} (hE : gE E) {N B : Nat} (hN : 200 ≤ N) {f : AI} (hy : yI B f) {els : List El} (hl : els.length ≤ 58) (hg : ∀ e, e ∈ els → gEl B f e) {d : Nat} (hd : d < 25) (hh : ∀ e, e ∈ els → e.2.2.2.2.1 < 1000) (nd s3 s4 s5 s6 s7 : AI) : ∀ (k j q m : Nat) (g : AI), j + k = els.length → k < q → m + k < 1000 → (∀ v, finM E f (nd d) (g d) m ((els.drop j).filter (isMd f d)) = some v → fM_mean_16l N (nn d) (nn (eC E)) (nn els.length) (ePar E) f nd (wr s3 0 (els.map eHo)) (wr s4 0 (els.map eTy)) (wr s5 0 (els.map eNm)) (wr s6 0 (els.map eNl)) (wr s7 0 (els.map eCt)) q (nn m, nn j, g) = some (true, upd g d v)) ∧ (finM E f (nd d) (g d) m ((els.drop j).filter (isMd f d)) = none → ∃ g', fM_mean_16l N (nn d) (nn (eC E)) (nn els.length) (ePar E) f nd (wr s3 0 (els.map eHo)) (wr s4 0 (els.map eTy)) (wr s5 0 (els.map eNm)) (wr s6 0 (els.map eNl)) (wr s7 0 (els.map eCt)) q (nn m, nn j, g) = some (false, g')) := by
  have hB := hy.1
  have hC := hE.1.1
  intro k
  induction k with
  | zero =>
    intro j q m g hj hq hm
    obtain ⟨q, rfl⟩ : ∃ z, q = z + 1 := ⟨q - 1, by omega⟩
    have e : fM_mean_16l N (nn d) (nn (eC E)) (nn els.length) (ePar E) f nd (wr s3 0 (els.map eHo)) (wr s4 0 (els.map eTy)) (wr s5 0 (els.map eNm)) (wr s6 0 (els.map eNl)) (wr s7 0 (els.map eCt)) (q + 1) (nn m, nn j, g) = if 1 < m then some (false, g) else some (true, g) := by
      show fM_mean_16 N (nn d) (nn (eC E)) (nn els.length) (ePar E) f nd (wr s3 0 (els.map eHo)) (wr s4 0 (els.map eTy)) (wr s5 0 (els.map eNm)) (wr s6 0 (els.map eNl)) (wr s7 0 (els.map eCt)) (fM_mean_16l N (nn d) (nn (eC E)) (nn els.length) (ePar E) f nd (wr s3 0 (els.map eHo)) (wr s4 0 (els.map eTy)) (wr s5 0 (els.map eNm)) (wr s6 0 (els.map eNl)) (wr s7 0 (els.map eCt)) q) (nn m) (nn j) g = _
      unfold fM_mean_16
      have q1 : (1 : Int32) < nn m ↔ 1 < m := nn_lt (a := 1) (by omega) (by omega)
      rw [if_pos (by rw [nn_le (by omega) (by omega)]; omega)]
      by_cases h1 : 1 < m
      · rw [if_pos (q1.mpr h1), if_pos h1]
      · rw [if_neg (fun z => h1 (q1.mp z)), if_neg h1]
    rw [e, List.drop_eq_nil_of_le (by omega)]
    show (∀ v, (if 1 < m then none else some (g d)) = some v → _) ∧ ((if 1 < m then none else some (g d)) = none → _)
    by_cases h1 : 1 < m
    · rw [if_pos h1, if_pos h1]
      exact ⟨fun v h => (by cases h), fun _ => ⟨g, rfl⟩⟩
    · rw [if_neg h1, if_neg h1]
      refine ⟨fun v h => ?_, fun h => (by cases h)⟩
      cases h
      rw [upd_id]
  | succ k ih =>
    intro j q m g hj hq hm
    obtain ⟨q, rfl⟩ : ∃ z, q = z + 1 := ⟨q - 1, by omega⟩
    have hlt : j < els.length := by omega
    have hge : els[j]? = some els[j] := List.getElem?_eq_getElem hlt
    have hgj := hg _ (List.getElem_mem hlt)
    have hhj := hh _ (List.getElem_mem hlt)
    obtain ⟨-, hok, -⟩ := a_has hl hge
    have qh : eHo els[j] = nn d ↔ els[j].2.2.2.2.1 = d := nn_eq (by omega) (by omega)
    rw [List.drop_eq_getElem_cons hlt, List.filter_cons]
    have hstep : fM_mean_16l N (nn d) (nn (eC E)) (nn els.length) (ePar E) f nd (wr s3 0 (els.map eHo)) (wr s4 0 (els.map eTy)) (wr s5 0 (els.map eNm)) (wr s6 0 (els.map eNl)) (wr s7 0 (els.map eCt)) (q + 1) (nn m, nn j, g) = if isMd f d els[j] = true then (if isKc E (mcl f els[j]) (nd d) = true then fM_mean_16l N (nn d) (nn (eC E)) (nn els.length) (ePar E) f nd (wr s3 0 (els.map eHo)) (wr s4 0 (els.map eTy)) (wr s5 0 (els.map eNm)) (wr s6 0 (els.map eNl)) (wr s7 0 (els.map eCt)) q (nn (m + 1), nn (j + 1), upd g d (mcl f els[j])) else some (false, g)) else fM_mean_16l N (nn d) (nn (eC E)) (nn els.length) (ePar E) f nd (wr s3 0 (els.map eHo)) (wr s4 0 (els.map eTy)) (wr s5 0 (els.map eNm)) (wr s6 0 (els.map eNl)) (wr s7 0 (els.map eCt)) q (nn m, nn (j + 1), g) := by
      show fM_mean_16 N (nn d) (nn (eC E)) (nn els.length) (ePar E) f nd (wr s3 0 (els.map eHo)) (wr s4 0 (els.map eTy)) (wr s5 0 (els.map eNm)) (wr s6 0 (els.map eNl)) (wr s7 0 (els.map eCt)) (fM_mean_16l N (nn d) (nn (eC E)) (nn els.length) (ePar E) f nd (wr s3 0 (els.map eHo)) (wr s4 0 (els.map eTy)) (wr s5 0 (els.map eNm)) (wr s6 0 (els.map eNl)) (wr s7 0 (els.map eCt)) q) (nn m) (nn j) g = _
      unfold fM_mean_16
      rw [if_neg (by rw [nn_le (by omega) (by omega)]; omega)]
      simp only [if_pos hok, nn_c (show j < 2147483648 by omega), nn_c (show d < 2147483648 by omega), wr_map eHo hge, wr_map eTy hge, wr_map eCt hge, m_isMark hy hl hge hgj, if_pos (nn_okt (show d < 2147483648 by omega) hd), nn_s, o_bind]
      by_cases h1 : els[j].2.2.2.2.1 = d
      · rw [if_pos (qh.mpr h1)]
        by_cases h2 : mk f els[j] = true
        · have hi : isMd f d els[j] = true := by unfold isMd; rw [decide_eq_true h1, h2]; rfl
          rw [if_pos h2, if_pos hi]
          have q2 : eTy els[j] = (2 : Int32) ↔ els[j].1 = 2 := nn_eq (b := 2) (by have := hgj.2.2.2.2.2.2.2.2; omega) (by omega)
          by_cases h3 : els[j].1 = 2
          · have g5 := hgj.2.2.2.2.1 h3
            rw [if_pos (q2.mpr h3)]
            have e1 : eCt els[j] = nn els[j].2.2.2.1 := rfl
            have e4 : nn els[j].2.2.2.1 + (4 : Int32) = nn (els[j].2.2.2.1 + 4) := nn_add _ 4
            rw [e1, m_num4 (by omega), o_bind]
            by_cases hn : n4 f els[j].2.2.2.1 = 2
            · have em : mcl f els[j] = f (els[j].2.2.2.1 + 4) - 65 := by unfold mcl; rw [if_pos ⟨h3, hn⟩]
              rw [if_pos hn, e4, if_pos (nn_okt (by omega) (by omega)), nn_c (by omega), ← em, mC_b (by omega), o_bind]
              unfold isKc
              by_cases hc : clB (eC E) (mcl f els[j]) = true
              · rw [if_pos hc, mK hC hE.1.2.2.1 (by omega) _ (Or.inr (clB_t hc)), o_bind, hc, Bool.true_and]
              · have hc2 : clB (eC E) (mcl f els[j]) = false := by cases q : clB (eC E) (mcl f els[j]) with
                  | true => exact absurd q hc
                  | false => rfl
                rw [if_neg hc, hc2, Bool.false_and, if_neg (by decide)]
            · have em : mcl f els[j] = -1 := by unfold mcl; rw [if_neg (fun z => hn z.2)]
              rw [if_neg hn, em, isKc_n1, if_neg (c := false = true) (by decide)]
          · have em : mcl f els[j] = -1 := by unfold mcl; rw [if_neg (fun z => h3 z.1)]
            rw [if_neg (fun z => h3 (q2.mp z)), em, isKc_n1, if_neg (c := false = true) (by decide)]
        · have hi : ¬ isMd f d els[j] = true := by unfold isMd; rw [Bool.and_eq_true]; exact fun z => h2 z.2
          rw [if_neg h2, if_neg hi]
      · have hi : ¬ isMd f d els[j] = true := by unfold isMd; rw [Bool.and_eq_true, decide_eq_true_iff]; exact fun z => h1 z.1
        rw [if_neg (fun z => h1 (qh.mp z)), if_neg hi]
    rw [hstep]
    by_cases hi : isMd f d els[j] = true
    · rw [if_pos hi, if_pos hi]
      show (∀ v, (if isKc E (mcl f els[j]) (nd d) = true then finM E f (nd d) (mcl f els[j]) (m + 1) ((els.drop (j + 1)).filter (isMd f d)) else none) = some v → _) ∧ ((if isKc E (mcl f els[j]) (nd d) = true then finM E f (nd d) (mcl f els[j]) (m + 1) ((els.drop (j + 1)).filter (isMd f d)) else none) = none → _)
      by_cases hk : isKc E (mcl f els[j]) (nd d) = true
      · rw [if_pos hk, if_pos hk]
        obtain ⟨i1, i2⟩ := ih (j + 1) q (m + 1) (upd g d (mcl f els[j])) (by omega) (by omega) (by omega)
        rw [upd_at] at i1 i2
        refine ⟨fun v hv => ?_, i2⟩
        rw [i1 v hv, upd_same]
      · rw [if_neg hk, if_neg hk]
        exact ⟨fun v h => (by cases h), fun _ => ⟨g, rfl⟩⟩
    · rw [if_neg hi, if_neg hi]
      exact ih (j + 1) q m g (by omega) (by omega) (by omega)
theorem m_mean {E : En} (hE : gE E) {N B : Nat} (hN : 200 ≤ N) {f : AI} (hy : yI B f) {els : List El} (hl : els.length ≤ 58) (hg : ∀ e, e ∈ els → gEl B f e) {d : Nat} (hd : d < 25) (hh : ∀ e, e ∈ els → e.2.2.2.2.1 < 1000) (nd dm s3 s4 s5 s6 s7 : AI) : (∀ v, finM E f (nd d) (nd d) 0 (els.filter (isMd f d)) = some v → fM_mean N (nn d) (nn (eC E)) (nn els.length) (ePar E) f nd dm (wr s3 0 (els.map eHo)) (wr s4 0 (els.map eTy)) (wr s5 0 (els.map eNm)) (wr s6 0 (els.map eNl)) (wr s7 0 (els.map eCt)) = some (true, upd dm d v)) ∧ (finM E f (nd d) (nd d) 0 (els.filter (isMd f d)) = none → ∃ g', fM_mean N (nn d) (nn (eC E)) (nn els.length) (ePar E) f nd dm (wr s3 0 (els.map eHo)) (wr s4 0 (els.map eTy)) (wr s5 0 (els.map eNm)) (wr s6 0 (els.map eNl)) (wr s7 0 (els.map eCt)) = some (false, g')) := by
  have hok : ok (nn d) 25 = true := nn_okt (by omega) hd
  unfold fM_mean
  rw [if_pos hok, if_pos hok, nn_c (by omega)]
  obtain ⟨i1, i2⟩ := m_mean_l hE hN hy hl hg hd hh nd s3 s4 s5 s6 s7 els.length 0 N 0 (upd dm d (nd d)) (by omega) (by omega) (by omega)
  rw [upd_at, List.drop_zero] at i1 i2
  refine ⟨fun v hv => ?_, i2⟩
  have := i1 v hv
  rw [upd_same] at this
  exact this
/-- the property that an element is about, in a document that means c -/
def abt (E : En) (f : AI) (c : Int32) (e : El) : Int32 := if e.2.2.1 = 1 then fs (pP (ePar E) (eOwn E) (eLet E) c (f e.2.1 - 97)) (eG E) 0 else -1
theorem abt_or {E : En} (f : AI) (c : Int32) (e : El) : abt E f c e = -1 ∨ ∃ p, p < eG E ∧ abt E f c e = nn p := by
  unfold abt
  by_cases h : e.2.2.1 = 1
  · rw [if_pos h]
    rcases fs_some (P := pP (ePar E) (eOwn E) (eLet E) c (f e.2.1 - 97)) (eG E) 0 with ⟨h1, _⟩ | ⟨j, _, h2, _, h4⟩
    · exact Or.inl h1
    · exact Or.inr ⟨j, by omega, h4⟩
  · rw [if_neg h]; exact Or.inl rfl
theorem a_letter {B : Nat} {f : AI} {els : List El} {j : Nat} {e : El} (hy : yI B f) (hl : els.length ≤ 58) (h : els[j]? = some e) (hg : gEl B f e) (a : AI) : fO_letter (nn j) (nn els.length) (wr a 0 (els.map eNm)) (nn B) f = some (if e.2.2.1 = 1 then f e.2.1 - 97 else -1) := by
  have hB := hy.1
  have hg0 := hg
  obtain ⟨g1, g2, g3, -⟩ := hg0
  unfold fO_letter
  rw [show fO_nameByte (nn j) (0 : Int32) (nn els.length) (wr a 0 (els.map eNm)) (nn B) f = _ from a_nameByte hB hl h hg 0 (by omega) a, o_bind, o_bind, show fO_nameByte (nn j) (1 : Int32) (nn els.length) (wr a 0 (els.map eNm)) (nn B) f = _ from a_nameByte hB hl h hg 1 (by omega) a, o_bind, Nat.add_zero]
  by_cases h0 : e.2.2.1 = 0
  · rw [h0, Nat.add_zero] at g3
    rw [if_pos (c := av B f e.2.1 ≤ 0) ((av_le0 hy _).mpr (by omega)), if_neg (by omega)]
  · have p0 := g2 e.2.1 (Nat.le_refl _) (by omega)
    rw [if_neg (c := av B f e.2.1 ≤ 0) (fun z => (av_le0 hy _).mp z ⟨by omega, p0.1⟩)]
    by_cases h1 : e.2.2.1 = 1
    · rw [h1] at g1 g3
      rw [if_pos (c := av B f (e.2.1 + 1) = 0) ((av_0 hy _).mpr ⟨g1, g3⟩), if_pos h1]
      unfold av
      rw [if_pos (show e.2.1 < B by omega)]
    · have p1 := g2 (e.2.1 + 1) (by omega) (by omega)
      rw [if_neg (c := av B f (e.2.1 + 1) = 0) (fun z => by have := (av_0 hy _).mp z; omega), if_neg h1]
theorem f_about {E : En} (hE : gE E) {N B : Nat} (hN : 200 ≤ N) {f : AI} {els : List El} {j : Nat} {e : El} (hy : yI B f) (hl : els.length ≤ 58) (h : els[j]? = some e) (hg : gEl B f e) (hho : e.2.2.2.2.1 < 25) (mt n h_ : AI) (hm : mt e.2.2.2.2.1 = -1 ∨ ∃ i, i < eC E ∧ mt e.2.2.2.2.1 = nn i) : fF_propertyFor N (nn j) mt (nn (eC E)) (nn (eG E)) (ePar E) (eOwn E) (eLet E) (nn B) f (nn els.length) (wr n 0 (els.map eNm)) (wr h_ 0 (els.map eHo)) = some (abt E f (mt e.2.2.2.2.1) e) := by
  obtain ⟨⟨hC, hG, hp, hu, hx⟩, -⟩ := hE
  unfold fF_propertyFor
  rw [a_holder hl h, o_bind]
  show (if nn e.2.2.2.2.1 < 0 then _ else _) = _
  rw [if_neg (nn_neg (by omega)), if_neg (c := (30 : Int32) ≤ eHo e) (by show ¬ (30 : Int32) ≤ nn e.2.2.2.2.1; rw [show (30 : Int32) = nn 30 from rfl, nn_le (by omega) (by omega)]; omega), if_pos (c := ok (eHo e) 30 = true) (nn_okt (show e.2.2.2.2.1 < 2147483648 by omega) (by omega)), a_letter hy hl h hg, o_bind, show (eHo e).toNatClampNeg = e.2.2.2.2.1 from nn_c (by omega), dP hC hG hp (by omega) _ hm, o_bind]
  unfold abt
  by_cases h1 : e.2.2.1 = 1
  · rw [if_pos h1, if_pos h1]
  · rw [if_neg h1, if_neg h1]
    rcases fs_some (P := pP (ePar E) (eOwn E) (eLet E) (mt e.2.2.2.2.1) (-1)) (eG E) 0 with ⟨q1, _⟩ | ⟨i, _, q2, q3, _⟩
    · rw [q1]
    · exfalso
      unfold pP at q3
      rw [Bool.and_eq_true, decide_eq_true_iff] at q3
      obtain ⟨k, hk, ek⟩ := (hx i (by omega)).2.1
      rw [ek] at q3
      exact nn_ne1 (by omega) q3.1
theorem m_about {E : En} (hE : gE E) {N B : Nat} (hN : 200 ≤ N) {f : AI} {els : List El} {j : Nat} {e : El} (hy : yI B f) (hl : els.length ≤ 58) (h : els[j]? = some e) (hg : gEl B f e) (hho : e.2.2.2.2.1 < 25) (mt s3 s5 s6 : AI) (hm : mt e.2.2.2.2.1 = -1 ∨ ∃ i, i < eC E ∧ mt e.2.2.2.2.1 = nn i) : fM_about N (nn j) (nn (eG E)) (ePar E) (eOwn E) (eLet E) f mt (wr s3 0 (els.map eHo)) (wr s5 0 (els.map eNm)) (wr s6 0 (els.map eNl)) = some (abt E f (mt e.2.2.2.2.1) e) := by
  have hB := hy.1
  obtain ⟨⟨hC, hG, hp, hu, hx⟩, -⟩ := hE
  obtain ⟨-, hok, hj⟩ := a_has hl h
  have g1 := hg.1
  unfold fM_about abt
  simp only [if_pos hok, nn_c (show j < 2147483648 by omega), wr_map eHo h, wr_map eNm h, wr_map eNl h]
  by_cases h1 : e.2.2.1 = 1
  · rw [if_pos (c := eNl e = (1 : Int32)) (by unfold eNl; rw [h1]; rfl), if_pos (c := ok (eHo e) 25 = true) (nn_okt (show e.2.2.2.2.1 < 2147483648 by omega) hho), if_pos (c := ok (eNm e) 120 = true) (nn_okt (show e.2.1 < 2147483648 by omega) (by omega)), if_pos h1, show (eHo e).toNatClampNeg = e.2.2.2.2.1 from nn_c (by omega), show (eNm e).toNatClampNeg = e.2.1 from nn_c (by omega), mF hC hG hp (by omega) _ hm (pP_u hC hp hu _ hm), o_bind]
  · rw [if_neg (c := eNl e = (1 : Int32)) (fun z => h1 ((nn_eq (b := 1) (show e.2.2.1 < 2147483648 by omega) (by omega)).mp z)), if_neg h1]
