/-! fitting, the reference: the elements of a document -/
def seenP (E : En) (f : AI) (d : Nat) (c : Int32) (pre : List El) : List Int32 := (pre.filter (isCd f d)).map (abt E f c)
def anyP (E : En) (f : AI) (d : Nat) (c : Int32) (p : Nat) (l : List El) : Bool := l.any (fun e => isCd f d e && decide (abt E f c e = nn p))
theorem any_seen {E : En} {f : AI} {d : Nat} {c : Int32} {p : Nat} (l : List El) : anyP E f d c p l = true ↔ nn p ∈ seenP E f d c l := by
  unfold anyP seenP
  rw [List.any_eq_true, List.mem_map]
  constructor
  · rintro ⟨e, h1, h2⟩
    rw [Bool.and_eq_true, decide_eq_true_iff] at h2
    exact ⟨e, List.mem_filter.mpr ⟨h1, h2.1⟩, h2.2⟩
  · rintro ⟨e, h1, h2⟩
    obtain ⟨h3, h4⟩ := List.mem_filter.mp h1
    exact ⟨e, h3, by rw [h4, decide_eq_true h2]; rfl⟩
section MFI
variable {E : En} {N B : Nat} {f : AI} {els : List El} {d : Nat} (s3 s4 s5 s6 s7 s8 : AI)
theorem m_in (hE : gE E) (hN : 200 ≤ N) (hy : yI B f) (hl : els.length ≤ 58) (hg : ∀ e, e ∈ els → gEl B f e) (hch : chOk els) (hd : d < 25) (dm nd : AI) (hm : dm d = -1 ∨ ∃ x, x < eC E ∧ dm d = nn x) {j p : Nat} {e : El} (hge : els[j]? = some e) (hp : p < eG E) (rc : Int32 × AI → Option (Bool × AI × AI)) : ∀ (k i q : Nat), i + k = j → k < q → fM_fits_71l N (nn d) (nn (eC E)) (nn (eG E)) (nn els.length) (ePar E) (eOwn E) (eLet E) (eSor E) (eTar E) f (wr s3 0 (els.map eHo)) (wr s4 0 (els.map eTy)) (wr s5 0 (els.map eNm)) (wr s6 0 (els.map eNl)) (wr s7 0 (els.map eCt)) (wr s8 0 (els.map eCh)) (nn j) (nn p) nd dm rc q (nn i) = if anyP E f d (dm d) p ((els.drop i).take k) = true then some (false, nd, dm) else rc (nn (j + 1), apN nd (if e.1 = 3 then [(chN e, eTar E p)] else [])) := by
  have hG := hE.1.2.1
  have hjl := (List.getElem?_eq_some_iff.mp hge).1
  obtain ⟨c1, c2, c3⟩ := hch e (List.mem_of_getElem? hge)
  obtain ⟨-, hok, -⟩ := a_has hl hge
  intro k
  induction k with
  | zero =>
    intro i q hi hq
    obtain ⟨q, rfl⟩ : ∃ z, q = z + 1 := ⟨q - 1, by omega⟩
    show fM_fits_71 N (nn d) (nn (eC E)) (nn (eG E)) (nn els.length) (ePar E) (eOwn E) (eLet E) (eSor E) (eTar E) f (wr s3 0 (els.map eHo)) (wr s4 0 (els.map eTy)) (wr s5 0 (els.map eNm)) (wr s6 0 (els.map eNl)) (wr s7 0 (els.map eCt)) (wr s8 0 (els.map eCh)) (nn j) (nn p) nd dm rc (fM_fits_71l N (nn d) (nn (eC E)) (nn (eG E)) (nn els.length) (ePar E) (eOwn E) (eLet E) (eSor E) (eTar E) f (wr s3 0 (els.map eHo)) (wr s4 0 (els.map eTy)) (wr s5 0 (els.map eNm)) (wr s6 0 (els.map eNl)) (wr s7 0 (els.map eCt)) (wr s8 0 (els.map eCh)) (nn j) (nn p) nd dm rc q) (nn i) = _
    unfold fM_fits_71
    rw [if_pos (c := nn j ≤ nn i) (by rw [nn_le (by omega) (by omega)]; omega), List.take_zero, if_neg (c := anyP E f d (dm d) p [] = true) (by unfold anyP; simp)]
    simp only [if_pos hok, nn_c (show j < 2147483648 by omega), wr_map eCh hge, if_pos (nn_okt (show p < 2147483648 by omega) (show p < 8 by omega)), nn_c (show p < 2147483648 by omega), nn_s]
    by_cases h5 : e.1 = 3
    · obtain ⟨k1, k2⟩ := c2 h5
      rw [if_pos h5, k2, if_neg (nn_neg (by omega)), if_pos (nn_okt (by omega) (by omega)), nn_c (by omega)]
      rfl
    · rw [if_neg h5, c3 h5, if_pos neg1_lt]
      rfl
  | succ k ih =>
    intro i q hi hq
    obtain ⟨q, rfl⟩ : ∃ z, q = z + 1 := ⟨q - 1, by omega⟩
    show fM_fits_71 N (nn d) (nn (eC E)) (nn (eG E)) (nn els.length) (ePar E) (eOwn E) (eLet E) (eSor E) (eTar E) f (wr s3 0 (els.map eHo)) (wr s4 0 (els.map eTy)) (wr s5 0 (els.map eNm)) (wr s6 0 (els.map eNl)) (wr s7 0 (els.map eCt)) (wr s8 0 (els.map eCh)) (nn j) (nn p) nd dm rc (fM_fits_71l N (nn d) (nn (eC E)) (nn (eG E)) (nn els.length) (ePar E) (eOwn E) (eLet E) (eSor E) (eTar E) f (wr s3 0 (els.map eHo)) (wr s4 0 (els.map eTy)) (wr s5 0 (els.map eNm)) (wr s6 0 (els.map eNl)) (wr s7 0 (els.map eCt)) (wr s8 0 (els.map eCh)) (nn j) (nn p) nd dm rc q) (nn i) = _
    have hlt : i < els.length := by omega
    have hgi : els[i]? = some els[i] := List.getElem?_eq_getElem hlt
    have hgg := hg _ (List.getElem_mem hlt)
    obtain ⟨d1, d2, d3⟩ := hch _ (List.getElem_mem hlt)
    obtain ⟨-, hok2, -⟩ := a_has hl hgi
    rw [List.drop_eq_getElem_cons hlt, List.take_succ_cons]
    have hany : anyP E f d (dm d) p (els[i] :: (els.drop (i + 1)).take k) = ((isCd f d els[i] && decide (abt E f (dm d) els[i] = nn p)) || anyP E f d (dm d) p ((els.drop (i + 1)).take k)) := rfl
    rw [hany]
    unfold fM_fits_71
    have qh : eHo els[i] = nn d ↔ els[i].2.2.2.2.1 = d := nn_eq (by omega) (by omega)
    rw [if_neg (c := nn j ≤ nn i) (by rw [nn_le (by omega) (by omega)]; omega), if_pos (c := ok (nn i) 60 = true) hok2, nn_c (show i < 2147483648 by omega), wr_map eHo hgi, m_isMark hy hl hgi hgg, o_bind, nn_s, ih (i + 1) q (by omega) (by omega)]
    by_cases h1 : els[i].2.2.2.2.1 = d
    · rw [if_pos (c := eHo els[i] = nn d) (qh.mpr h1)]
      by_cases h2 : mk f els[i] = true
      · have hi : isCd f d els[i] = false := by unfold isCd; rw [h2]; simp
        rw [if_pos (c := mk f els[i] = true) h2, hi, Bool.false_and, Bool.false_or]
      · have hi : isCd f d els[i] = true := by
          unfold isCd
          rw [decide_eq_true h1]
          cases q : mk f els[i] with
          | true => exact absurd q h2
          | false => rfl
        have hab := m_about hE hN hy hl hgi hgg d1 dm s3 s5 s6 (by rw [h1]; exact hm)
        rw [h1] at hab
        rw [if_neg (c := mk f els[i] = true) h2, hab, o_bind, hi, Bool.true_and]
        by_cases h3 : abt E f (dm d) els[i] = nn p
        · rw [if_pos h3, decide_eq_true h3, Bool.true_or, if_pos (c := true = true) rfl]
        · rw [if_neg h3, decide_eq_false h3, Bool.false_or]
    · have hi : isCd f d els[i] = false := by unfold isCd; rw [decide_eq_false h1]; simp
      rw [if_neg (c := eHo els[i] = nn d) (fun z => h1 (qh.mp z)), hi, Bool.false_and, Bool.false_or]
theorem m_el12 (hE : gE E) (hN : 200 ≤ N) (hy : yI B f) (hl : els.length ≤ 58) (hg : ∀ e, e ∈ els → gEl B f e) (hch : chOk els) (hd : d < 25) (dm : AI) (hm : dm d = -1 ∨ ∃ x, x < eC E ∧ dm d = nn x) : ∀ (k j q : Nat) (nd : AI), j + k = els.length → k < q → (∀ u, efS E f d (dm d) (els.drop j) (seenP E f d (dm d) (els.take j)) = some u → fM_fits_12l N (nn d) (nn (eC E)) (nn (eG E)) (nn els.length) (ePar E) (eOwn E) (eLet E) (eSor E) (eTar E) f (wr s3 0 (els.map eHo)) (wr s4 0 (els.map eTy)) (wr s5 0 (els.map eNm)) (wr s6 0 (els.map eNl)) (wr s7 0 (els.map eCt)) (wr s8 0 (els.map eCh)) dm q (nn j, nd) = some (true, apN nd u, dm)) ∧ (efS E f d (dm d) (els.drop j) (seenP E f d (dm d) (els.take j)) = none → ∃ a b, fM_fits_12l N (nn d) (nn (eC E)) (nn (eG E)) (nn els.length) (ePar E) (eOwn E) (eLet E) (eSor E) (eTar E) f (wr s3 0 (els.map eHo)) (wr s4 0 (els.map eTy)) (wr s5 0 (els.map eNm)) (wr s6 0 (els.map eNl)) (wr s7 0 (els.map eCt)) (wr s8 0 (els.map eCh)) dm q (nn j, nd) = some (false, a, b)) := by
  have hG := hE.1.2.1
  intro k
  induction k with
  | zero =>
    intro j q nd hj hq
    obtain ⟨q, rfl⟩ : ∃ z, q = z + 1 := ⟨q - 1, by omega⟩
    rw [List.drop_eq_nil_of_le (by omega)]
    refine ⟨fun u hu => ?_, fun hu => (by cases hu)⟩
    cases hu
    show fM_fits_12 N (nn d) (nn (eC E)) (nn (eG E)) (nn els.length) (ePar E) (eOwn E) (eLet E) (eSor E) (eTar E) f (wr s3 0 (els.map eHo)) (wr s4 0 (els.map eTy)) (wr s5 0 (els.map eNm)) (wr s6 0 (els.map eNl)) (wr s7 0 (els.map eCt)) (wr s8 0 (els.map eCh)) dm (fM_fits_12l N (nn d) (nn (eC E)) (nn (eG E)) (nn els.length) (ePar E) (eOwn E) (eLet E) (eSor E) (eTar E) f (wr s3 0 (els.map eHo)) (wr s4 0 (els.map eTy)) (wr s5 0 (els.map eNm)) (wr s6 0 (els.map eNl)) (wr s7 0 (els.map eCt)) (wr s8 0 (els.map eCh)) dm q) (nn j) nd = _
    unfold fM_fits_12
    rw [if_pos (by rw [nn_le (by omega) (by omega)]; omega)]
    rfl
  | succ k ih =>
    intro j q nd hj hq
    obtain ⟨q, rfl⟩ : ∃ z, q = z + 1 := ⟨q - 1, by omega⟩
    have hlt : j < els.length := by omega
    have hge : els[j]? = some els[j] := List.getElem?_eq_getElem hlt
    have hgj := hg _ (List.getElem_mem hlt)
    obtain ⟨c1, c2, c3⟩ := hch _ (List.getElem_mem hlt)
    obtain ⟨-, hok, -⟩ := a_has hl hge
    have htake : els.take (j + 1) = els.take j ++ [els[j]] := by rw [List.take_succ, hge]; rfl
    have hih := ih (j + 1) q
    rw [htake] at hih
    rw [List.drop_eq_getElem_cons hlt, efS]
    generalize hej : els[j] = e at *
    have qh : eHo e = nn d ↔ e.2.2.2.2.1 = d := nn_eq (by omega) (by omega)
    have hstep : fM_fits_12l N (nn d) (nn (eC E)) (nn (eG E)) (nn els.length) (ePar E) (eOwn E) (eLet E) (eSor E) (eTar E) f (wr s3 0 (els.map eHo)) (wr s4 0 (els.map eTy)) (wr s5 0 (els.map eNm)) (wr s6 0 (els.map eNl)) (wr s7 0 (els.map eCt)) (wr s8 0 (els.map eCh)) dm (q + 1) (nn j, nd) = fM_fits_12 N (nn d) (nn (eC E)) (nn (eG E)) (nn els.length) (ePar E) (eOwn E) (eLet E) (eSor E) (eTar E) f (wr s3 0 (els.map eHo)) (wr s4 0 (els.map eTy)) (wr s5 0 (els.map eNm)) (wr s6 0 (els.map eNl)) (wr s7 0 (els.map eCt)) (wr s8 0 (els.map eCh)) dm (fM_fits_12l N (nn d) (nn (eC E)) (nn (eG E)) (nn els.length) (ePar E) (eOwn E) (eLet E) (eSor E) (eTar E) f (wr s3 0 (els.map eHo)) (wr s4 0 (els.map eTy)) (wr s5 0 (els.map eNm)) (wr s6 0 (els.map eNl)) (wr s7 0 (els.map eCt)) (wr s8 0 (els.map eCh)) dm q) (nn j) nd := rfl
    rw [hstep]
    unfold fM_fits_12
    rw [if_neg (c := nn els.length ≤ nn j) (by rw [nn_le (by omega) (by omega)]; omega)]
    simp only [if_pos hok, nn_c (show j < 2147483648 by omega), wr_map eHo hge, wr_map eTy hge, m_isMark hy hl hge hgj, o_bind, nn_s]
    by_cases h1 : e.2.2.2.2.1 = d
    · rw [if_pos (c := eHo e = nn d) (qh.mpr h1)]
      by_cases h2 : mk f e = true
      · have hi : ¬ isCd f d e = true := by unfold isCd; rw [h2]; simp
        have hsn : seenP E f d (dm d) (els.take j ++ [e]) = seenP E f d (dm d) (els.take j) := by
          unfold seenP
          rw [List.filter_append, List.filter_cons, if_neg hi]
          simp
        rw [if_neg hi, if_pos (c := mk f e = true) h2, ← hsn]
        exact hih nd (by omega) (by omega)
      · have hi : isCd f d e = true := by
          unfold isCd
          rw [decide_eq_true h1]
          cases q : mk f e with
          | true => exact absurd q h2
          | false => rfl
        have hsn : seenP E f d (dm d) (els.take j ++ [e]) = seenP E f d (dm d) (els.take j) ++ [abt E f (dm d) e] := by
          unfold seenP
          rw [List.filter_append, List.filter_cons, if_pos hi]
          simp
        have hab := m_about hE hN hy hl hge hgj c1 dm s3 s5 s6 (by rw [h1]; exact hm)
        rw [h1] at hab
        rw [if_pos hi, if_neg (c := mk f e = true) h2, hab, o_bind]
        rcases abt_or (E := E) f (dm d) e with ea | ⟨p, hp, ea⟩
        · rw [ea, if_pos (c := (-1 : Int32) < 0) neg1_lt, if_pos (Or.inl neg1_lt)]
          exact ⟨fun u hu => (by cases hu), fun _ => ⟨_, _, rfl⟩⟩
        · rw [ea] at hsn ⊢
          rw [if_neg (c := nn p < 0) (nn_neg (by omega)), if_pos (c := ok (nn p) 8 = true) (nn_okt (by omega) (by omega)), nn_c (show p < 2147483648 by omega), m_alw, o_bind]
          by_cases h3 : alw (eSor E p) (eTy e) = true
          · rw [if_pos (c := alw (eSor E p) (eTy e) = true) h3]
            have hin := m_in (N := N) s3 s4 s5 s6 s7 s8 hE hN hy hl hg hch hd dm nd hm hge hp (fM_fits_12l N (nn d) (nn (eC E)) (nn (eG E)) (nn els.length) (ePar E) (eOwn E) (eLet E) (eSor E) (eTar E) f (wr s3 0 (els.map eHo)) (wr s4 0 (els.map eTy)) (wr s5 0 (els.map eNm)) (wr s6 0 (els.map eNl)) (wr s7 0 (els.map eCt)) (wr s8 0 (els.map eCh)) dm q) j 0 N (by omega) (by omega)
            rw [show fM_fits_71l N (nn d) (nn (eC E)) (nn (eG E)) (nn els.length) (ePar E) (eOwn E) (eLet E) (eSor E) (eTar E) f (wr s3 0 (els.map eHo)) (wr s4 0 (els.map eTy)) (wr s5 0 (els.map eNm)) (wr s6 0 (els.map eNl)) (wr s7 0 (els.map eCt)) (wr s8 0 (els.map eCh)) (nn j) (nn p) nd dm (fM_fits_12l N (nn d) (nn (eC E)) (nn (eG E)) (nn els.length) (ePar E) (eOwn E) (eLet E) (eSor E) (eTar E) f (wr s3 0 (els.map eHo)) (wr s4 0 (els.map eTy)) (wr s5 0 (els.map eNm)) (wr s6 0 (els.map eNl)) (wr s7 0 (els.map eCt)) (wr s8 0 (els.map eCh)) dm q) N (0 : Int32) = _ from hin, List.drop_zero]
            by_cases h4 : nn p ∈ seenP E f d (dm d) (els.take j)
            · rw [if_pos ((any_seen _).mpr h4), if_pos (Or.inr (Or.inr h4))]
              exact ⟨fun u hu => (by cases hu), fun _ => ⟨_, _, rfl⟩⟩
            · rw [if_neg (fun z => h4 ((any_seen _).mp z)), if_neg (fun z => z.elim (fun a => nn_neg (by omega) a) (fun a => a.elim (fun b => by rw [h3] at b; cases b) h4))]
              rw [hsn] at hih
              obtain ⟨i1, i2⟩ := hih (apN nd (if e.1 = 3 then [(chN e, eTar E p)] else [])) (by omega) (by omega)
              constructor
              · intro u hu
                cases hr : efS E f d (dm d) (els.drop (j + 1)) (seenP E f d (dm d) (els.take j) ++ [nn p]) with
                | none => rw [hr] at hu; cases hu
                | some u2 =>
                  rw [hr] at hu
                  cases hu
                  rw [i1 u2 hr]
                  unfold apN
                  rw [List.foldl_append]
              · intro hu
                cases hr : efS E f d (dm d) (els.drop (j + 1)) (seenP E f d (dm d) (els.take j) ++ [nn p]) with
                | none => exact i2 hr
                | some u2 => rw [hr] at hu; cases hu
          · have h3f : alw (eSor E p) (eTy e) = false := by cases q : alw (eSor E p) (eTy e) with
              | true => exact absurd q h3
              | false => rfl
            rw [if_neg (c := alw (eSor E p) (eTy e) = true) h3, if_pos (Or.inr (Or.inl h3f))]
            exact ⟨fun u hu => (by cases hu), fun _ => ⟨_, _, rfl⟩⟩
    · have hi : ¬ isCd f d e = true := by unfold isCd; rw [decide_eq_false h1]; simp
      have hsn : seenP E f d (dm d) (els.take j ++ [e]) = seenP E f d (dm d) (els.take j) := by
        unfold seenP
        rw [List.filter_append, List.filter_cons, if_neg hi]
        simp
      rw [if_neg (c := eHo e = nn d) (fun z => h1 (qh.mp z)), if_neg hi, ← hsn]
      exact hih nd (by omega) (by omega)
end MFI
/-- what is wanted: agreement and classes -/
theorem apN_or : ∀ (u : List (Nat × Int32)) (x : Nat), (∃ v, (x, v) ∈ u ∧ ∀ w, apN w u x = v) ∨ ((∀ v, (x, v) ∉ u) ∧ ∀ w, apN w u x = w x)
  | [], x => Or.inr ⟨fun v h => (by cases h), fun w => rfl⟩
  | (y, z) :: u, x => by
    rcases apN_or u x with ⟨v, h1, h2⟩ | ⟨h1, h2⟩
    · exact Or.inl ⟨v, List.mem_cons_of_mem _ h1, fun w => h2 (upd w y z)⟩
    · by_cases e : x = y
      · subst e
        refine Or.inl ⟨z, List.mem_cons_self, fun w => ?_⟩
        show apN (upd w x z) u x = z
        rw [h2, upd_at]
      · refine Or.inr ⟨fun v hv => ?_, fun w => ?_⟩
        · rcases List.mem_cons.mp hv with q | q
          · cases q; exact e rfl
          · exact h1 v q
        · show apN (upd w y z) u x = w x
          rw [h2, upd_ne _ _ e]
theorem isKc_self {E : En} (hE : gE E) {i : Nat} (hi : i < eC E) : isKc E (nn i) (nn i) = true := by
  have hC := hE.1.1
  unfold isKc clB
  rw [isK_rf hC hE.1.2.2.1 hi, decide_eq_true (by rw [nn_i (by omega)]; omega)]
  rfl
theorem efS_ok {E : En} (hE : gE E) {f : AI} {d : Nat} {c : Int32} : ∀ (l : List El) (seen : List Int32) (u : List (Nat × Int32)), efS E f d c l seen = some u → (∀ x v, (x, v) ∈ u → ∃ i, i < eC E ∧ v = nn i) ∧ ∀ e, e ∈ l → isCd f d e = true → e.1 = 3 → ∃ v, (chN e, v) ∈ u
  | [], _, u, h => by
    cases h
    exact ⟨fun x v h => (by cases h), fun e he => (by cases he)⟩
  | e :: l, seen, u, h => by
    rw [efS] at h
    by_cases hi : isCd f d e = true
    · rw [if_pos hi] at h
      rcases abt_or (E := E) f c e with ea | ⟨p, hp, ea⟩
      · rw [if_pos (Or.inl (by rw [ea]; exact neg1_lt))] at h; cases h
      · by_cases hb : abt E f c e < 0 ∨ alw (eSor E (abt E f c e).toNatClampNeg) (eTy e) = false ∨ abt E f c e ∈ seen
        · rw [if_pos hb] at h; cases h
        · rw [if_neg hb] at h
          cases hr : efS E f d c l (seen ++ [abt E f c e]) with
          | none => rw [hr] at h; cases h
          | some u2 =>
            rw [hr] at h
            cases h
            have hG := hE.1.2.1
            obtain ⟨i1, i2⟩ := efS_ok hE l _ u2 hr
            have hpn : (abt E f c e).toNatClampNeg = p := by rw [ea]; exact nn_c (by omega)
            refine ⟨fun x v hv => ?_, fun e' he' hc h3 => ?_⟩
            · rcases List.mem_append.mp hv with q | q
              · by_cases h3 : e.1 = 3
                · rw [if_pos h3] at q
                  have := List.mem_singleton.mp q
                  cases this
                  rw [hpn]
                  refine (hE.1.2.2.2.2 p hp).2.2.2 ?_
                  have ha : alw (eSor E p) (eTy e) = true := by
                    rw [hpn] at hb
                    cases qq : alw (eSor E p) (eTy e) with
                    | true => rfl
                    | false => exact absurd (Or.inr (Or.inl qq)) hb
                  have et : eTy e = 3 := by unfold eTy; rw [h3]; rfl
                  rw [et] at ha
                  unfold alw at ha
                  by_cases hs : eSor E p = 3
                  · exact hs
                  · rw [if_neg hs] at ha
                    split at ha
                    · exact absurd ha (by decide)
                    · split at ha
                      · exact absurd ha (by decide)
                      · exact absurd ha (by decide)
                · rw [if_neg h3] at q; cases q
              · exact i1 x v q
            · rcases List.mem_cons.mp he' with q | q
              · subst q
                exact ⟨_, List.mem_append_left _ (by rw [if_pos h3]; exact List.mem_cons_self)⟩
              · obtain ⟨v, hv⟩ := i2 e' q hc h3
                exact ⟨v, List.mem_append_right _ hv⟩
    · rw [if_neg hi] at h
      obtain ⟨i1, i2⟩ := efS_ok hE l seen u h
      refine ⟨i1, fun e' he' hc h3 => ?_⟩
      rcases List.mem_cons.mp he' with q | q
      · subst q; exact absurd hc hi
      · exact i2 e' q hc h3
