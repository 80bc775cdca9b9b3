/-! fitting: all documents, both sides -/
def AG (E : En) (f : AI) (els : List El) (d : Nat) (w nd mt dm : AI) : Prop := (∀ x, (x = 0 ∨ ∃ e, e ∈ els ∧ e.1 = 3 ∧ chN e = x ∧ e.2.2.2.2.1 < d) → w x = nd x ∧ ∃ i, i < eC E ∧ w x = nn i) ∧ (∀ x, x < d → mt x = dm x ∧ ∃ i, i < eC E ∧ mt x = nn i) ∧ (∀ e, e ∈ els → e.2.2.2.2.1 < d → mk f e = false → ∃ p, p < eG E ∧ abt E f (mt e.2.2.2.2.1) e = nn p ∧ alw (eSor E p) (eTy e) = true) ∧ ∀ x, x < d → els.Pairwise (fun a b => isCd f x a = true → isCd f x b = true → abt E f (mt x) a ≠ abt E f (mt x) b)
theorem isKc_cl {E : En} {a b : Int32} (h : isKc E a b = true) : ∃ i, i < eC E ∧ a = nn i := by
  unfold isKc at h
  rw [Bool.and_eq_true] at h
  exact clB_t h.1
theorem finM_md {E : En} {f : AI} {w : Int32} : ∀ (ms : List El) (c : Int32) (n : Nat) (v : Int32), finM E f w c n ms = some v → ∀ e, e ∈ ms → e.1 = 2
  | [], _, _, _, _, e, he => by cases he
  | x :: ms, c, n, v, h, e, he => by
    rw [finM] at h
    by_cases hk : isKc E (mcl f x) w = true
    · rw [if_pos hk] at h
      rcases List.mem_cons.mp he with q | q
      · subst q
        by_cases h2 : e.1 = 2
        · exact h2
        · have : mcl f e = -1 := by unfold mcl; rw [if_neg (fun z => h2 z.1)]
          rw [this, isKc_n1] at hk; cases hk
      · exact finM_md ms _ _ v h e q
    · rw [if_neg hk] at h; cases h
theorem efS_ab {E : En} {f : AI} {d : Nat} {c : Int32} : ∀ (l : List El) (seen : List Int32) (u : List (Nat × Int32)), efS E f d c l seen = some u → (∀ e, e ∈ l → isCd f d e = true → abt E f c e ∉ seen ∧ ∃ p, p < eG E ∧ abt E f c e = nn p ∧ (eG E ≤ 8 → alw (eSor E p) (eTy e) = true)) ∧ l.Pairwise (fun a b => isCd f d a = true → isCd f d b = true → abt E f c a ≠ abt E f c b)
  | [], _, u, h => ⟨fun e he => (by cases he), List.Pairwise.nil⟩
  | e :: l, seen, u, h => by
    rw [efS] at h
    by_cases hi : isCd f d e = true
    · rw [if_pos hi] at h
      by_cases hb : abt E f c e < 0 ∨ alw (eSor E (abt E f c e).toNatClampNeg) (eTy e) = false ∨ abt E f c e ∈ seen
      · rw [if_pos hb] at h; cases h
      · rw [if_neg hb] at h
        cases hr : efS E f d c l (seen ++ [abt E f c e]) with
        | none => rw [hr] at h; cases h
        | some u2 =>
          obtain ⟨i1, i2⟩ := efS_ab l _ u2 hr
          refine ⟨fun e' he' hc => ?_, List.Pairwise.cons (fun b hb2 _ hcb => ?_) i2⟩
          · rcases List.mem_cons.mp he' with q | q
            · subst q
              refine ⟨fun z => hb (Or.inr (Or.inr z)), ?_⟩
              rcases abt_or (E := E) f c e' with ea | ⟨p, hp, ea⟩
              · exact absurd (Or.inl (by rw [ea]; exact neg1_lt)) hb
              · refine ⟨p, hp, ea, fun hG => ?_⟩
                rw [ea, nn_c (by omega)] at hb
                cases qq : alw (eSor E p) (eTy e') with
                | true => rfl
                | false => exact absurd (Or.inr (Or.inl qq)) hb
            · obtain ⟨j1, j2⟩ := i1 e' q hc
              exact ⟨fun z => j1 (List.mem_append_left _ z), j2⟩
          · have := (i1 b hb2 hcb).1
            exact fun z => this (List.mem_append_right _ (by rw [z]; exact List.mem_singleton.mpr rfl))
    · rw [if_neg hi] at h
      obtain ⟨i1, i2⟩ := efS_ab l seen u h
      refine ⟨fun e' he' hc => ?_, List.Pairwise.cons (fun b _ hc _ => absurd hc hi) i2⟩
      rcases List.mem_cons.mp he' with q | q
      · subst q; exact absurd hc hi
      · exact i1 e' q hc
section FBOTH
variable {E : En} {N B D : Nat} {f : AI} {els : List El}
theorem f_stop (v1 : Int32) (t n c h i : AI) (q : Nat) (x : Int32) (w mt : AI) : ∃ a b, fF_fits_11l N v1 (nn (eC E)) (nn (eG E)) (ePar E) (eOwn E) (eLet E) (eSor E) (eTar E) (nn B) f (nn els.length) (nn D) (wr t 0 (els.map eTy)) (wr n 0 (els.map eNm)) (wr c 0 (els.map eCt)) (wr h 0 (els.map eHo)) (wr i 0 (els.map eCh)) (q + 1) (false, x, w, mt) = some (false, a, b) := by
  show ∃ a b, fF_fits_11 N v1 (nn (eC E)) (nn (eG E)) (ePar E) (eOwn E) (eLet E) (eSor E) (eTar E) (nn B) f (nn els.length) (nn D) (wr t 0 (els.map eTy)) (wr n 0 (els.map eNm)) (wr c 0 (els.map eCt)) (wr h 0 (els.map eHo)) (wr i 0 (els.map eCh)) (fF_fits_11l N v1 (nn (eC E)) (nn (eG E)) (ePar E) (eOwn E) (eLet E) (eSor E) (eTar E) (nn B) f (nn els.length) (nn D) (wr t 0 (els.map eTy)) (wr n 0 (els.map eNm)) (wr c 0 (els.map eCt)) (wr h 0 (els.map eHo)) (wr i 0 (els.map eCh)) q) false x w mt = some (false, a, b)
  unfold fF_fits_11
  by_cases hx : nn D ≤ x
  · rw [if_pos hx]; exact ⟨_, _, rfl⟩
  · rw [if_neg hx, if_neg (c := false = true) (by decide)]; exact ⟨_, _, rfl⟩
/-- one document -/
theorem fit_one (hE : gE E) (hN : 200 ≤ N) (hy : yI B f) (hl : els.length ≤ 58) (hg : ∀ e, e ∈ els → gEl B f e) (hch : chOk els) (hD : D ≤ 24) {d : Nat} (hd : d < D) (v1 : Int32) (t n c h i w nd mt dm s3 s4 s5 s6 s7 s8 : AI) (hag : AG E f els d w nd mt dm) (hset : d = 0 ∨ ∃ e, e ∈ els ∧ e.1 = 3 ∧ chN e = d ∧ e.2.2.2.2.1 < d) :
    (∃ w' mt' nd' dm', (∀ q, fF_fits_11l N v1 (nn (eC E)) (nn (eG E)) (ePar E) (eOwn E) (eLet E) (eSor E) (eTar E) (nn B) f (nn els.length) (nn D) (wr t 0 (els.map eTy)) (wr n 0 (els.map eNm)) (wr c 0 (els.map eCt)) (wr h 0 (els.map eHo)) (wr i 0 (els.map eCh)) (q + 1) (true, nn d, w, mt) = fF_fits_11l N v1 (nn (eC E)) (nn (eG E)) (ePar E) (eOwn E) (eLet E) (eSor E) (eTar E) (nn B) f (nn els.length) (nn D) (wr t 0 (els.map eTy)) (wr n 0 (els.map eNm)) (wr c 0 (els.map eCt)) (wr h 0 (els.map eHo)) (wr i 0 (els.map eCh)) q (true, nn (d + 1), w', mt')) ∧ fM_fits N (nn d) (nn (eC E)) (nn (eG E)) (nn els.length) (ePar E) (eOwn E) (eLet E) (eSor E) (eTar E) f nd dm (wr s3 0 (els.map eHo)) (wr s4 0 (els.map eTy)) (wr s5 0 (els.map eNm)) (wr s6 0 (els.map eNl)) (wr s7 0 (els.map eCt)) (wr s8 0 (els.map eCh)) = some (true, nd', dm') ∧ AG E f els (d + 1) w' nd' mt' dm') ∨
    ((∀ q, ∃ a b, fF_fits_11l N v1 (nn (eC E)) (nn (eG E)) (ePar E) (eOwn E) (eLet E) (eSor E) (eTar E) (nn B) f (nn els.length) (nn D) (wr t 0 (els.map eTy)) (wr n 0 (els.map eNm)) (wr c 0 (els.map eCt)) (wr h 0 (els.map eHo)) (wr i 0 (els.map eCh)) (q + 2) (true, nn d, w, mt) = some (false, a, b)) ∧ ∃ a b, fM_fits N (nn d) (nn (eC E)) (nn (eG E)) (nn els.length) (ePar E) (eOwn E) (eLet E) (eSor E) (eTar E) f nd dm (wr s3 0 (els.map eHo)) (wr s4 0 (els.map eTy)) (wr s5 0 (els.map eNm)) (wr s6 0 (els.map eNl)) (wr s7 0 (els.map eCt)) (wr s8 0 (els.map eCh)) = some (false, a, b)) := by
  obtain ⟨hwn, iW, hiW, eW⟩ := hag.1 d hset
  have hWW : isKc E (w d) (w d) = true := by rw [eW]; exact isKc_self hE hiW
  have hh : ∀ e, e ∈ els → e.2.2.2.2.1 < 1000 := fun e he => by have := (hch e he).1; omega
  have hfm := f_mean hE hN hy hl hg (show d < 25 by omega) hh w t n c h
  obtain ⟨m1, m2⟩ := m_mean hE hN hy hl hg (show d < 25 by omega) hh nd dm s3 s4 s5 s6 s7
  obtain ⟨fs1, fs2⟩ := fin_same (f := f) hWW (els.filter (isMd f d))
  have hok : ok (nn d) 30 = true := nn_okt (by omega) (by omega)
  have hstep : ∀ q, fF_fits_11l N v1 (nn (eC E)) (nn (eG E)) (ePar E) (eOwn E) (eLet E) (eSor E) (eTar E) (nn B) f (nn els.length) (nn D) (wr t 0 (els.map eTy)) (wr n 0 (els.map eNm)) (wr c 0 (els.map eCt)) (wr h 0 (els.map eHo)) (wr i 0 (els.map eCh)) (q + 1) (true, nn d, w, mt) = (if (upd mt d (finC E f (w d) (w d) 0 (els.filter (isMd f d)))) d = -1 then fF_fits_11l N v1 (nn (eC E)) (nn (eG E)) (ePar E) (eOwn E) (eLet E) (eSor E) (eTar E) (nn B) f (nn els.length) (nn D) (wr t 0 (els.map eTy)) (wr n 0 (els.map eNm)) (wr c 0 (els.map eCt)) (wr h 0 (els.map eHo)) (wr i 0 (els.map eCh)) q (false, nn (d + 1), w, upd mt d (finC E f (w d) (w d) 0 (els.filter (isMd f d)))) else ((fF_elementsFit N (nn d) w (upd mt d (finC E f (w d) (w d) 0 (els.filter (isMd f d)))) (nn (eC E)) (nn (eG E)) (ePar E) (eOwn E) (eLet E) (eSor E) (eTar E) (nn B) f (nn els.length) (wr t 0 (els.map eTy)) (wr n 0 (els.map eNm)) (wr h 0 (els.map eHo)) (wr i 0 (els.map eCh))).bind fun u49 => (if u49.1 = true then fF_fits_11l N v1 (nn (eC E)) (nn (eG E)) (ePar E) (eOwn E) (eLet E) (eSor E) (eTar E) (nn B) f (nn els.length) (nn D) (wr t 0 (els.map eTy)) (wr n 0 (els.map eNm)) (wr c 0 (els.map eCt)) (wr h 0 (els.map eHo)) (wr i 0 (els.map eCh)) q (true, nn (d + 1), u49.2, upd mt d (finC E f (w d) (w d) 0 (els.filter (isMd f d)))) else fF_fits_11l N v1 (nn (eC E)) (nn (eG E)) (ePar E) (eOwn E) (eLet E) (eSor E) (eTar E) (nn B) f (nn els.length) (nn D) (wr t 0 (els.map eTy)) (wr n 0 (els.map eNm)) (wr c 0 (els.map eCt)) (wr h 0 (els.map eHo)) (wr i 0 (els.map eCh)) q (false, nn (d + 1), u49.2, upd mt d (finC E f (w d) (w d) 0 (els.filter (isMd f d))))))) := by
    intro q
    show fF_fits_11 N v1 (nn (eC E)) (nn (eG E)) (ePar E) (eOwn E) (eLet E) (eSor E) (eTar E) (nn B) f (nn els.length) (nn D) (wr t 0 (els.map eTy)) (wr n 0 (els.map eNm)) (wr c 0 (els.map eCt)) (wr h 0 (els.map eHo)) (wr i 0 (els.map eCh)) (fF_fits_11l N v1 (nn (eC E)) (nn (eG E)) (ePar E) (eOwn E) (eLet E) (eSor E) (eTar E) (nn B) f (nn els.length) (nn D) (wr t 0 (els.map eTy)) (wr n 0 (els.map eNm)) (wr c 0 (els.map eCt)) (wr h 0 (els.map eHo)) (wr i 0 (els.map eCh)) q) true (nn d) w mt = _
    unfold fF_fits_11
    rw [if_neg (c := nn D ≤ nn d) (by rw [nn_le (by omega) (by omega)]; omega), if_pos (c := true = true) rfl, hfm, o_bind]
    simp only [if_pos hok, nn_c (show d < 2147483648 by omega), nn_s]
  unfold fM_fits
  rw [← hwn] at m1 m2
  cases hfin : finM E f (w d) (w d) 0 (els.filter (isMd f d)) with
  | none =>
    obtain ⟨g', e2⟩ := m2 hfin
    refine Or.inr ⟨fun q => ?_, ?_⟩
    · rw [show q + 2 = (q + 1) + 1 from rfl, hstep, fs1 hfin, upd_at, if_pos (c := (-1 : Int32) = -1) rfl]
      exact f_stop v1 t n c h i q _ _ _
    · rw [e2, o_bind]
      dsimp only
      rw [if_neg (c := false = true) (by decide)]
      exact ⟨_, _, rfl⟩
  | some v =>
    obtain ⟨k1, k2, k3⟩ := fs2 v hfin
    obtain ⟨iV, hiV, eV⟩ := isKc_cl k2
    rw [m1 v hfin, o_bind]
    dsimp only
    rw [if_pos (c := true = true) rfl]
    have hmt : (upd mt d v) d = v := upd_at _ _ _
    have hdm : (upd dm d v) d = v := upd_at _ _ _
    obtain ⟨e1, e2⟩ := f_el hE hN hy hl hg hch (show d < 25 by omega) (upd mt d v) t n h i (by rw [hmt]; exact Or.inr ⟨iV, hiV, eV⟩) els.length 0 N [] w (by omega) (by omega) (fun x hx => (by cases hx))
    obtain ⟨g1, g2⟩ := m_el12 (N := N) s3 s4 s5 s6 s7 s8 hE hN hy hl hg hch (show d < 25 by omega) (upd dm d v) (by rw [hdm]; exact Or.inr ⟨iV, hiV, eV⟩) els.length 0 N nd (by omega) (by omega)
    rw [List.drop_zero, hmt] at e1 e2
    rw [List.drop_zero, hdm, List.take_zero] at g1 g2
    change (∀ u, efS E f d v els [] = some u → _) at g1
    change (efS E f d v els [] = none → _) at g2
    cases hef : efS E f d v els [] with
    | none =>
      obtain ⟨w', q1⟩ := e2 hef
      obtain ⟨a, b, q2⟩ := g2 hef
      refine Or.inr ⟨fun q => ?_, ⟨a, b, q2⟩⟩
      rw [show q + 2 = (q + 1) + 1 from rfl, hstep, k1, upd_at, if_neg k3]
      unfold fF_elementsFit
      rw [show fF_elementsFit_4l N (nn d) (upd mt d v) (nn (eC E)) (nn (eG E)) (ePar E) (eOwn E) (eLet E) (eSor E) (eTar E) (nn B) f (nn els.length) (wr t 0 (els.map eTy)) (wr n 0 (els.map eNm)) (wr h 0 (els.map eHo)) (wr i 0 (els.map eCh)) N (0, 0, w) = _ from q1, o_bind]
      dsimp only
      rw [if_neg (c := false = true) (by decide)]
      exact f_stop v1 t n c h i q _ _ _
    | some u =>
      have q1 := e1 u hef
      have q2 := g1 u hef
      obtain ⟨o1, o2⟩ := efS_ok hE els [] u hef
      obtain ⟨ab1, ab2⟩ := efS_ab els [] u hef
      refine Or.inl ⟨apN w u, upd mt d v, apN nd u, upd dm d v, fun q => ?_, q2, ?_, ?_, ?_, ?_⟩
      · rw [hstep, k1, upd_at, if_neg k3]
        unfold fF_elementsFit
        rw [show fF_elementsFit_4l N (nn d) (upd mt d v) (nn (eC E)) (nn (eG E)) (ePar E) (eOwn E) (eLet E) (eSor E) (eTar E) (nn B) f (nn els.length) (wr t 0 (els.map eTy)) (wr n 0 (els.map eNm)) (wr h 0 (els.map eHo)) (wr i 0 (els.map eCh)) N (0, 0, w) = _ from q1, o_bind]
        dsimp only
        rw [if_pos (c := true = true) rfl]
      · intro x hx
        rcases apN_or u x with ⟨v', h1, h2⟩ | ⟨h1, h2⟩
        · rw [h2 w, h2 nd]
          exact ⟨rfl, o1 x v' h1⟩
        · rw [h2 w, h2 nd]
          refine hag.1 x ?_
          rcases hx with hx | ⟨e, a1, a2, a3, a4⟩
          · exact Or.inl hx
          · refine Or.inr ⟨e, a1, a2, a3, ?_⟩
            by_cases hlt : e.2.2.2.2.1 < d
            · exact hlt
            · exfalso
              have hed : e.2.2.2.2.1 = d := by omega
              have hnm : mk f e = false := by
                cases qq : mk f e with
                | false => rfl
                | true =>
                  have : e.1 = 2 := finM_md _ _ _ v hfin e (List.mem_filter.mpr ⟨a1, by unfold isMd; rw [decide_eq_true hed, qq]; rfl⟩)
                  omega
              obtain ⟨v', hv'⟩ := o2 e a1 (by unfold isCd; rw [decide_eq_true hed, hnm]; rfl) a2
              rw [a3] at hv'
              exact h1 v' hv'
      · intro x hx
        by_cases e : x = d
        · subst e
          rw [upd_at, upd_at]
          exact ⟨rfl, iV, hiV, eV⟩
        · rw [upd_ne _ _ e, upd_ne _ _ e]
          exact hag.2.1 x (by omega)
      · intro e he hlt hnm
        by_cases hed : e.2.2.2.2.1 = d
        · rw [hed, upd_at]
          obtain ⟨-, p, hp, ea, hal⟩ := ab1 e he (by unfold isCd; rw [decide_eq_true hed, hnm]; rfl)
          exact ⟨p, hp, ea, hal hE.1.2.1⟩
        · rw [upd_ne _ _ hed]
          exact hag.2.2.1 e he (by omega) hnm
      · intro x hx
        by_cases e : x = d
        · subst e
          rw [upd_at]
          exact ab2
        · rw [upd_ne _ _ e]
          exact hag.2.2.2 x (by omega)
theorem fits_both (hE : gE E) (hN : 200 ≤ N) (hy : yI B f) (hl : els.length ≤ 58) (hg : ∀ e, e ∈ els → gEl B f e) (hch : chOk els) (hD : D ≤ 24) (hset : ∀ d, 1 ≤ d → d < D → ∃ e, e ∈ els ∧ e.1 = 3 ∧ chN e = d ∧ e.2.2.2.2.1 < d) (v1 sz cnt at_ deep : Int32) (bad : Bool) (cls : AI) (held : AJ) (t n c h i s1 s2 s3 s4 s5 s6 s7 s8 s9 : AI) : ∀ (k d q : Nat) (w nd mt dm : AI), d + k = D → k + 1 < q → AG E f els d w nd mt dm →
    (∃ w' mt' nd' dm', fF_fits_11l N v1 (nn (eC E)) (nn (eG E)) (ePar E) (eOwn E) (eLet E) (eSor E) (eTar E) (nn B) f (nn els.length) (nn D) (wr t 0 (els.map eTy)) (wr n 0 (els.map eNm)) (wr c 0 (els.map eCt)) (wr h 0 (els.map eHo)) (wr i 0 (els.map eCh)) q (true, nn d, w, mt) = some (true, w', mt') ∧ (∀ p, fM_decode_29l N v1 (nn (eC E)) (nn (eG E)) sz (ePar E) (eOwn E) (eLet E) (eSor E) (eTar E) f cnt at_ bad (nn D) (nn els.length) deep cls held s1 s2 (wr s3 0 (els.map eHo)) (wr s4 0 (els.map eTy)) (wr s5 0 (els.map eNm)) (wr s6 0 (els.map eNl)) (wr s7 0 (els.map eCt)) (wr s8 0 (els.map eCh)) s9 (p + k) (nn d, nd, dm) = fM_decode_29l N v1 (nn (eC E)) (nn (eG E)) sz (ePar E) (eOwn E) (eLet E) (eSor E) (eTar E) f cnt at_ bad (nn D) (nn els.length) deep cls held s1 s2 (wr s3 0 (els.map eHo)) (wr s4 0 (els.map eTy)) (wr s5 0 (els.map eNm)) (wr s6 0 (els.map eNl)) (wr s7 0 (els.map eCt)) (wr s8 0 (els.map eCh)) s9 p (nn D, nd', dm')) ∧ AG E f els D w' nd' mt' dm') ∨
    ((∃ a b, fF_fits_11l N v1 (nn (eC E)) (nn (eG E)) (ePar E) (eOwn E) (eLet E) (eSor E) (eTar E) (nn B) f (nn els.length) (nn D) (wr t 0 (els.map eTy)) (wr n 0 (els.map eNm)) (wr c 0 (els.map eCt)) (wr h 0 (els.map eHo)) (wr i 0 (els.map eCh)) q (true, nn d, w, mt) = some (false, a, b)) ∧ ∀ p, k < p → ∃ r, fM_decode_29l N v1 (nn (eC E)) (nn (eG E)) sz (ePar E) (eOwn E) (eLet E) (eSor E) (eTar E) f cnt at_ bad (nn D) (nn els.length) deep cls held s1 s2 (wr s3 0 (els.map eHo)) (wr s4 0 (els.map eTy)) (wr s5 0 (els.map eNm)) (wr s6 0 (els.map eNl)) (wr s7 0 (els.map eCt)) (wr s8 0 (els.map eCh)) s9 p (nn d, nd, dm) = some (-4, cnt, at_, bad, nn D, nn els.length, deep, cls, held, r)) := by
  intro k
  induction k with
  | zero =>
    intro d q w nd mt dm hd hq hag
    obtain ⟨q, rfl⟩ : ∃ z, q = z + 1 := ⟨q - 1, by omega⟩
    have e : d = D := by omega
    subst e
    refine Or.inl ⟨w, mt, nd, dm, ?_, fun p => rfl, hag⟩
    show fF_fits_11 N v1 (nn (eC E)) (nn (eG E)) (ePar E) (eOwn E) (eLet E) (eSor E) (eTar E) (nn B) f (nn els.length) (nn d) (wr t 0 (els.map eTy)) (wr n 0 (els.map eNm)) (wr c 0 (els.map eCt)) (wr h 0 (els.map eHo)) (wr i 0 (els.map eCh)) (fF_fits_11l N v1 (nn (eC E)) (nn (eG E)) (ePar E) (eOwn E) (eLet E) (eSor E) (eTar E) (nn B) f (nn els.length) (nn d) (wr t 0 (els.map eTy)) (wr n 0 (els.map eNm)) (wr c 0 (els.map eCt)) (wr h 0 (els.map eHo)) (wr i 0 (els.map eCh)) q) true (nn d) w mt = _
    unfold fF_fits_11
    rw [if_pos (c := nn d ≤ nn d) (by rw [nn_le (by omega) (by omega)]; omega)]
  | succ k ih =>
    intro d q w nd mt dm hd hq hag
    obtain ⟨q, rfl⟩ : ∃ z, q = z + 2 := ⟨q - 2, by omega⟩
    have hs : d = 0 ∨ ∃ e, e ∈ els ∧ e.1 = 3 ∧ chN e = d ∧ e.2.2.2.2.1 < d := by
      by_cases h0 : d = 0
      · exact Or.inl h0
      · exact Or.inr (hset d (by omega) (by omega))
    have hrst : ∀ p, fM_decode_29l N v1 (nn (eC E)) (nn (eG E)) sz (ePar E) (eOwn E) (eLet E) (eSor E) (eTar E) f cnt at_ bad (nn D) (nn els.length) deep cls held s1 s2 (wr s3 0 (els.map eHo)) (wr s4 0 (els.map eTy)) (wr s5 0 (els.map eNm)) (wr s6 0 (els.map eNl)) (wr s7 0 (els.map eCt)) (wr s8 0 (els.map eCh)) s9 (p + 1) (nn d, nd, dm) = (fM_fits N (nn d) (nn (eC E)) (nn (eG E)) (nn els.length) (ePar E) (eOwn E) (eLet E) (eSor E) (eTar E) f nd dm (wr s3 0 (els.map eHo)) (wr s4 0 (els.map eTy)) (wr s5 0 (els.map eNm)) (wr s6 0 (els.map eNl)) (wr s7 0 (els.map eCt)) (wr s8 0 (els.map eCh))).bind fun u39 => (if u39.1 = true then fM_decode_29l N v1 (nn (eC E)) (nn (eG E)) sz (ePar E) (eOwn E) (eLet E) (eSor E) (eTar E) f cnt at_ bad (nn D) (nn els.length) deep cls held s1 s2 (wr s3 0 (els.map eHo)) (wr s4 0 (els.map eTy)) (wr s5 0 (els.map eNm)) (wr s6 0 (els.map eNl)) (wr s7 0 (els.map eCt)) (wr s8 0 (els.map eCh)) s9 p (nn (d + 1), u39.2.1, u39.2.2) else some (-4, cnt, at_, bad, nn D, nn els.length, deep, cls, held, s1, s2, u39.2.1, u39.2.2, wr s3 0 (els.map eHo), wr s4 0 (els.map eTy), wr s5 0 (els.map eNm), wr s6 0 (els.map eNl), wr s7 0 (els.map eCt), wr s8 0 (els.map eCh), s9)) := by
      intro p
      show fM_decode_29 N v1 (nn (eC E)) (nn (eG E)) sz (ePar E) (eOwn E) (eLet E) (eSor E) (eTar E) f cnt at_ bad (nn D) (nn els.length) deep cls held s1 s2 (wr s3 0 (els.map eHo)) (wr s4 0 (els.map eTy)) (wr s5 0 (els.map eNm)) (wr s6 0 (els.map eNl)) (wr s7 0 (els.map eCt)) (wr s8 0 (els.map eCh)) s9 (fM_decode_29l N v1 (nn (eC E)) (nn (eG E)) sz (ePar E) (eOwn E) (eLet E) (eSor E) (eTar E) f cnt at_ bad (nn D) (nn els.length) deep cls held s1 s2 (wr s3 0 (els.map eHo)) (wr s4 0 (els.map eTy)) (wr s5 0 (els.map eNm)) (wr s6 0 (els.map eNl)) (wr s7 0 (els.map eCt)) (wr s8 0 (els.map eCh)) s9 p) (nn d) nd dm = _
      unfold fM_decode_29
      rw [if_neg (c := nn D ≤ nn d) (by rw [nn_le (by omega) (by omega)]; omega), nn_s]
    rcases fit_one (N := N) hE hN hy hl hg hch hD (show d < D by omega) v1 t n c h i w nd mt dm s3 s4 s5 s6 s7 s8 hag hs with ⟨w', mt', nd', dm', g1, g2, g3⟩ | ⟨g1, a, b, g2⟩
    · have hr2 : ∀ p, fM_decode_29l N v1 (nn (eC E)) (nn (eG E)) sz (ePar E) (eOwn E) (eLet E) (eSor E) (eTar E) f cnt at_ bad (nn D) (nn els.length) deep cls held s1 s2 (wr s3 0 (els.map eHo)) (wr s4 0 (els.map eTy)) (wr s5 0 (els.map eNm)) (wr s6 0 (els.map eNl)) (wr s7 0 (els.map eCt)) (wr s8 0 (els.map eCh)) s9 (p + 1) (nn d, nd, dm) = fM_decode_29l N v1 (nn (eC E)) (nn (eG E)) sz (ePar E) (eOwn E) (eLet E) (eSor E) (eTar E) f cnt at_ bad (nn D) (nn els.length) deep cls held s1 s2 (wr s3 0 (els.map eHo)) (wr s4 0 (els.map eTy)) (wr s5 0 (els.map eNm)) (wr s6 0 (els.map eNl)) (wr s7 0 (els.map eCt)) (wr s8 0 (els.map eCh)) s9 p (nn (d + 1), nd', dm') := by
        intro p
        rw [hrst, g2, o_bind]
        dsimp only
        rw [if_pos (c := true = true) rfl]
      rw [show q + 2 = (q + 1) + 1 from rfl, g1]
      rcases ih (d + 1) (q + 1) w' nd' mt' dm' (by omega) (by omega) g3 with ⟨w2, mt2, nd2, dm2, k1, k2, k3⟩ | ⟨k1, k2⟩
      · refine Or.inl ⟨w2, mt2, nd2, dm2, k1, fun p => ?_, k3⟩
        rw [show p + (k + 1) = (p + k) + 1 by omega, hr2, k2]
      · refine Or.inr ⟨k1, fun p hp => ?_⟩
        obtain ⟨p, rfl⟩ : ∃ z, p = z + 1 := ⟨p - 1, by omega⟩
        rw [hr2]
        exact k2 p (by omega)
    · refine Or.inr ⟨g1 q, fun p hp => ?_⟩
      obtain ⟨p, rfl⟩ : ∃ z, p = z + 1 := ⟨p - 1, by omega⟩
      rw [hrst, g2, o_bind]
      dsimp only
      rw [if_neg (c := false = true) (by decide)]
      exact ⟨_, rfl⟩
end FBOTH
