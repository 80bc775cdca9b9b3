/-! reading, the written program: elements and documents -/
abbrev OS : Type := Int32 × Int32 × Int32 × Int32 × AI × AI × AI × AI × AI
def mxd (m : Nat) (ds : List Dc) : Nat := ds.foldl (fun m d => if m < d.2 then d.2 else m) m
def oOut (E0 D0 m0 : Nat) (t n c h i : AI) (x : Nat × List El × List Dc) : OS := (nn x.1, nn (E0 + x.2.1.length), nn (D0 + x.2.2.length), nn (mxd m0 x.2.2), wr t E0 (x.2.1.map eTy), wr n E0 (x.2.1.map eNm), wr c E0 (x.2.1.map eCt), wr h E0 (x.2.1.map eHo), wr i E0 (x.2.1.map eCh))
def Po (E0 D0 m0 : Nat) (t n c h i : AI) (s : Pr) (r : Option OS) : Prop := ∃ u, r = some u ∧ (∀ x, s = some x → u = oOut E0 D0 m0 t n c h i x) ∧ (s = none → u.1 = -1)
def Rd (B : Nat) (rec : Nat → Nat → Pr) (rk : Int32 × Int32 × Int32 × Int32 × Int32 × AI × AI × AI × AI × AI → Option (Int32 × Int32 × Int32 × Int32 × AI × AI × AI × AI × AI)) (d : Int32) : Prop := ∀ (st E0 D0 m0 : Nat) (t n c h i : AI), 4 * D0 + 2 * E0 ≤ st → st ≤ B → m0 ≤ 6 → Po E0 D0 m0 t n c h i (rec st D0) (rk (nn st, d, nn E0, nn D0, nn m0, t, n, c, h, i))
theorem Po_nil {E0 D0 m0 : Nat} {t n c h i : AI} (b : Nat) : Po E0 D0 m0 t n c h i (some (b, [], [])) (some (nn b, nn E0, nn D0, nn m0, t, n, c, h, i)) :=
  ⟨_, rfl, fun x hx => (by cases hx; rfl), fun hx => (by cases hx)⟩
theorem Po_none {E0 D0 m0 : Nat} {t n c h i : AI} (v : Int32 × Int32 × Int32 × AI × AI × AI × AI × AI) : Po E0 D0 m0 t n c h i none (some (-1, v)) :=
  ⟨_, rfl, fun x hx => (by cases hx), fun _ => rfl⟩
theorem o_text {N B : Nat} (hN : 200 ≤ N) {f : AI} (hy : yI B f) {ct : Nat} (hct : ct ≤ B) : fO_readText N (nn ct) (nn B) f = some (if tx B f (ct + 4) < B ∧ bv f (tx B f (ct + 4)) = 0 ∧ n4 f ct = nn (tx B f (ct + 4) + 1 - (ct + 4)) then nn (tx B f (ct + 4) + 1) else -1) := by
  have hB := hy.1
  have h1 := (tx_ge B f 120 (ct + 4)).2
  have h2 := tx_le B f (ct + 4)
  have hb : tx B f (ct + 4) < 1000000 := by unfold tx at h1 ⊢; omega
  unfold fO_readText
  rw [show nn ct + (4 : Int32) = nn (ct + 4) from nn_add ct 4, o_tx hN hy (by omega), o_bind, o_at hB (by omega), o_bind]
  by_cases h : tx B f (ct + 4) < B ∧ bv f (tx B f (ct + 4)) = 0
  · rw [if_pos ((av_0 hy _).mpr h), o_int hN hy (by omega), o_bind, nn_s, nn_sub (by omega)]
    by_cases h3 : n4 f ct = nn (tx B f (ct + 4) + 1 - (ct + 4))
    · rw [if_pos h3, if_pos ⟨h.1, h.2, h3⟩]
    · rw [if_neg h3, if_neg (fun z => h3 z.2.2)]
  · rw [if_neg (fun z => h ((av_0 hy _).mp z)), if_neg (fun z => h ⟨z.1, z.2.1⟩)]
theorem o_cont {N B : Nat} (hN : 200 ≤ N) {f : AI} (hy : yI B f) {rec : Nat → Nat → Pr} {rk : Int32 × Int32 × Int32 × Int32 × Int32 × AI × AI × AI × AI × AI → Option (Int32 × Int32 × Int32 × Int32 × AI × AI × AI × AI × AI)} {d : Int32} (hR : Rd B rec rk (d + 1)) {ty ct : Nat} (hty : ty < 256) (hct : ct ≤ B) {E0 D0 m0 : Nat} (t n c h i : AI) (h1 : 4 * D0 + 2 * E0 ≤ ct) (hm : m0 ≤ 6) : Po E0 D0 m0 t n c h i (pCont B f rec ty ct D0) (fO_readContent N rk (nn ty) (nn ct) d (nn E0) (nn D0) (nn m0) t n c h i (nn B) f) := by
  have hB := hy.1
  unfold fO_readContent pCont
  rw [show (2 : Int32) = nn 2 from rfl, c_eq (by omega) (by omega)]
  by_cases h2 : ty = 2
  · rw [if_pos h2, if_pos h2, o_text hN hy hct, o_bind]
    by_cases hc : tx B f (ct + 4) < B ∧ bv f (tx B f (ct + 4)) = 0 ∧ n4 f ct = nn (tx B f (ct + 4) + 1 - (ct + 4))
    · rw [if_pos hc, if_pos hc]
      exact Po_nil _
    · rw [if_neg hc, if_neg hc]
      exact Po_none _
  · rw [if_neg h2, if_neg h2, show (3 : Int32) = nn 3 from rfl, c_eq (by omega) (by omega)]
    by_cases h3 : ty = 3
    · rw [if_pos h3, if_pos h3]
      obtain ⟨u, e, a1, a2⟩ := hR ct E0 D0 m0 t n c h i h1 hct hm
      rw [e, o_bind]
      exact ⟨u, rfl, a1, a2⟩
    · rw [if_neg h3, if_neg h3, show (8 : Int32) = nn 8 from rfl, c_eq (by omega) (by omega)]
      by_cases h8 : ty = 8
      · rw [if_pos h8, if_pos h8, o_at hB (by omega), o_bind, o_bind, nn_s]
        by_cases hc0 : ct < B ∧ bv f ct = 0
        · rw [if_pos ((av_0 hy _).mpr hc0), if_pos ⟨hc0.1, Or.inl hc0.2⟩]
          exact Po_nil _
        · rw [if_neg (fun z => hc0 ((av_0 hy _).mp z))]
          by_cases hc1 : ct < B ∧ bv f ct = 1
          · have e : av B f ct = 1 := by
              unfold av
              rw [if_pos hc1.1, (bv_eq hy hc1.1).1, hc1.2]
              rfl
            rw [if_pos e, if_pos ⟨hc1.1, Or.inr hc1.2⟩]
            exact Po_nil _
          · have e : ¬ av B f ct = 1 := by
              intro z
              unfold av at z
              by_cases hl : ct < B
              · rw [if_pos hl, (bv_eq hy hl).1, show (1 : Int32) = nn 1 from rfl, nn_eq (by have := (bv_eq hy hl).2; omega) (by omega)] at z
                exact hc1 ⟨hl, z⟩
              · rw [if_neg hl] at z
                exact absurd z (by decide)
            rw [if_neg e, if_neg (fun z => z.2.elim (fun w => hc0 ⟨z.1, w⟩) (fun w => hc1 ⟨z.1, w⟩))]
            exact Po_none _
      · rw [if_neg h8, if_neg h8, show (10 : Int32) = nn 10 from rfl, c_eq (by omega) (by omega)]
        by_cases h10 : ty = 10
        · rw [if_pos h10, if_pos h10]
          exact Po_nil _
        · rw [if_neg h10, if_neg h10, show (16 : Int32) = nn 16 from rfl, c_eq (by omega) (by omega)]
          by_cases h16 : ty = 16
          · rw [if_pos h16, if_pos h16, show fB_holds (nn ct) (4 : Int32) (nn B) = some (decide (ct + 4 ≤ B)) from o_holds (k := 4) hB (by omega) (by omega) trivial, o_bind, show nn ct + (4 : Int32) = nn (ct + 4) from nn_add ct 4]
            by_cases hc : ct + 4 ≤ B
            · rw [decide_eq_true hc, if_pos (c := true = true) rfl, if_pos hc]
              exact Po_nil _
            · rw [decide_eq_false hc, if_neg (c := false = true) (by decide), if_neg hc]
              exact Po_none _
          · rw [if_neg h16, if_neg h16, show (18 : Int32) = nn 18 from rfl, c_eq (by omega) (by omega)]
            by_cases h18 : ty = 18
            · rw [if_pos h18, if_pos h18, show fB_holds (nn ct) (nn 8) (nn B) = some (decide (ct + 8 ≤ B)) from o_holds (k := 8) hB (by omega) (by omega) trivial, o_bind, show nn ct + nn 8 = nn (ct + 8) from nn_add ct 8]
              by_cases hc : ct + 8 ≤ B
              · rw [decide_eq_true hc, if_pos (c := true = true) rfl, if_pos hc]
                exact Po_nil _
              · rw [decide_eq_false hc, if_neg (c := false = true) (by decide), if_neg hc]
                exact Po_none _
            · rw [if_neg h18, if_neg h18]
              exact Po_none _
theorem o_id9 (c : Option OS) : (c.bind fun u => some (u.1, u.2.1, u.2.2.1, u.2.2.2.1, u.2.2.2.2.1, u.2.2.2.2.2.1, u.2.2.2.2.2.2.1, u.2.2.2.2.2.2.2.1, u.2.2.2.2.2.2.2.2)) = c := by
  cases c <;> rfl
theorem o_elem {N B : Nat} (hN : 200 ≤ N) {f : AI} (hy : yI B f) {rec : Nat → Nat → Pr} {rk : Int32 × Int32 × Int32 × Int32 × Int32 × AI × AI × AI × AI × AI → Option (Int32 × Int32 × Int32 × Int32 × AI × AI × AI × AI × AI)} {d : Int32} (hR : Rd B rec rk (d + 1)) {a : Nat} (ha : a < B) {E0 D0 m0 : Nat} (ho : Nat) (t n c h i : AI) (h1 : 4 * D0 + 2 * E0 ≤ a) (hm : m0 ≤ 6) (hE0 : E0 < 60) : Po E0 D0 m0 t n c h i (pEl B f rec a D0 ho) (fO_readElement N rk (nn a) (nn ho) d (nn E0) (nn D0) (nn m0) t n c h i (nn B) f) := by
  have hB := hy.1
  have g1 := (tx_ge B f 120 (a + 1)).2
  have g2 := tx_le B f (a + 1)
  have hb : tx B f (a + 1) < 1000000 := by unfold tx at g1 ⊢; omega
  unfold fO_readElement pEl
  rw [nn_s, o_tx hN hy (by omega), o_bind, if_neg (c := (60 : Int32) ≤ nn E0) (by rw [show (60 : Int32) = nn 60 from rfl, nn_le (by omega) (by omega)]; omega), o_at hB (by omega), o_bind]
  by_cases hc : tx B f (a + 1) < B ∧ bv f (tx B f (a + 1)) = 0
  · have hok : ok (nn E0) 60 = true := nn_okt (by omega) hE0
    obtain ⟨eb, hb256⟩ := bv_eq hy ha
    have hav : av B f a = nn (bv f a) := by unfold av; rw [if_pos ha, eb]
    rw [if_pos ((av_0 hy _).mpr hc), if_pos hc, o_at hB (by omega), o_bind]
    simp only [if_pos hok, o_id9]
    rw [hav, nn_c (show E0 < 2147483648 by omega), nn_s, nn_s]
    generalize hch : (if bv f a = 3 then nn D0 else (-1 : Int32)) = ch
    have hgo : ∀ i' : AI, i' = upd i E0 ch → Po E0 D0 m0 t n c h i ((pCont B f rec (bv f a) (tx B f (a + 1) + 1) D0).map (fun r => (r.1, (bv f a, a + 1, tx B f (a + 1) - (a + 1), tx B f (a + 1) + 1, ho, ch) :: r.2.1, r.2.2))) (fO_readContent N rk (nn (bv f a)) (nn (tx B f (a + 1) + 1)) d (nn (E0 + 1)) (nn D0) (nn m0) (upd t E0 (nn (bv f a))) (upd n E0 (nn (a + 1))) (upd c E0 (nn (tx B f (a + 1) + 1))) (upd h E0 (nn ho)) i' (nn B) f) := by
      rintro i' rfl
      obtain ⟨u, e, a1, a2⟩ := o_cont hN hy hR hb256 (show tx B f (a + 1) + 1 ≤ B by omega) (E0 := E0 + 1) (D0 := D0) (m0 := m0) (upd t E0 (nn (bv f a))) (upd n E0 (nn (a + 1))) (upd c E0 (nn (tx B f (a + 1) + 1))) (upd h E0 (nn ho)) (upd i E0 ch) (by omega) hm
      refine ⟨u, e, fun x hx => ?_, fun hx => ?_⟩
      · cases hr : pCont B f rec (bv f a) (tx B f (a + 1) + 1) D0 with
        | none => rw [hr] at hx; cases hx
        | some r =>
          rw [hr] at hx
          cases hx
          rw [a1 r hr]
          unfold oOut
          rw [show E0 + 1 + r.2.1.length = E0 + (r.2.1.length + 1) by omega]
          rfl
      · cases hr : pCont B f rec (bv f a) (tx B f (a + 1) + 1) D0 with
        | none => exact a2 hr
        | some r => rw [hr] at hx; cases hx
    rw [show (3 : Int32) = nn 3 from rfl, c_eq (by omega) (by omega)]
    by_cases h3 : bv f a = 3
    · rw [if_pos h3]
      refine hgo _ ?_
      rw [← hch, if_pos h3]
    · rw [if_neg h3]
      refine hgo _ ?_
      rw [← hch, if_neg h3]
  · rw [if_neg (fun z => hc ((av_0 hy _).mp z)), if_neg hc]
    exact Po_none _
