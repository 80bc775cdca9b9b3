/-! decode: the answer and the state, both sides -/
theorem q_decode {E : En} (hE : gE E) {N : Nat} (hN : 200 ≤ N) {held : AJ} (ho : oI (eC E) (eG E) (eO E) (eSor E) (eKin E) (eVal E) (ePrt E) held) (v : Int32) {B : Nat} {f : AI} (hy : yI B f) (c1 c2 c3 : Int32) (t n c h i fw fm : AI) (z1 : Int32) (z2 : Bool) (z3 z4 z5 : Int32) (s1 s2 nd dm s3 s4 s5 s6 s7 s8 s9 : AI) :
    ∃ r O' kin' val' prt' held' u y1 y2 y3 y4 y5 w, fP_decode N v (nn (eC E)) (nn (eG E)) (ePar E) (eOwn E) (eLet E) (eSor E) (eTar E) (nn (eO E)) (eKin E) (eVal E) (ePrt E) (nn B) f c1 c2 c3 t n c h i fw fm = some (r, nn O', kin', val', prt', u) ∧ fM_decode N v (nn (eC E)) (nn (eG E)) (nn (eO E)) (nn B) z1 z2 z3 z4 z5 (ePar E) (eOwn E) (eLet E) (eSor E) (eTar E) (eKin E) held f s1 s2 nd dm s3 s4 s5 s6 s7 s8 s9 = some (r, nn O', y1, y2, y3, y4, y5, kin', held', w) ∧ oI (eC E) (eG E) O' (eSor E) kin' val' prt' held' := by
  have hB := hy.1
  have hC := hE.1.1
  have hO := hE.2.1
  unfold fP_decode fM_decode
  rw [hasC_b (by omega), mC_b (by omega), o_bind, o_bind]
  cases hc : clB (eC E) v with
  | false =>
    rw [if_neg (c := false = true) (by decide), if_neg (c := false = true) (by decide)]
    exact ⟨_, eO E, _, _, _, _, _, _, _, _, _, _, _, rfl, rfl, ho⟩
  | true =>
    rw [if_pos (c := true = true) rfl, if_pos (c := true = true) rfl]
    obtain ⟨u, e1, a1, a2⟩ := o_read hN hy c1 c2 c3 t n c h i
    obtain ⟨w, e2, b1, b2⟩ := m_read hN hy z1 z2 z3 z4 z5 s1 s2 s3 s4 s5 s6 s7 s8 s9
    rw [e1, e2, o_bind, o_bind]
    by_cases hs : snd_ B f
    · obtain ⟨x, hx, hxB⟩ := hs
      obtain ⟨s9', hw⟩ := b1 x hx hxB
      obtain ⟨⟨p1, p2, p3⟩, p4⟩ := pDoc_ok B f 5 0 0 x hx
      obtain ⟨r1, r2, r3⟩ := pS_doc B f 5 0 0 x hx
      rw [List.length_drop] at r2 r3
      have hD : x.2.2.length ≤ 20 := by omega
      have hL : x.2.1.length ≤ 58 := by omega
      have hg : ∀ e, e ∈ x.2.1 → gEl B f e := fun e he => (r2 e he).1
      have hT : ∀ e, e ∈ x.2.1 → e.2.2.2.2.1 < x.2.2.length ∧ (e.1 = 3 → chN e < x.2.2.length ∧ eCh e = nn (chN e)) ∧ (¬ e.1 = 3 → eCh e = -1) := by
        intro e he
        obtain ⟨-, -, q2, q3, q4⟩ := r2 e he
        refine ⟨by clear q3; omega, fun h3 => ?_, q4⟩
        obtain ⟨d, d1, d2, d3, d4⟩ := q3 h3
        clear q3
        have : chN e = d := by unfold chN; rw [show eCh e = nn d from d1, nn_c (by omega)]
        exact ⟨by omega, by rw [this]; exact d1⟩
      have hch : chOk x.2.1 := fun e he => ⟨by have := (hT e he).1; omega, fun h3 => ⟨by have := ((hT e he).2.1 h3).1; omega, ((hT e he).2.1 h3).2⟩, (hT e he).2.2⟩
      have hDD : ∀ e, e ∈ x.2.1 → e.2.2.2.2.1 < x.2.2.length ∧ (e.1 = 3 → chN e < x.2.2.length) := fun e he => ⟨(hT e he).1, fun h3 => ((hT e he).2.1 h3).1⟩
      have hset : ∀ d, 1 ≤ d → d < x.2.2.length → ∃ e, e ∈ x.2.1 ∧ e.1 = 3 ∧ chN e = d ∧ e.2.2.2.2.1 < d := by
        intro d h1 h2
        obtain ⟨e, f1, f2, f3, f4⟩ := r3 d (by omega) (by omega)
        exact ⟨e, f1, f2, by unfold chN; rw [show eCh e = nn d from f3, nn_c (by omega)], f4⟩
      have hag0 : AG E f x.2.1 0 (upd fw 0 v) (upd nd 0 v) fm dm := by
        refine ⟨fun y hy0 => ?_, fun y hy0 => absurd hy0 (by omega), fun e _ hy0 => absurd hy0 (by omega), fun y hy0 => absurd hy0 (by omega)⟩
        rcases hy0 with e0 | ⟨e, -, -, -, hy0⟩
        · subst e0
          rw [upd_at, upd_at]
          exact ⟨rfl, clB_t hc⟩
        · exact absurd hy0 (by omega)
      rw [a1 x hx hxB, hw]
      dsimp only
      rw [if_pos (c := true = true) rfl, if_pos (c := true = true) rfl]
      unfold fF_fits
      rw [if_pos (c := ok (0 : Int32) 30 = true) (by decide), if_pos (c := ok (0 : Int32) 25 = true) (by decide)]
      rw [show (0 : Int32).toNatClampNeg = 0 from rfl, show ((0 : Int32)) = nn 0 from rfl]
      rcases fits_both (N := N) (B := B) (D := x.2.2.length) hE hN hy hL hg hch (by omega) hset v (nn B) (nn (eO E)) (nn B) (nn 0) false (eKin E) held t n c h i (wr s1 0 (x.2.2.map dS)) (wr s2 0 (x.2.2.map dD)) s3 s4 s5 s6 s7 s8 s9' x.2.2.length 0 N (upd fw 0 v) (upd nd 0 v) fm dm (by omega) (by omega) hag0 with ⟨w', mt', nd', dm', g1, g2, g3⟩ | ⟨⟨a, b, g1⟩, g2⟩
      · rw [g1, o_bind]
        have g2' := g2 (N - x.2.2.length)
        rw [show N - x.2.2.length + x.2.2.length = N by omega] at g2'
        rw [g2']
        dsimp only
        rw [if_pos (c := true = true) rfl]
        obtain ⟨q, hq⟩ : ∃ q, N - x.2.2.length = q + 1 := ⟨N - x.2.2.length - 1, by omega⟩
        rw [hq]
        have e29 : ∀ y, fM_decode_29l N v (nn (eC E)) (nn (eG E)) (nn B) (ePar E) (eOwn E) (eLet E) (eSor E) (eTar E) f (nn (eO E)) (nn B) false (nn x.2.2.length) (nn x.2.1.length) (nn 0) (eKin E) held (wr s1 0 (x.2.2.map dS)) (wr s2 0 (x.2.2.map dD)) (wr s3 0 (x.2.1.map eHo)) (wr s4 0 (x.2.1.map eTy)) (wr s5 0 (x.2.1.map eNm)) (wr s6 0 (x.2.1.map eNl)) (wr s7 0 (x.2.1.map eCt)) (wr s8 0 (x.2.1.map eCh)) s9' (q + 1) (nn x.2.2.length, nd', dm') = y ↔ fM_decode_29 N v (nn (eC E)) (nn (eG E)) (nn B) (ePar E) (eOwn E) (eLet E) (eSor E) (eTar E) f (nn (eO E)) (nn B) false (nn x.2.2.length) (nn x.2.1.length) (nn 0) (eKin E) held (wr s1 0 (x.2.2.map dS)) (wr s2 0 (x.2.2.map dD)) (wr s3 0 (x.2.1.map eHo)) (wr s4 0 (x.2.1.map eTy)) (wr s5 0 (x.2.1.map eNm)) (wr s6 0 (x.2.1.map eNl)) (wr s7 0 (x.2.1.map eCt)) (wr s8 0 (x.2.1.map eCh)) s9' (fM_decode_29l N v (nn (eC E)) (nn (eG E)) (nn B) (ePar E) (eOwn E) (eLet E) (eSor E) (eTar E) f (nn (eO E)) (nn B) false (nn x.2.2.length) (nn x.2.1.length) (nn 0) (eKin E) held (wr s1 0 (x.2.2.map dS)) (wr s2 0 (x.2.2.map dD)) (wr s3 0 (x.2.1.map eHo)) (wr s4 0 (x.2.1.map eTy)) (wr s5 0 (x.2.1.map eNm)) (wr s6 0 (x.2.1.map eNl)) (wr s7 0 (x.2.1.map eCt)) (wr s8 0 (x.2.1.map eCh)) s9' q) (nn x.2.2.length) nd' dm' = y := fun y => Iff.rfl
        simp only [e29]
        unfold fM_decode_29
        rw [if_pos (c := nn x.2.2.length ≤ nn x.2.2.length) (by rw [nn_le (by omega) (by omega)]; omega), nn_add, show (12 : Int32) = nn 12 from rfl, c_le (by omega) (by omega), c_le (by omega) (by omega)]
        by_cases hf : eO E + x.2.2.length ≤ 12
        · rw [if_pos hf, if_pos hf]
          obtain ⟨kin', val', prt', held', k1, k2, k3, k4⟩ := add_both (N := N) (B := B) (D := x.2.2.length) (O := eO E) (f := f) (els := x.2.1) hE hN hf v (nn B) (nn B) (nn 0) false t n c h i (wr s1 0 (x.2.2.map dS)) (wr s2 0 (x.2.2.map dD)) nd' s3 s4 s5 s6 s7 s8 s9' mt' dm' g3.2.1 x.2.2.length 0 (eKin E) (eVal E) (ePrt E) held (by omega) ho (fun o p h1 h2 => absurd h2 (by omega))
          obtain ⟨val2, prt2, held2, l1, l2, l3⟩ := els_both (N := N) (B := B) (D := x.2.2.length) (O := eO E) hE hN hy hL hg hch hf hDD t n c h i (wr s1 0 (x.2.2.map dS)) (wr s2 0 (x.2.2.map dD)) s3 s4 s5 s6 s7 s8 s9' w' nd' mt' dm' g3 v (nn B) (nn B) (nn 0) false kin' x.2.1.length 0 N val' prt' held' (by omega) (by omega) k3 (fun y e p _ hge _ hp _ => by
            have hem := List.mem_of_getElem? hge
            have := (hDD e hem).1
            have hG := hE.1.2.1
            exact k4 (eO E + e.2.2.2.2.1) p (by omega) (by omega) (by omega))
          have k1' := k1 (N - x.2.2.length)
          have k2' := k2 (N - x.2.2.length)
          rw [show N - x.2.2.length + x.2.2.length = N by omega] at k1' k2'
          unfold fF_fill
          rw [show fF_fill_7l N mt' (nn (eC E)) (nn (eG E)) (ePar E) (eOwn E) (eLet E) (eSor E) (nn B) f (nn x.2.1.length) (nn x.2.2.length) (wr t 0 (x.2.1.map eTy)) (wr n 0 (x.2.1.map eNm)) (wr c 0 (x.2.1.map eCt)) (wr h 0 (x.2.1.map eHo)) (wr i 0 (x.2.1.map eCh)) (nn (eO E)) N ((0 : Int32), nn (eO E), eKin E, eVal E, ePrt E) = some (nn (eO E), nn (eO E + x.2.2.length), kin', val2, prt2) from k1'.trans (by
            rw [hq, ← l1]
            show fF_fill_7 N mt' (nn (eC E)) (nn (eG E)) (ePar E) (eOwn E) (eLet E) (eSor E) (nn B) f (nn x.2.1.length) (nn x.2.2.length) (wr t 0 (x.2.1.map eTy)) (wr n 0 (x.2.1.map eNm)) (wr c 0 (x.2.1.map eCt)) (wr h 0 (x.2.1.map eHo)) (wr i 0 (x.2.1.map eCh)) (nn (eO E)) (fF_fill_7l N mt' (nn (eC E)) (nn (eG E)) (ePar E) (eOwn E) (eLet E) (eSor E) (nn B) f (nn x.2.1.length) (nn x.2.2.length) (wr t 0 (x.2.1.map eTy)) (wr n 0 (x.2.1.map eNm)) (wr c 0 (x.2.1.map eCt)) (wr h 0 (x.2.1.map eHo)) (wr i 0 (x.2.1.map eCh)) (nn (eO E)) q) (nn x.2.2.length) (nn (eO E + x.2.2.length)) kin' val' prt' = _
            unfold fF_fill_7
            rw [if_pos (c := nn x.2.2.length ≤ nn x.2.2.length) (by rw [nn_le (by omega) (by omega)]; omega)]
            rfl), o_bind]
          rw [hq] at k2'
          have st : fM_decode_78l N v (nn (eC E)) (nn (eG E)) (nn B) (ePar E) (eOwn E) (eLet E) (eSor E) (eTar E) f (nn (eO E)) (nn B) false (nn x.2.2.length) (nn x.2.1.length) (nn 0) (wr s1 0 (x.2.2.map dS)) (wr s2 0 (x.2.2.map dD)) nd' dm' (wr s3 0 (x.2.1.map eHo)) (wr s4 0 (x.2.1.map eTy)) (wr s5 0 (x.2.1.map eNm)) (wr s6 0 (x.2.1.map eNl)) (wr s7 0 (x.2.1.map eCt)) (wr s8 0 (x.2.1.map eCh)) s9' (q + 1) (nn x.2.2.length, nn (eO E + x.2.2.length), kin', held') = fM_decode_127l N v (nn (eC E)) (nn (eG E)) (nn B) (ePar E) (eOwn E) (eLet E) (eSor E) (eTar E) f (nn (eO E)) (nn (eO E + x.2.2.length)) (nn B) false (nn x.2.2.length) (nn x.2.1.length) (nn 0) kin' (wr s1 0 (x.2.2.map dS)) (wr s2 0 (x.2.2.map dD)) nd' dm' (wr s3 0 (x.2.1.map eHo)) (wr s4 0 (x.2.1.map eTy)) (wr s5 0 (x.2.1.map eNm)) (wr s6 0 (x.2.1.map eNl)) (wr s7 0 (x.2.1.map eCt)) (wr s8 0 (x.2.1.map eCh)) s9' N (nn 0, held') := by
            show fM_decode_78 N v (nn (eC E)) (nn (eG E)) (nn B) (ePar E) (eOwn E) (eLet E) (eSor E) (eTar E) f (nn (eO E)) (nn B) false (nn x.2.2.length) (nn x.2.1.length) (nn 0) (wr s1 0 (x.2.2.map dS)) (wr s2 0 (x.2.2.map dD)) nd' dm' (wr s3 0 (x.2.1.map eHo)) (wr s4 0 (x.2.1.map eTy)) (wr s5 0 (x.2.1.map eNm)) (wr s6 0 (x.2.1.map eNl)) (wr s7 0 (x.2.1.map eCt)) (wr s8 0 (x.2.1.map eCh)) s9' (fM_decode_78l N v (nn (eC E)) (nn (eG E)) (nn B) (ePar E) (eOwn E) (eLet E) (eSor E) (eTar E) f (nn (eO E)) (nn B) false (nn x.2.2.length) (nn x.2.1.length) (nn 0) (wr s1 0 (x.2.2.map dS)) (wr s2 0 (x.2.2.map dD)) nd' dm' (wr s3 0 (x.2.1.map eHo)) (wr s4 0 (x.2.1.map eTy)) (wr s5 0 (x.2.1.map eNm)) (wr s6 0 (x.2.1.map eNl)) (wr s7 0 (x.2.1.map eCt)) (wr s8 0 (x.2.1.map eCh)) s9' q) (nn x.2.2.length) (nn (eO E + x.2.2.length)) kin' held' = _
            unfold fM_decode_78
            rw [if_pos (c := nn x.2.2.length ≤ nn x.2.2.length) (by rw [nn_le (by omega) (by omega)]; omega)]
            rfl
          have m78 := k2'.trans (st.trans l2)
          rw [show nn (eO E + 0) = nn (eO E) from rfl] at m78
          exact ⟨_, eO E + x.2.2.length, _, _, _, _, _, _, _, _, _, _, _, rfl, m78, l3⟩
        · rw [if_neg hf, if_neg hf]
          exact ⟨_, eO E, _, _, _, _, _, _, _, _, _, _, _, rfl, rfl, ho⟩
      · obtain ⟨r, g2'⟩ := g2 N (by omega)
        rw [g1, g2', o_bind]
        dsimp only
        rw [if_neg (c := false = true) (by decide)]
        exact ⟨_, eO E, _, _, _, _, _, _, _, _, _, _, _, rfl, rfl, ho⟩
    · rw [a2 (not_snd hs), b2 (not_snd hs), if_neg (c := false = true) (by decide), if_neg (c := false = true) (by decide)]
      exact ⟨_, eO E, _, _, _, _, _, _, _, _, _, _, _, rfl, rfl, ho⟩
