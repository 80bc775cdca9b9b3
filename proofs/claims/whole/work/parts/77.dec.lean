/-! decode, both sides -/
section DEC
variable {E : En} {N B D O : Nat} {f : AI} {els : List El}
theorem els_both (hE : gE E) (hN : 200 ≤ N) (hy : yI B f) (hl : els.length ≤ 58) (hg : ∀ e, e ∈ els → gEl B f e) (hch : chOk els) (hOD : O + D ≤ 12) (hD : ∀ e, e ∈ els → e.2.2.2.2.1 < D ∧ (e.1 = 3 → chN e < D)) (t n c h i s1 s2 s3 s4 s5 s6 s7 s8 s9 w nd mt dm : AI) (hag : AG E f els D w nd mt dm) (v1 sz at_ deep : Int32) (bad : Bool) (kin : AI) : ∀ (k j q : Nat) (val : AJ) (prt : AI) (held : AJ), j + k = els.length → k < q → oI (eC E) (eG E) (O + D) (eSor E) kin val prt held → (∀ (x : Nat) (e : El) (p : Nat), j ≤ x → els[x]? = some e → mk f e = false → p < eG E → abt E f (mt e.2.2.2.2.1) e = nn p → prt (8 * (O + e.2.2.2.2.1) + p) = -1) →
    ∃ val' prt' held', fF_fill_37l N mt (nn (eC E)) (nn (eG E)) (ePar E) (eOwn E) (eLet E) (eSor E) (nn B) f (nn els.length) (nn D) (wr t 0 (els.map eTy)) (wr n 0 (els.map eNm)) (wr c 0 (els.map eCt)) (wr h 0 (els.map eHo)) (wr i 0 (els.map eCh)) (nn O) (nn (O + D)) kin q (nn j, val, prt) = some (nn O, nn (O + D), kin, val', prt') ∧ fM_decode_127l N v1 (nn (eC E)) (nn (eG E)) sz (ePar E) (eOwn E) (eLet E) (eSor E) (eTar E) f (nn O) (nn (O + D)) at_ bad (nn D) (nn els.length) deep kin s1 s2 nd dm (wr s3 0 (els.map eHo)) (wr s4 0 (els.map eTy)) (wr s5 0 (els.map eNm)) (wr s6 0 (els.map eNl)) (wr s7 0 (els.map eCt)) (wr s8 0 (els.map eCh)) s9 q (nn j, held) = some (nn O, nn (O + D), at_, bad, nn D, nn els.length, deep, kin, held', s1, s2, nd, dm, wr s3 0 (els.map eHo), wr s4 0 (els.map eTy), wr s5 0 (els.map eNm), wr s6 0 (els.map eNl), wr s7 0 (els.map eCt), wr s8 0 (els.map eCh), s9) ∧ oI (eC E) (eG E) (O + D) (eSor E) kin val' prt' held' := by
  have hG := hE.1.2.1
  intro k
  induction k with
  | zero =>
    intro j q val prt held hj hq ho hp
    obtain ⟨q, rfl⟩ : ∃ z, q = z + 1 := ⟨q - 1, by omega⟩
    have e : j = els.length := by omega
    refine ⟨val, prt, held, ?_, ?_, ho⟩
    · show fF_fill_37 N mt (nn (eC E)) (nn (eG E)) (ePar E) (eOwn E) (eLet E) (eSor E) (nn B) f (nn els.length) (nn D) (wr t 0 (els.map eTy)) (wr n 0 (els.map eNm)) (wr c 0 (els.map eCt)) (wr h 0 (els.map eHo)) (wr i 0 (els.map eCh)) (nn O) (nn (O + D)) kin (fF_fill_37l N mt (nn (eC E)) (nn (eG E)) (ePar E) (eOwn E) (eLet E) (eSor E) (nn B) f (nn els.length) (nn D) (wr t 0 (els.map eTy)) (wr n 0 (els.map eNm)) (wr c 0 (els.map eCt)) (wr h 0 (els.map eHo)) (wr i 0 (els.map eCh)) (nn O) (nn (O + D)) kin q) (nn j) val prt = _
      unfold fF_fill_37
      rw [if_pos (c := nn els.length ≤ nn j) (by rw [nn_le (by omega) (by omega)]; omega)]
    · show fM_decode_127 N v1 (nn (eC E)) (nn (eG E)) sz (ePar E) (eOwn E) (eLet E) (eSor E) (eTar E) f (nn O) (nn (O + D)) at_ bad (nn D) (nn els.length) deep kin s1 s2 nd dm (wr s3 0 (els.map eHo)) (wr s4 0 (els.map eTy)) (wr s5 0 (els.map eNm)) (wr s6 0 (els.map eNl)) (wr s7 0 (els.map eCt)) (wr s8 0 (els.map eCh)) s9 (fM_decode_127l N v1 (nn (eC E)) (nn (eG E)) sz (ePar E) (eOwn E) (eLet E) (eSor E) (eTar E) f (nn O) (nn (O + D)) at_ bad (nn D) (nn els.length) deep kin s1 s2 nd dm (wr s3 0 (els.map eHo)) (wr s4 0 (els.map eTy)) (wr s5 0 (els.map eNm)) (wr s6 0 (els.map eNl)) (wr s7 0 (els.map eCt)) (wr s8 0 (els.map eCh)) s9 q) (nn j) held = _
      unfold fM_decode_127
      rw [if_pos (c := nn els.length ≤ nn j) (by rw [nn_le (by omega) (by omega)]; omega)]
  | succ k ih =>
    intro j q val prt held hj hq ho hp
    obtain ⟨q, rfl⟩ : ∃ z, q = z + 1 := ⟨q - 1, by omega⟩
    have hlt : j < els.length := by omega
    have hge : els[j]? = some els[j] := List.getElem?_eq_getElem hlt
    generalize els[j] = e at hge
    have hem := List.mem_of_getElem? hge
    have k1 := a_mark hy hl hge (hg e hem) n
    have k2 := m_isMark hy hl hge (hg e hem) s5 s6
    cases hm : mk f e with
    | true =>
      rw [hm] at k1 k2
      obtain ⟨val', prt', held', g1, g2, g3⟩ := ih (j + 1) q val prt held (by omega) (by omega) ho (fun x e' p hx => hp x e' p (by omega))
      refine ⟨val', prt', held', ?_, ?_, g3⟩
      · rw [← g1]
        show fF_fill_37 N mt (nn (eC E)) (nn (eG E)) (ePar E) (eOwn E) (eLet E) (eSor E) (nn B) f (nn els.length) (nn D) (wr t 0 (els.map eTy)) (wr n 0 (els.map eNm)) (wr c 0 (els.map eCt)) (wr h 0 (els.map eHo)) (wr i 0 (els.map eCh)) (nn O) (nn (O + D)) kin (fF_fill_37l N mt (nn (eC E)) (nn (eG E)) (ePar E) (eOwn E) (eLet E) (eSor E) (nn B) f (nn els.length) (nn D) (wr t 0 (els.map eTy)) (wr n 0 (els.map eNm)) (wr c 0 (els.map eCt)) (wr h 0 (els.map eHo)) (wr i 0 (els.map eCh)) (nn O) (nn (O + D)) kin q) (nn j) val prt = _
        unfold fF_fill_37
        rw [if_neg (c := nn els.length ≤ nn j) (by rw [nn_le (by omega) (by omega)]; omega), k1, o_bind, if_pos (c := true = true) rfl, nn_s]
      · rw [← g2]
        show fM_decode_127 N v1 (nn (eC E)) (nn (eG E)) sz (ePar E) (eOwn E) (eLet E) (eSor E) (eTar E) f (nn O) (nn (O + D)) at_ bad (nn D) (nn els.length) deep kin s1 s2 nd dm (wr s3 0 (els.map eHo)) (wr s4 0 (els.map eTy)) (wr s5 0 (els.map eNm)) (wr s6 0 (els.map eNl)) (wr s7 0 (els.map eCt)) (wr s8 0 (els.map eCh)) s9 (fM_decode_127l N v1 (nn (eC E)) (nn (eG E)) sz (ePar E) (eOwn E) (eLet E) (eSor E) (eTar E) f (nn O) (nn (O + D)) at_ bad (nn D) (nn els.length) deep kin s1 s2 nd dm (wr s3 0 (els.map eHo)) (wr s4 0 (els.map eTy)) (wr s5 0 (els.map eNm)) (wr s6 0 (els.map eNl)) (wr s7 0 (els.map eCt)) (wr s8 0 (els.map eCh)) s9 q) (nn j) held = _
        unfold fM_decode_127
        rw [if_neg (c := nn els.length ≤ nn j) (by rw [nn_le (by omega) (by omega)]; omega), k2, o_bind, if_pos (c := true = true) rfl, nn_s]
    | false =>
      rw [hm] at k1 k2
      obtain ⟨hoD, -⟩ := hD e hem
      obtain ⟨p, hp1, ea, hal⟩ := hag.2.2.1 e hem hoD hm
      have hpr := hp j e p (by omega) hge hm hp1 ea
      obtain ⟨val1, prt1, held1, t1, t2, t3, t4⟩ := take_both hE hN hy hl hch hOD hD t n c h i s3 s4 s5 s6 s7 s8 mt dm hag.2.1 hge (hg e hem) hp1 ea hal kin val prt held ho hpr
      obtain ⟨val', prt', held', g1, g2, g3⟩ := ih (j + 1) q val1 prt1 held1 (by omega) (by omega) t3 (fun x e' p' hx hge' hm' hp' ea' => by
        rw [t4]
        · exact hp x e' p' (by omega) hge' hm' hp' ea'
        · intro hc
          have eh : e'.2.2.2.2.1 = e.2.2.2.2.1 := by omega
          have ep : p' = p := by omega
          have hpw := List.pairwise_iff_getElem.mp (hag.2.2.2 e.2.2.2.2.1 hoD) j x
          obtain ⟨hxl, hxe⟩ := List.getElem?_eq_some_iff.mp hge'
          obtain ⟨hjl, hje⟩ := List.getElem?_eq_some_iff.mp hge
          have := hpw hjl hxl (by omega)
          rw [hxe, hje] at this
          refine this ?_ ?_ ?_
          · unfold isCd; rw [hm]; simp
          · unfold isCd; rw [hm', eh]; simp
          · rw [ea, ← eh, ea', ep])
      refine ⟨val', prt', held', ?_, ?_, g3⟩
      · rw [← g1]
        show fF_fill_37 N mt (nn (eC E)) (nn (eG E)) (ePar E) (eOwn E) (eLet E) (eSor E) (nn B) f (nn els.length) (nn D) (wr t 0 (els.map eTy)) (wr n 0 (els.map eNm)) (wr c 0 (els.map eCt)) (wr h 0 (els.map eHo)) (wr i 0 (els.map eCh)) (nn O) (nn (O + D)) kin (fF_fill_37l N mt (nn (eC E)) (nn (eG E)) (ePar E) (eOwn E) (eLet E) (eSor E) (nn B) f (nn els.length) (nn D) (wr t 0 (els.map eTy)) (wr n 0 (els.map eNm)) (wr c 0 (els.map eCt)) (wr h 0 (els.map eHo)) (wr i 0 (els.map eCh)) (nn O) (nn (O + D)) kin q) (nn j) val prt = _
        unfold fF_fill_37
        rw [if_neg (c := nn els.length ≤ nn j) (by rw [nn_le (by omega) (by omega)]; omega), k1, o_bind, if_neg (c := false = true) (by decide), t1, o_bind, nn_s]
      · rw [← g2]
        show fM_decode_127 N v1 (nn (eC E)) (nn (eG E)) sz (ePar E) (eOwn E) (eLet E) (eSor E) (eTar E) f (nn O) (nn (O + D)) at_ bad (nn D) (nn els.length) deep kin s1 s2 nd dm (wr s3 0 (els.map eHo)) (wr s4 0 (els.map eTy)) (wr s5 0 (els.map eNm)) (wr s6 0 (els.map eNl)) (wr s7 0 (els.map eCt)) (wr s8 0 (els.map eCh)) s9 (fM_decode_127l N v1 (nn (eC E)) (nn (eG E)) sz (ePar E) (eOwn E) (eLet E) (eSor E) (eTar E) f (nn O) (nn (O + D)) at_ bad (nn D) (nn els.length) deep kin s1 s2 nd dm (wr s3 0 (els.map eHo)) (wr s4 0 (els.map eTy)) (wr s5 0 (els.map eNm)) (wr s6 0 (els.map eNl)) (wr s7 0 (els.map eCt)) (wr s8 0 (els.map eCh)) s9 q) (nn j) held = _
        unfold fM_decode_127
        rw [if_neg (c := nn els.length ≤ nn j) (by rw [nn_le (by omega) (by omega)]; omega), k2, o_bind, if_neg (c := false = true) (by decide), t2, o_bind, nn_s]
end DEC
