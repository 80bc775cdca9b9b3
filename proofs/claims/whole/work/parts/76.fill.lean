/-! decode: the objects, both sides -/
section FILL
variable {E : En} {N B D O : Nat} {f : AI} {els : List El}
theorem add_both (hE : gE E) (hN : 200 ≤ N) (hOD : O + D ≤ 12) (v1 sz at_ deep : Int32) (bad : Bool) (t n c h i s1 s2 nd s3 s4 s5 s6 s7 s8 s9 mt dm : AI) (hmt : ∀ x, x < D → mt x = dm x ∧ ∃ i, i < eC E ∧ mt x = nn i) : ∀ (k x : Nat) (kin : AI) (val : AJ) (prt : AI) (held : AJ), x + k = D → oI (eC E) (eG E) (O + x) (eSor E) kin val prt held → (∀ o p, O ≤ o → o < O + x → p < 8 → prt (8 * o + p) = -1) →
    ∃ kin' val' prt' held', (∀ q, fF_fill_7l N mt (nn (eC E)) (nn (eG E)) (ePar E) (eOwn E) (eLet E) (eSor E) (nn B) f (nn els.length) (nn D) (wr t 0 (els.map eTy)) (wr n 0 (els.map eNm)) (wr c 0 (els.map eCt)) (wr h 0 (els.map eHo)) (wr i 0 (els.map eCh)) (nn O) (q + k) (nn x, nn (O + x), kin, val, prt) = fF_fill_7l N mt (nn (eC E)) (nn (eG E)) (ePar E) (eOwn E) (eLet E) (eSor E) (nn B) f (nn els.length) (nn D) (wr t 0 (els.map eTy)) (wr n 0 (els.map eNm)) (wr c 0 (els.map eCt)) (wr h 0 (els.map eHo)) (wr i 0 (els.map eCh)) (nn O) q (nn D, nn (O + D), kin', val', prt')) ∧ (∀ q, fM_decode_78l N v1 (nn (eC E)) (nn (eG E)) sz (ePar E) (eOwn E) (eLet E) (eSor E) (eTar E) f (nn O) at_ bad (nn D) (nn els.length) deep s1 s2 nd dm (wr s3 0 (els.map eHo)) (wr s4 0 (els.map eTy)) (wr s5 0 (els.map eNm)) (wr s6 0 (els.map eNl)) (wr s7 0 (els.map eCt)) (wr s8 0 (els.map eCh)) s9 (q + k) (nn x, nn (O + x), kin, held) = fM_decode_78l N v1 (nn (eC E)) (nn (eG E)) sz (ePar E) (eOwn E) (eLet E) (eSor E) (eTar E) f (nn O) at_ bad (nn D) (nn els.length) deep s1 s2 nd dm (wr s3 0 (els.map eHo)) (wr s4 0 (els.map eTy)) (wr s5 0 (els.map eNm)) (wr s6 0 (els.map eNl)) (wr s7 0 (els.map eCt)) (wr s8 0 (els.map eCh)) s9 q (nn D, nn (O + D), kin', held')) ∧ oI (eC E) (eG E) (O + D) (eSor E) kin' val' prt' held' ∧ ∀ o p, O ≤ o → o < O + D → p < 8 → prt' (8 * o + p) = -1 := by
  have hG := hE.1.2.1
  intro k
  induction k with
  | zero =>
    intro x kin val prt held hx ho hp
    have e : x = D := by omega
    subst e
    exact ⟨kin, val, prt, held, fun q => rfl, fun q => rfl, ho, hp⟩
  | succ k ih =>
    intro x kin val prt held hx ho hp
    obtain ⟨em, ci, hci, ec⟩ := hmt x (by omega)
    have hlt : O + x < 12 := by omega
    have ho2 := oI_add ho hlt hci
    rw [← ec] at ho2
    obtain ⟨kin', val', prt', held', g1, g2, g3, g4⟩ := ih (x + 1) (upd kin (O + x) (mt x)) (blk (fun _ => 0) (O + x) 0 8 val) (blk (fun _ => -1) (O + x) 0 8 prt) (blk (clz (eG E) (eSor E)) (O + x) 0 8 held) (by omega) ho2 (fun o p h1 h2 h3 => by
      unfold blk
      by_cases e : o = O + x
      · rw [if_pos (by omega)]
      · rw [if_neg (by omega)]
        exact hp o p h1 (by omega) h3)
    refine ⟨kin', val', prt', held', fun q => ?_, fun q => ?_, g3, g4⟩
    · rw [show q + (k + 1) = (q + k) + 1 by omega, ← g1 q]
      show fF_fill_7 N mt (nn (eC E)) (nn (eG E)) (ePar E) (eOwn E) (eLet E) (eSor E) (nn B) f (nn els.length) (nn D) (wr t 0 (els.map eTy)) (wr n 0 (els.map eNm)) (wr c 0 (els.map eCt)) (wr h 0 (els.map eHo)) (wr i 0 (els.map eCh)) (nn O) (fF_fill_7l N mt (nn (eC E)) (nn (eG E)) (ePar E) (eOwn E) (eLet E) (eSor E) (nn B) f (nn els.length) (nn D) (wr t 0 (els.map eTy)) (wr n 0 (els.map eNm)) (wr c 0 (els.map eCt)) (wr h 0 (els.map eHo)) (wr i 0 (els.map eCh)) (nn O) (q + k)) (nn x) (nn (O + x)) kin val prt = _
      unfold fF_fill_7
      rw [if_neg (c := nn D ≤ nn x) (by rw [nn_le (by omega) (by omega)]; omega), if_pos (nn_okt (by omega) (by omega)), nn_c (show x < 2147483648 by omega), iAdd (by omega) hlt, o_bind, nn_s]
      rfl
    · rw [show q + (k + 1) = (q + k) + 1 by omega, ← g2 q]
      show fM_decode_78 N v1 (nn (eC E)) (nn (eG E)) sz (ePar E) (eOwn E) (eLet E) (eSor E) (eTar E) f (nn O) at_ bad (nn D) (nn els.length) deep s1 s2 nd dm (wr s3 0 (els.map eHo)) (wr s4 0 (els.map eTy)) (wr s5 0 (els.map eNm)) (wr s6 0 (els.map eNl)) (wr s7 0 (els.map eCt)) (wr s8 0 (els.map eCh)) s9 (fM_decode_78l N v1 (nn (eC E)) (nn (eG E)) sz (ePar E) (eOwn E) (eLet E) (eSor E) (eTar E) f (nn O) at_ bad (nn D) (nn els.length) deep s1 s2 nd dm (wr s3 0 (els.map eHo)) (wr s4 0 (els.map eTy)) (wr s5 0 (els.map eNm)) (wr s6 0 (els.map eNl)) (wr s7 0 (els.map eCt)) (wr s8 0 (els.map eCh)) s9 (q + k)) (nn x) (nn (O + x)) kin held = _
      unfold fM_decode_78
      rw [if_neg (c := nn D ≤ nn x) (by rw [nn_le (by omega) (by omega)]; omega), if_pos (nn_okt (by omega) (by omega)), if_pos (nn_okt (by omega) hlt), mCl (by omega) hG hlt, o_bind, nn_s, nn_s, nn_c (show x < 2147483648 by omega), nn_c (show O + x < 2147483648 by omega), ← em]
      rfl
theorem take_both (hE : gE E) (hN : 200 ≤ N) (hy : yI B f) (hl : els.length ≤ 58) (hch : chOk els) (hOD : O + D ≤ 12) (hD : ∀ e, e ∈ els → e.2.2.2.2.1 < D ∧ (e.1 = 3 → chN e < D)) (t n c h i s3 s4 s5 s6 s7 s8 mt dm : AI) (hmt : ∀ x, x < D → mt x = dm x ∧ ∃ i, i < eC E ∧ mt x = nn i) {j p : Nat} {e : El} (hge : els[j]? = some e) (hg : gEl B f e) (hp : p < eG E) (ea : abt E f (mt e.2.2.2.2.1) e = nn p) (hal : alw (eSor E p) (eTy e) = true) (kin : AI) (val : AJ) (prt : AI) (held : AJ) (ho : oI (eC E) (eG E) (O + D) (eSor E) kin val prt held) (hpr : prt (8 * (O + e.2.2.2.2.1) + p) = -1) :
    ∃ val' prt' held', fF_fillProperty N (nn O) (nn j) mt (nn (eC E)) (nn (eG E)) (ePar E) (eOwn E) (eLet E) (eSor E) (nn B) f (nn els.length) (wr t 0 (els.map eTy)) (wr n 0 (els.map eNm)) (wr c 0 (els.map eCt)) (wr h 0 (els.map eHo)) (wr i 0 (els.map eCh)) (nn (O + D)) val prt = some (val', prt') ∧ fM_take N (nn j) (nn O) (nn (eG E)) (ePar E) (eOwn E) (eLet E) (eSor E) held f dm (wr s3 0 (els.map eHo)) (wr s4 0 (els.map eTy)) (wr s5 0 (els.map eNm)) (wr s6 0 (els.map eNl)) (wr s7 0 (els.map eCt)) (wr s8 0 (els.map eCh)) = some held' ∧ oI (eC E) (eG E) (O + D) (eSor E) kin val' prt' held' ∧ ∀ x, x ≠ 8 * (O + e.2.2.2.2.1) + p → prt' x = prt x := by
  have hB := hy.1
  have hG := hE.1.2.1
  have hem := List.mem_of_getElem? hge
  obtain ⟨c1, c2, c3⟩ := hch e hem
  obtain ⟨hoD, hcD⟩ := hD e hem
  obtain ⟨em, ci, hci, ec⟩ := hmt e.2.2.2.2.1 hoD
  obtain ⟨-, hok, hj⟩ := a_has hl hge
  obtain ⟨x4, hx4, es⟩ := (hE.1.2.2.2.2 p hp).2.2.1
  have hab := f_about hE hN hy hl hge hg c1 mt n h (Or.inr ⟨ci, hci, ec⟩)
  have hab2 := m_about hE hN hy hl hge hg c1 dm s3 s5 s6 (by rw [← em]; exact Or.inr ⟨ci, hci, ec⟩)
  rw [← em] at hab2
  rw [ea] at hab hab2
  have hobj : nn O + eHo e = nn (O + e.2.2.2.2.1) := nn_add _ _
  have hcell : nn 8 * nn (O + e.2.2.2.2.1) + nn p = nn (8 * (O + e.2.2.2.2.1) + p) := by rw [nn_mul, nn_add]
  have hok96 : ok (nn (8 * (O + e.2.2.2.2.1) + p)) 96 = true := nn_okt (by omega) (by omega)
  have hokp : ok (nn p) 8 = true := nn_okt (by omega) (by omega)
  obtain ⟨o1, o2, o3⟩ := ho
  unfold fF_fillProperty fM_take
  rw [a_holder hl hge, o_bind, hab, o_bind, hab2, o_bind, hobj]
  simp only [if_pos hok, if_pos hokp, nn_c (show j < 2147483648 by omega), nn_c (show p < 2147483648 by omega), wr_map eHo hge, wr_map eTy hge, wr_map eCt hge, wr_map eCh hge, hobj, show (8 : Int32) = nn 8 from rfl, hcell, if_pos hok96, nn_c (show 8 * (O + e.2.2.2.2.1) + p < 2147483648 by omega)]
  unfold fD_isLink
  rw [dSort hG _ hp, o_bind]
  have hty : e.1 < 256 := by have := hg.2.2.2.2.2.2.2.2; omega
  have qt : ∀ k : Nat, k < 256 → (eTy e = nn k ↔ e.1 = k) := fun k hk => nn_eq (by omega) (by omega)
  have keep : ∀ (v : Int64), ¬ eSor E p = 3 → oI (eC E) (eG E) (O + D) (eSor E) kin (vp_updL val (8 * (O + e.2.2.2.2.1) + p) v) prt (vp_updL held (8 * (O + e.2.2.2.2.1) + p) v) := by
    intro v hs
    refine ⟨o1, o2, fun a b h1 h2 => ?_⟩
    obtain ⟨d1, d2⟩ := o3 a b h1 h2
    unfold cI_ vp_updL
    by_cases e' : 8 * a + b = 8 * (O + e.2.2.2.2.1) + p
    · have e1 : a = O + e.2.2.2.2.1 := by omega
      have e2 : b = p := by omega
      subst e1 e2
      rw [if_pos rfl, if_pos rfl]
      exact ⟨fun z => absurd z.2 hs, fun z => ⟨(d2 z).1, rfl⟩⟩
    · rw [if_neg e', if_neg e']
      exact ⟨d1, d2⟩
  by_cases h3 : eSor E p = 3
  · rw [if_pos h3, if_pos h3, o_bind, if_pos (c := true = true) rfl, a_inner hl hge, o_bind, o_bind]
    by_cases h5 : e.1 = 3
    · obtain ⟨k1, k2⟩ := c2 h5
      have hcd := hcD h5
      have hch2 : nn O + nn (chN e) = nn (O + chN e) := nn_add _ _
      rw [k2, if_neg (nn_ne1 (show chN e < 2147483648 by omega)), if_pos (nn_ge0 (show chN e < 2147483648 by omega)), hch2, iSetP hOD (by omega) (by omega), o_bind]
      refine ⟨_, _, _, rfl, rfl, ⟨o1, o2, fun a b h1 h2 => ?_⟩, fun x hx => upd_ne _ _ hx⟩
      obtain ⟨d1, d2⟩ := o3 a b h1 h2
      unfold cI_ vp_updL upd
      by_cases e' : 8 * a + b = 8 * (O + e.2.2.2.2.1) + p
      · have e1 : a = O + e.2.2.2.2.1 := by omega
        have e2 : b = p := by omega
        subst e1 e2
        rw [if_pos rfl, if_pos rfl]
        exact ⟨fun z => ⟨(d1 z).1, rfl, Or.inr ⟨O + chN e, by omega, rfl⟩⟩, fun z => absurd ⟨hp, h3⟩ z⟩
      · rw [if_neg e', if_neg e']
        exact ⟨d1, d2⟩
    · rw [c3 h5, if_pos (c := (-1 : Int32) = -1) rfl, if_neg (c := (0 : Int32) ≤ -1) (by decide)]
      refine ⟨val, prt, _, rfl, rfl, ⟨o1, o2, fun a b h1 h2 => ?_⟩, fun _ _ => rfl⟩
      obtain ⟨d1, d2⟩ := o3 a b h1 h2
      unfold cI_ vp_updL
      by_cases e' : 8 * a + b = 8 * (O + e.2.2.2.2.1) + p
      · have e1 : a = O + e.2.2.2.2.1 := by omega
        have e2 : b = p := by omega
        subst e1 e2
        rw [if_pos rfl]
        exact ⟨fun z => ⟨(d1 z).1, by rw [hpr]; decide, Or.inl hpr⟩, fun z => absurd ⟨hp, h3⟩ z⟩
      · rw [if_neg e']
        exact ⟨d1, d2⟩
  · rw [if_neg h3, if_neg h3, o_bind, if_neg (c := false = true) (by decide)]
    have hN3 : fF_numberIn N (nn j) (nn B) f (nn els.length) (wr t 0 (els.map eTy)) (wr c 0 (els.map eCt)) = (if e.1 = 16 then some (n4 f e.2.2.2.1).toInt64 else if e.1 = 18 then some (((n4 f (e.2.2.2.1 + 4)).toInt64 <<< ((32 : Int32).toInt64 &&& 63)) ||| ((n4 f e.2.2.2.1).toInt64 &&& (4294967295 : Int64))) else some (av B f e.2.2.2.1).toInt64) := by
      have hct := hg.2.2.2.1
      have hg1 := hg.1
      unfold fF_numberIn
      rw [a_content hl hge, o_bind, a_type hl hge, o_bind]
      by_cases h16 : e.1 = 16
      · have := hg.2.2.2.2.2.2.1 h16
        rw [if_pos (c := eTy e = (16 : Int32)) ((qt 16 (by omega)).mpr h16), if_pos h16, show fB_intAt N (eCt e) (nn B) f = _ from o_int hN hy this, o_bind]
      · rw [if_neg (c := eTy e = (16 : Int32)) (fun z => h16 ((qt 16 (by omega)).mp z)), if_neg h16]
        by_cases h18 : e.1 = 18
        · have := hg.2.2.2.2.2.2.2.1 h18
          rw [if_pos (c := eTy e = (18 : Int32)) ((qt 18 (by omega)).mpr h18), if_pos h18]
          unfold fB_longAt
          rw [show fB_intAt N (eCt e) (nn B) f = _ from o_int hN hy (a := e.2.2.2.1) (by omega), o_bind, show fB_intAt N (eCt e + (4 : Int32)) (nn B) f = _ from (show fB_intAt N (nn e.2.2.2.1 + nn 4) (nn B) f = _ by rw [nn_add, o_int hN hy (a := e.2.2.2.1 + 4) (by omega)]), o_bind, o_bind]
        · rw [if_neg (c := eTy e = (18 : Int32)) (fun z => h18 ((qt 18 (by omega)).mp z)), if_neg h18, show fB_at (eCt e) (nn B) f = _ from o_at hB (a := e.2.2.2.1) (by omega), o_bind]
    have key : ∃ v : Int64, fF_numberIn N (nn j) (nn B) f (nn els.length) (wr t 0 (els.map eTy)) (wr c 0 (els.map eCt)) = some v ∧ (if eTy e = (nn 8 : Int32) then (if ok (eCt e) 120 = true then some (vp_updL held (8 * (O + e.2.2.2.2.1) + p) (f (eCt e).toNatClampNeg).toInt64) else none) else (if eTy e = (16 : Int32) then ((fM_number (eCt e) f).bind fun u122 => some (vp_updL held (8 * (O + e.2.2.2.2.1) + p) u122.toInt64)) else ((fM_long64 (eCt e) f).bind fun u136 => some (vp_updL held (8 * (O + e.2.2.2.2.1) + p) u136)))) = some (vp_updL held (8 * (O + e.2.2.2.2.1) + p) v) := by
      rw [hN3]
      have h8or : e.1 = 8 ∨ e.1 = 16 ∨ e.1 = 18 := by
        unfold alw at hal
        rw [if_neg h3] at hal
        have q16 := qt 16 (by omega)
        have q18 := qt 18 (by omega)
        have q8 := qt 8 (by omega)
        split at hal
        · exact Or.inr (Or.inl (q16.mp (of_decide_eq_true hal)))
        · split at hal
          · rcases of_decide_eq_true hal with z | z
            · exact Or.inr (Or.inr (q18.mp z))
            · exact Or.inr (Or.inl (q16.mp z))
          · exact Or.inl (q8.mp (of_decide_eq_true hal))
      rcases h8or with h8 | h16 | h18
      · have := hg.2.2.2.2.2.1 h8
        rw [if_neg (by omega), if_neg (by omega), if_pos ((qt 8 (by omega)).mpr h8), show eCt e = nn e.2.2.2.1 from rfl, if_pos (nn_okt (show e.2.2.2.1 < 2147483648 by omega) (show e.2.2.2.1 < 120 by omega)), nn_c (show e.2.2.2.1 < 2147483648 by omega)]
        refine ⟨_, rfl, ?_⟩
        unfold av
        rw [if_pos this]
      · have := hg.2.2.2.2.2.2.1 h16
        rw [if_pos h16, if_neg (fun z => by have := (qt 8 (by omega)).mp z; omega), if_pos (c := eTy e = (16 : Int32)) ((qt 16 (by omega)).mpr h16), show fM_number (eCt e) f = _ from m_num4 (a := e.2.2.2.1) (by omega), o_bind]
        exact ⟨_, rfl, rfl⟩
      · have := hg.2.2.2.2.2.2.2.1 h18
        rw [if_neg (by omega), if_pos h18, if_neg (fun z => by have := (qt 8 (by omega)).mp z; omega), if_neg (c := eTy e = (16 : Int32)) (fun z => by have := (qt 16 (by omega)).mp z; omega)]
        refine ⟨_, rfl, ?_⟩
        unfold fM_long64
        rw [show fM_number (eCt e) f = _ from m_num4 (a := e.2.2.2.1) (by omega), o_bind, show fM_number (eCt e + (4 : Int32)) f = _ from (show fM_number (nn e.2.2.2.1 + nn 4) f = _ by rw [nn_add, m_num4 (a := e.2.2.2.1 + 4) (by omega)]), o_bind, o_bind, Int64.or_comm]
    obtain ⟨v, kv1, kv2⟩ := key
    rw [kv1, o_bind, iSetV hOD (by omega) (by omega), o_bind]
    exact ⟨_, prt, _, rfl, kv2, keep v h3, fun _ _ => rfl⟩
end FILL
