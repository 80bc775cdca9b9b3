/-! the states at which both sides stand alike -/
theorem kd_upd {C : Nat} {par : AI} (hp : pI C par) (v b : Int32) (hC : C ≤ 6) : ∀ (k i : Nat), i < C → kd (upd par C v) k (nn i) b = kd par k (nn i) b
  | 0, _, _ => rfl
  | k + 1, i, hi => by
    rw [kd_s (by omega), kd_s (by omega), upd_ne _ _ (show i ≠ C by omega)]
    rcases hp i hi with e | ⟨j, hj, e⟩
    · rw [e, kd_neg _ _ _ _ neg1_lt, kd_neg _ _ _ _ neg1_lt]
    · rw [e, kd_upd hp v b hC k j (by omega)]
theorem dI_def {C G : Nat} {par own let_ sor tar : AI} (hd : dI C G par own let_ sor tar) (hC : C < 6) {v : Int32} (hv : v = -1 ∨ ∃ j, j < C ∧ v = nn j) : dI (C + 1) G (upd par C v) own let_ sor tar := by
  obtain ⟨d1, d2, d3, d4, d5⟩ := hd
  refine ⟨by omega, d2, fun i hi => ?_, fun x y hx hy e hk => ?_, fun p hp => ?_⟩
  · by_cases e : i = C
    · subst e
      rw [upd_at]
      exact hv
    · rw [upd_ne _ _ e]
      exact d3 i (by omega)
  · refine d4 x y hx hy e ?_
    obtain ⟨⟨a, ha, ea⟩, -⟩ := d5 x hx
    obtain ⟨⟨b, hb, eb⟩, -⟩ := d5 y hy
    unfold isK at hk ⊢
    rw [ea, eb] at hk ⊢
    rw [kd_upd d3 v _ d1 6 a ha, kd_upd d3 v _ d1 6 b hb] at hk
    exact hk
  · obtain ⟨⟨a, ha, ea⟩, b1, b2, b3⟩ := d5 p hp
    refine ⟨⟨a, by omega, ea⟩, b1, b2, fun h => ?_⟩
    obtain ⟨z, hz, ez⟩ := b3 h
    exact ⟨z, by omega, ez⟩
theorem oI_0 (C G : Nat) (sor kin : AI) (val : AJ) (prt : AI) (held : AJ) : oI C G 0 sor kin val prt held := ⟨by omega, fun o h => absurd h (by omega), fun o p h => absurd h (by omega)⟩
theorem gE_of {C G O : Nat} {par own let_ sor tar kin : AI} {val : AJ} {prt : AI} {held : AJ} (hd : dI C G par own let_ sor tar) (ho : oI C G O sor kin val prt held) : gE (C, G, par, own, let_, sor, tar, O, kin, val, prt) := by
  have hG := hd.2.1
  refine ⟨hd, ho.1, ho.2.1, fun o p h1 h2 h3 => ?_⟩
  exact ((ho.2.2 o p h1 (show p < 8 by have : p < G := h2; omega)).1 ⟨h2, h3⟩).2.2
theorem hH_of {C G O : Nat} {par own let_ sor tar kin : AI} {val : AJ} {prt : AI} {held : AJ} (hd : dI C G par own let_ sor tar) (ho : oI C G O sor kin val prt held) : hH (C, G, par, own, let_, sor, tar, O, kin, val, prt) held := by
  have hG := hd.2.1
  intro o p h1 h2
  have hp8 : p < 8 := by have : p < G := h2; omega
  obtain ⟨c1, c2⟩ := ho.2.2 o p h1 hp8
  exact ⟨fun h3 => (c1 ⟨h2, h3⟩).2.1, fun h3 => (c2 (fun z => h3 z.2)).2⟩
theorem yI_cut {B B' : Nat} {f : AI} (hy : yI B f) (h : B' ≤ B) : yI B' f := ⟨by have := hy.1; omega, fun i hi => hy.2 i (by omega)⟩
