/-! the reference: begin, element, end -/
theorem m_id : MW (fun n b g => some (n, b, g)) [] :=
  ⟨fun n g hn => ⟨fun _ => rfl, fun h => absurd hn h⟩, fun n g hn => ⟨n, g, hn, rfl⟩⟩
def m_bg (N : Nat) (kc c : Int32) (n : Int32) (b : Bool) (g : AI) : Option (Int32 × Bool × AI) :=
  (fM_writeNumber N 0 4 n b g).bind fun u => if kc = c then some u else m_mk N kc u.1 u.2.1 u.2.2
theorem m_bgW {N : Nat} (hN : 10 ≤ N) (kc c : Int32) : MW (m_bg N kc c) ([0, 0, 0, 0] ++ (if kc = c then [] else [2, 95, 116, 0, 2, 0, 0, 0, 65 + kc, 0])) := by
  unfold m_bg
  by_cases h : kc = c
  · simp only [if_pos h]
    exact MW_seq (m_zero hN) m_id
  · simp only [if_neg h]
    exact MW_seq (m_zero hN) (m_mark hN kc)
theorem m_begin {N k o : Nat} (hk : k < 5) (ho : o < 12) (c n : Int32) (b : Bool) (cls g oo os on : AI) : fM_begin N (nn o) c n b (nn k) cls g oo os on = (m_bg N (cls o) c n b g).bind fun u => some (u.1, u.2.1, nn (k + 1), u.2.2, upd oo k (nn o), upd os k n, upd on k 0) := by
  have hok : ok (nn k) 5 = true := nn_okt (by omega) hk
  have hok2 : ok (nn o) 12 = true := nn_okt (by omega) ho
  unfold fM_begin m_bg
  rw [show (5 : Int32) = nn 5 from rfl, c_lt (by omega) (by omega), if_pos hk]
  simp only [if_pos hok, if_pos hok2, nn_c (show k < 2147483648 by omega), nn_c (show o < 2147483648 by omega), nn_s, Option.bind_assoc]
  congr 1
  funext u
  by_cases h : cls o = c
  · rw [if_pos h, if_pos h]; rfl
  · rw [if_neg h, if_neg h]
    unfold m_mk
    simp only [Option.bind_assoc]
theorem m_begin5 {N k : Nat} (hk : 5 ≤ k) (hk2 : k < 100) (v c n : Int32) (b : Bool) (cls g oo os on : AI) : fM_begin N v c n b (nn k) cls g oo os on = some (n, true, nn k, g, oo, os, on) := by
  unfold fM_begin
  rw [show (5 : Int32) = nn 5 from rfl, c_lt (by omega) (by omega), if_neg (by omega)]
def m_hd (t l : Int32) (n : Int32) (b : Bool) (g : AI) : Option (Int32 × Bool × AI) :=
  (fM_write t n b g).bind fun u => ((fM_write (97 + l) u.1 u.2.1 u.2.2).bind fun w => fM_write 0 w.1 w.2.1 w.2.2)
theorem m_hdW (t l : Int32) : MW (m_hd t l) [t, 97 + l, 0] := MW_seq (m_write t) (MW_seq (m_write (97 + l)) (m_write 0))
theorem b_id7 (c : Option (Int32 × Bool × Int32 × AI × AI × AI × AI)) : (c.bind fun u => some (u.1, u.2.1, u.2.2.1, u.2.2.2.1, u.2.2.2.2.1, u.2.2.2.2.2.1, u.2.2.2.2.2.2)) = c := by
  cases c <;> rfl
section MEL
variable {N o p : Nat} (n : Int32) (b : Bool) (k : Int32) (let_ sor tar cls : AI) (held : AJ) (g oo os on : AI)
theorem m_el91 (hp : p < 8) (v : Int64) (v5 w : Int32) : fM_element_91 N (nn o) (nn p) let_ sor tar cls held v v5 n b k g oo os on w = (m_hd w (let_ p) n b g).bind fun u => if sor p = 3 then (if v5 = 0 then fM_begin N v.toInt32 (tar p) u.1 u.2.1 k cls u.2.2 oo os on else some (u.1, u.2.1, k, u.2.2, oo, os, on)) else (fM_writeNumber N v (if sor p = 0 then 4 else if sor p = 1 then 8 else 1) u.1 u.2.1 u.2.2).bind fun z => some (z.1, z.2.1, k, z.2.2, oo, os, on) := by
  have hok : ok (nn p) 8 = true := nn_okt (by omega) hp
  unfold fM_element_91 m_hd
  simp only [if_pos hok, nn_c (show p < 2147483648 by omega), b_id7, Option.bind_assoc]
  congr 1
  funext u
  congr 1
  funext w
  congr 1
  funext z
  by_cases h3 : sor p = 3
  · rw [if_pos h3, if_pos h3]
  · rw [if_neg h3, if_neg h3]
    by_cases h0 : sor p = 0
    · rw [if_pos h0, if_pos h0]
    · rw [if_neg h0, if_neg h0]
      by_cases h1 : sor p = 1
      · rw [if_pos h1, if_pos h1]
      · rw [if_neg h1, if_neg h1]
theorem m_el (ho : o < 12) (hp : p < 8) (hs : ∃ x, x < 4 ∧ sor p = nn x) : fM_element N (nn o) (nn p) n b k let_ sor tar cls held g oo os on = (m_hd (if sor p = 0 then 16 else if sor p = 1 then 18 else if sor p = 2 then 8 else if held (8 * o + p) < 0 then 10 else 3) (let_ p) n b g).bind fun u => if sor p = 3 then (if held (8 * o + p) < 0 then some (u.1, u.2.1, k, u.2.2, oo, os, on) else fM_begin N (held (8 * o + p)).toInt32 (tar p) u.1 u.2.1 k cls u.2.2 oo os on) else (fM_writeNumber N (held (8 * o + p)) (if sor p = 0 then 4 else if sor p = 1 then 8 else 1) u.1 u.2.1 u.2.2).bind fun z => some (z.1, z.2.1, k, z.2.2, oo, os, on) := by
  have hok : ok (nn p) 8 = true := nn_okt (by omega) hp
  have hok2 : ok (nn (8 * o + p)) 96 = true := nn_okt (by omega) (by omega)
  obtain ⟨x, hx, ex⟩ := hs
  have h33 : ∀ (v : Int64) (w : Int32), fM_element_33 N (nn o) (nn p) let_ sor tar cls held v n b k g oo os on w = (m_hd (if sor p = 0 then 16 else if sor p = 1 then 18 else if sor p = 2 then 8 else if w = 0 then 3 else 10) (let_ p) n b g).bind fun u => if sor p = 3 then (if w = 0 then fM_begin N v.toInt32 (tar p) u.1 u.2.1 k cls u.2.2 oo os on else some (u.1, u.2.1, k, u.2.2, oo, os, on)) else (fM_writeNumber N v (if sor p = 0 then 4 else if sor p = 1 then 8 else 1) u.1 u.2.1 u.2.2).bind fun z => some (z.1, z.2.1, k, z.2.2, oo, os, on) := by
    intro v w
    unfold fM_element_33
    simp only [if_pos hok, nn_c (show p < 2147483648 by omega), m_el91 n b k let_ sor tar cls held g oo os on hp]
    by_cases h0 : sor p = 0
    · simp only [if_pos h0]
    · by_cases h1 : sor p = 1
      · simp only [if_neg h0, if_pos h1]
      · by_cases h2 : sor p = 2
        · simp only [if_neg h0, if_neg h1, if_pos h2]
        · simp only [if_neg h0, if_neg h1, if_neg h2]
          by_cases hw : w = 0
          · simp only [if_pos hw]
          · simp only [if_neg hw]
  unfold fM_element
  simp only [show (8 : Int32) = nn 8 from rfl, nn_mul, nn_add]
  simp only [if_pos hok, if_pos hok2, nn_c (show p < 2147483648 by omega), nn_c (show 8 * o + p < 2147483648 by omega), h33, lg_cmp_ge]
  by_cases h3 : sor p = 3
  · have h0 : ¬ sor p = 0 := by rw [h3]; decide
    have h1 : ¬ sor p = 1 := by rw [h3]; decide
    have h2 : ¬ sor p = 2 := by rw [h3]; decide
    simp only [if_pos h3, if_neg h0, if_neg h1, if_neg h2]
    by_cases hv : held (8 * o + p) < 0
    · have hv' : ¬ 0 ≤ held (8 * o + p) := by
        rw [Int64.lt_iff_toInt_lt] at hv
        rw [Int64.le_iff_toInt_le]
        omega
      rw [if_neg hv', if_pos hv]
      simp only [if_pos hv]
      rfl
    · have hv' : 0 ≤ held (8 * o + p) := by
        rw [Int64.lt_iff_toInt_lt] at hv
        rw [Int64.le_iff_toInt_le]
        omega
      rw [if_pos hv', if_neg hv]
      simp only [if_neg hv]
      rfl
  · simp only [if_neg h3]
    by_cases h0 : sor p = 0
    · simp only [if_pos h0]
    · by_cases h1 : sor p = 1
      · simp only [if_neg h0, if_pos h1]
        rfl
      · by_cases h2 : sor p = 2
        · simp only [if_neg h0, if_neg h1, if_pos h2]
          rfl
        · exfalso
          rw [ex] at h0 h1 h2 h3
          rw [show (0 : Int32) = nn 0 from rfl, nn_eq (by omega) (by omega)] at h0
          rw [show (1 : Int32) = nn 1 from rfl, nn_eq (by omega) (by omega)] at h1
          rw [show (2 : Int32) = nn 2 from rfl, nn_eq (by omega) (by omega)] at h2
          rw [show (3 : Int32) = nn 3 from rfl, nn_eq (by omega) (by omega)] at h3
          omega
end MEL
/-- the length put over the four bytes at a start -/
def pat (s x : Nat) (g : AI) : AI := upd (upd (upd (upd g s (nn x)) (s + 1) 0) (s + 2) 0) (s + 3) 0
theorem m_end {k s n : Nat} (hk : k < 5) (hs : s + 4 ≤ n) (hn : n < 120) (g os : AI) (hos : os k = nn s) : fM_end (nn n) false (nn (k + 1)) g os = some (nn (n + 1), false, nn k, pat s (n + 1 - s) (upd g n 0)) := by
  unfold fM_end
  have hw := ((m_write 0).1 n g (by omega)).1 (by simp only [List.length_cons, List.length_nil]; omega)
  rw [show fM_write (0 : Int32) (nn n) false g = some (nn (n + 1), false, upd g n 0) from hw, o_bind, nn_p, if_pos (nn_okt (by omega) hk), nn_c (show k < 2147483648 by omega), hos]
  rw [show nn s + (1 : Int32) = nn (s + 1) from nn_s s, show nn s + (2 : Int32) = nn (s + 2) from nn_add s 2, show nn s + (3 : Int32) = nn (s + 3) from nn_add s 3]
  rw [if_pos (nn_okt (by omega) (by omega)), if_pos (nn_okt (by omega) (by omega)), if_pos (nn_okt (by omega) (by omega)), if_pos (nn_okt (by omega) (by omega)), nn_c (by omega), nn_c (by omega), nn_c (by omega), nn_c (by omega)]
  dsimp only
  rw [nn_sub (by omega)]
  have h8 : ∀ y : Fin 121, (nn y.val &&& (255 : Int32)) = nn y.val ∧ (nn y.val >>> ((8 : Int32) &&& 31)) = 0 := by decide +kernel
  obtain ⟨e1, e2⟩ := h8 ⟨n + 1 - s, by omega⟩
  dsimp only at e1 e2
  rw [e1, e2]
  rfl
theorem m_endF {k s n : Nat} (hk : k < 5) (hs : s + 4 ≤ n) (hn : n = 120) (g os : AI) (hos : os k = nn s) : ∃ x g', fM_end (nn n) false (nn (k + 1)) g os = some (x, true, nn k, g') := by
  unfold fM_end
  obtain ⟨m, g', hm, e⟩ := ((m_write 0).1 n g (by omega)).2 (by simp only [List.length_cons, List.length_nil]; omega)
  rw [e, o_bind, nn_p, if_pos (nn_okt (by omega) hk), nn_c (show k < 2147483648 by omega), hos]
  rw [show nn s + (1 : Int32) = nn (s + 1) from nn_s s, show nn s + (2 : Int32) = nn (s + 2) from nn_add s 2, show nn s + (3 : Int32) = nn (s + 3) from nn_add s 3]
  rw [if_pos (nn_okt (by omega) (by omega)), if_pos (nn_okt (by omega) (by omega)), if_pos (nn_okt (by omega) (by omega)), if_pos (nn_okt (by omega) (by omega))]
  exact ⟨_, _, rfl⟩
