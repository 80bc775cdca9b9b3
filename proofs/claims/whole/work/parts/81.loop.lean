/-! the law's loop answers true at every script -/
theorem l_main {N L : Nat} {xs : AI} (hN : 200 ≤ N) (hL : L ≤ 2560) : ∀ (q k : Nat), 5 * k ≤ L → L < 5 * (k + q) → Sg (fL_18l N L xs q) (nn (5 * k))
  | 0, k, h1, h2 => absurd h2 (by omega)
  | q + 1, k, h1, h2 => by
    intro C G O B par own let_ sor tar kin val prt held row hd ho hy w_count w_row o_elementCount o_documentCount o_deepest o_types o_names o_contents o_holders o_inners f_wanted f_meant m_len m_failed m_open m_at m_bad m_docs m_elems m_deep m_out m_openObject m_openStart m_openNext m_docStart m_docDepth m_docNeed m_docMeant m_elemDoc m_elemType m_elemName m_elemNameLen m_elemContent m_elemChild m_deepDoc
    show fL_18 N L xs (fL_18l N L xs q) (nn (5 * k)) (nn C) (nn G) (par) (own) (let_) (sor) (tar) (nn O) (kin) (val) (prt) (nn B) (row) w_count w_row o_elementCount o_documentCount o_deepest o_types o_names o_contents o_holders o_inners f_wanted f_meant (nn C) (nn G) (nn O) (nn B) m_len m_failed m_open m_at m_bad m_docs m_elems m_deep (par) (own) (let_) (sor) (tar) (kin) (held) (row) m_out m_openObject m_openStart m_openNext m_docStart m_docDepth m_docNeed m_docMeant m_elemDoc m_elemType m_elemName m_elemNameLen m_elemContent m_elemChild m_deepDoc = some true
    unfold fL_18
    by_cases hlt : 5 * k + 5 ≤ L
    case neg =>
      rw [if_pos]
      by_cases h5 : 5 ≤ L
      · rw [show (5 : Int32) = nn 5 from rfl, nn_sub h5, nn_lt (by omega) (by omega)]
        omega
      · have hk : k = 0 := by omega
        subst hk
        have hz : L = 0 ∨ L = 1 ∨ L = 2 ∨ L = 3 ∨ L = 4 := by omega
        rcases hz with e | e | e | e | e <;> subst e <;> decide
    rw [if_neg (c := ((Int32.ofNat L) - (5 : Int32)) < nn (5 * k)) (by rw [show (5 : Int32) = nn 5 from rfl, nn_sub (by omega), nn_lt (by omega) (by omega)]; omega), if_pos (nn_okt (by omega) (by omega)), nn_c (show 5 * k < 2147483648 by omega)]
    have o1 : ok (nn (5 * k) + (1 : Int32)) L = true := by rw [show (1 : Int32) = nn 1 from rfl, nn_add]; exact nn_okt (by omega) (by omega)
    have o2 : ok (nn (5 * k) + (2 : Int32)) L = true := by rw [show (2 : Int32) = nn 2 from rfl, nn_add]; exact nn_okt (by omega) (by omega)
    have o3 : ok (nn (5 * k) + (3 : Int32)) L = true := by rw [show (3 : Int32) = nn 3 from rfl, nn_add]; exact nn_okt (by omega) (by omega)
    have o4 : ok (nn (5 * k) + (4 : Int32)) L = true := by rw [show (4 : Int32) = nn 4 from rfl, nn_add]; exact nn_okt (by omega) (by omega)
    have hrc : Sg (fL_18l N L xs q) (nn (5 * k) + (5 : Int32)) := by
      rw [show (5 : Int32) = nn 5 from rfl, nn_add, show 5 * k + 5 = 5 * (k + 1) by omega]
      exact l_main hN hL q (k + 1) (by omega) (by omega)
    by_cases h0 : xs (5 * k) &&& (31 : Int32) = (0 : Int32)
    · rw [if_pos h0]
      exact l_124 hN o1 o2 o3 o4 hrc C G O B par own let_ sor tar kin val prt held row hd ho hy w_count w_row o_elementCount o_documentCount o_deepest o_types o_names o_contents o_holders o_inners f_wanted f_meant m_len m_failed m_open m_at m_bad m_docs m_elems m_deep m_out m_openObject m_openStart m_openNext m_docStart m_docDepth m_docNeed m_docMeant m_elemDoc m_elemType m_elemName m_elemNameLen m_elemContent m_elemChild m_deepDoc
    rw [if_neg h0]
    by_cases h1 : xs (5 * k) &&& (31 : Int32) = (1 : Int32)
    · rw [if_pos h1]
      exact l_147 hN o1 o2 o3 o4 hrc C G O B par own let_ sor tar kin val prt held row hd ho hy w_count w_row o_elementCount o_documentCount o_deepest o_types o_names o_contents o_holders o_inners f_wanted f_meant m_len m_failed m_open m_at m_bad m_docs m_elems m_deep m_out m_openObject m_openStart m_openNext m_docStart m_docDepth m_docNeed m_docMeant m_elemDoc m_elemType m_elemName m_elemNameLen m_elemContent m_elemChild m_deepDoc
    rw [if_neg h1]
    by_cases h2 : xs (5 * k) &&& (31 : Int32) = (2 : Int32)
    · rw [if_pos h2]
      exact l_200 hN o1 o2 o3 o4 hrc C G O B par own let_ sor tar kin val prt held row hd ho hy w_count w_row o_elementCount o_documentCount o_deepest o_types o_names o_contents o_holders o_inners f_wanted f_meant m_len m_failed m_open m_at m_bad m_docs m_elems m_deep m_out m_openObject m_openStart m_openNext m_docStart m_docDepth m_docNeed m_docMeant m_elemDoc m_elemType m_elemName m_elemNameLen m_elemContent m_elemChild m_deepDoc
    rw [if_neg h2]
    by_cases h3 : xs (5 * k) &&& (31 : Int32) = (3 : Int32)
    · rw [if_pos h3]
      exact l_223 hN o1 o2 o3 o4 hrc C G O B par own let_ sor tar kin val prt held row hd ho hy w_count w_row o_elementCount o_documentCount o_deepest o_types o_names o_contents o_holders o_inners f_wanted f_meant m_len m_failed m_open m_at m_bad m_docs m_elems m_deep m_out m_openObject m_openStart m_openNext m_docStart m_docDepth m_docNeed m_docMeant m_elemDoc m_elemType m_elemName m_elemNameLen m_elemContent m_elemChild m_deepDoc
    rw [if_neg h3]
    by_cases h4 : xs (5 * k) &&& (31 : Int32) = (4 : Int32)
    · rw [if_pos h4]
      exact l_296 hN o1 o2 o3 o4 hrc C G O B par own let_ sor tar kin val prt held row hd ho hy w_count w_row o_elementCount o_documentCount o_deepest o_types o_names o_contents o_holders o_inners f_wanted f_meant m_len m_failed m_open m_at m_bad m_docs m_elems m_deep m_out m_openObject m_openStart m_openNext m_docStart m_docDepth m_docNeed m_docMeant m_elemDoc m_elemType m_elemName m_elemNameLen m_elemContent m_elemChild m_deepDoc
    rw [if_neg h4]
    by_cases h5 : xs (5 * k) &&& (31 : Int32) = (5 : Int32)
    · rw [if_pos h5]
      exact l_339 hN o1 o2 o3 o4 hrc C G O B par own let_ sor tar kin val prt held row hd ho hy w_count w_row o_elementCount o_documentCount o_deepest o_types o_names o_contents o_holders o_inners f_wanted f_meant m_len m_failed m_open m_at m_bad m_docs m_elems m_deep m_out m_openObject m_openStart m_openNext m_docStart m_docDepth m_docNeed m_docMeant m_elemDoc m_elemType m_elemName m_elemNameLen m_elemContent m_elemChild m_deepDoc
    rw [if_neg h5]
    by_cases h6 : xs (5 * k) &&& (31 : Int32) = (6 : Int32)
    · rw [if_pos h6]
      exact l_373 hN o1 o2 o3 o4 hrc C G O B par own let_ sor tar kin val prt held row hd ho hy w_count w_row o_elementCount o_documentCount o_deepest o_types o_names o_contents o_holders o_inners f_wanted f_meant m_len m_failed m_open m_at m_bad m_docs m_elems m_deep m_out m_openObject m_openStart m_openNext m_docStart m_docDepth m_docNeed m_docMeant m_elemDoc m_elemType m_elemName m_elemNameLen m_elemContent m_elemChild m_deepDoc
    rw [if_neg h6]
    by_cases h7 : xs (5 * k) &&& (31 : Int32) = (7 : Int32)
    · rw [if_pos h7]
      exact l_406 hN o1 o2 o3 o4 hrc C G O B par own let_ sor tar kin val prt held row hd ho hy w_count w_row o_elementCount o_documentCount o_deepest o_types o_names o_contents o_holders o_inners f_wanted f_meant m_len m_failed m_open m_at m_bad m_docs m_elems m_deep m_out m_openObject m_openStart m_openNext m_docStart m_docDepth m_docNeed m_docMeant m_elemDoc m_elemType m_elemName m_elemNameLen m_elemContent m_elemChild m_deepDoc
    rw [if_neg h7]
    by_cases h8 : xs (5 * k) &&& (31 : Int32) = (8 : Int32)
    · rw [if_pos h8]
      exact l_429 hN o1 o2 o3 o4 hrc C G O B par own let_ sor tar kin val prt held row hd ho hy w_count w_row o_elementCount o_documentCount o_deepest o_types o_names o_contents o_holders o_inners f_wanted f_meant m_len m_failed m_open m_at m_bad m_docs m_elems m_deep m_out m_openObject m_openStart m_openNext m_docStart m_docDepth m_docNeed m_docMeant m_elemDoc m_elemType m_elemName m_elemNameLen m_elemContent m_elemChild m_deepDoc
    rw [if_neg h8]
    by_cases h9 : xs (5 * k) &&& (31 : Int32) = (9 : Int32)
    · rw [if_pos h9]
      exact l_442 hN o1 o2 o3 o4 hrc C G O B par own let_ sor tar kin val prt held row hd ho hy w_count w_row o_elementCount o_documentCount o_deepest o_types o_names o_contents o_holders o_inners f_wanted f_meant m_len m_failed m_open m_at m_bad m_docs m_elems m_deep m_out m_openObject m_openStart m_openNext m_docStart m_docDepth m_docNeed m_docMeant m_elemDoc m_elemType m_elemName m_elemNameLen m_elemContent m_elemChild m_deepDoc
    rw [if_neg h9]
    by_cases h10 : xs (5 * k) &&& (31 : Int32) = (10 : Int32)
    · rw [if_pos h10]
      exact l_453 hN o1 o2 o3 o4 hrc C G O B par own let_ sor tar kin val prt held row hd ho hy w_count w_row o_elementCount o_documentCount o_deepest o_types o_names o_contents o_holders o_inners f_wanted f_meant m_len m_failed m_open m_at m_bad m_docs m_elems m_deep m_out m_openObject m_openStart m_openNext m_docStart m_docDepth m_docNeed m_docMeant m_elemDoc m_elemType m_elemName m_elemNameLen m_elemContent m_elemChild m_deepDoc
    rw [if_neg h10]
    by_cases h11 : xs (5 * k) &&& (31 : Int32) = (11 : Int32)
    · rw [if_pos h11]
      exact l_486 hN o1 o2 o3 o4 hrc C G O B par own let_ sor tar kin val prt held row hd ho hy w_count w_row o_elementCount o_documentCount o_deepest o_types o_names o_contents o_holders o_inners f_wanted f_meant m_len m_failed m_open m_at m_bad m_docs m_elems m_deep m_out m_openObject m_openStart m_openNext m_docStart m_docDepth m_docNeed m_docMeant m_elemDoc m_elemType m_elemName m_elemNameLen m_elemContent m_elemChild m_deepDoc
    rw [if_neg h11]
    by_cases h12 : xs (5 * k) &&& (31 : Int32) = (12 : Int32)
    · rw [if_pos h12]
      exact l_509 hN o1 o2 o3 o4 hrc C G O B par own let_ sor tar kin val prt held row hd ho hy w_count w_row o_elementCount o_documentCount o_deepest o_types o_names o_contents o_holders o_inners f_wanted f_meant m_len m_failed m_open m_at m_bad m_docs m_elems m_deep m_out m_openObject m_openStart m_openNext m_docStart m_docDepth m_docNeed m_docMeant m_elemDoc m_elemType m_elemName m_elemNameLen m_elemContent m_elemChild m_deepDoc
    rw [if_neg h12]
    by_cases h13 : xs (5 * k) &&& (31 : Int32) = (13 : Int32)
    · rw [if_pos h13]
      exact l_522 hN o1 o2 o3 o4 hrc C G O B par own let_ sor tar kin val prt held row hd ho hy w_count w_row o_elementCount o_documentCount o_deepest o_types o_names o_contents o_holders o_inners f_wanted f_meant m_len m_failed m_open m_at m_bad m_docs m_elems m_deep m_out m_openObject m_openStart m_openNext m_docStart m_docDepth m_docNeed m_docMeant m_elemDoc m_elemType m_elemName m_elemNameLen m_elemContent m_elemChild m_deepDoc
    rw [if_neg h13]
    by_cases h14 : xs (5 * k) &&& (31 : Int32) = (14 : Int32)
    · rw [if_pos h14]
      exact l_535 hN o1 o2 o3 o4 hrc C G O B par own let_ sor tar kin val prt held row hd ho hy w_count w_row o_elementCount o_documentCount o_deepest o_types o_names o_contents o_holders o_inners f_wanted f_meant m_len m_failed m_open m_at m_bad m_docs m_elems m_deep m_out m_openObject m_openStart m_openNext m_docStart m_docDepth m_docNeed m_docMeant m_elemDoc m_elemType m_elemName m_elemNameLen m_elemContent m_elemChild m_deepDoc
    rw [if_neg h14]
    by_cases h15 : xs (5 * k) &&& (31 : Int32) = (15 : Int32)
    · rw [if_pos h15]
      exact l_548 hN o1 o2 o3 o4 hrc C G O B par own let_ sor tar kin val prt held row hd ho hy w_count w_row o_elementCount o_documentCount o_deepest o_types o_names o_contents o_holders o_inners f_wanted f_meant m_len m_failed m_open m_at m_bad m_docs m_elems m_deep m_out m_openObject m_openStart m_openNext m_docStart m_docDepth m_docNeed m_docMeant m_elemDoc m_elemType m_elemName m_elemNameLen m_elemContent m_elemChild m_deepDoc
    rw [if_neg h15]
    by_cases h16 : xs (5 * k) &&& (31 : Int32) = (16 : Int32)
    · rw [if_pos h16]
      exact l_561 hN o1 o2 o3 o4 hrc C G O B par own let_ sor tar kin val prt held row hd ho hy w_count w_row o_elementCount o_documentCount o_deepest o_types o_names o_contents o_holders o_inners f_wanted f_meant m_len m_failed m_open m_at m_bad m_docs m_elems m_deep m_out m_openObject m_openStart m_openNext m_docStart m_docDepth m_docNeed m_docMeant m_elemDoc m_elemType m_elemName m_elemNameLen m_elemContent m_elemChild m_deepDoc
    rw [if_neg h16]
    by_cases h17 : xs (5 * k) &&& (31 : Int32) = (17 : Int32)
    · rw [if_pos h17]
      exact l_584 hN o1 o2 o3 o4 hrc C G O B par own let_ sor tar kin val prt held row hd ho hy w_count w_row o_elementCount o_documentCount o_deepest o_types o_names o_contents o_holders o_inners f_wanted f_meant m_len m_failed m_open m_at m_bad m_docs m_elems m_deep m_out m_openObject m_openStart m_openNext m_docStart m_docDepth m_docNeed m_docMeant m_elemDoc m_elemType m_elemName m_elemNameLen m_elemContent m_elemChild m_deepDoc
    rw [if_neg h17]
    by_cases h18 : xs (5 * k) &&& (31 : Int32) = (18 : Int32)
    · rw [if_pos h18]
      exact l_617 hN o1 o2 o3 o4 hrc C G O B par own let_ sor tar kin val prt held row hd ho hy w_count w_row o_elementCount o_documentCount o_deepest o_types o_names o_contents o_holders o_inners f_wanted f_meant m_len m_failed m_open m_at m_bad m_docs m_elems m_deep m_out m_openObject m_openStart m_openNext m_docStart m_docDepth m_docNeed m_docMeant m_elemDoc m_elemType m_elemName m_elemNameLen m_elemContent m_elemChild m_deepDoc
    rw [if_neg h18]
    exact hrc C G O B par own let_ sor tar kin val prt held row hd ho hy w_count w_row o_elementCount o_documentCount o_deepest o_types o_names o_contents o_holders o_inners f_wanted f_meant m_len m_failed m_open m_at m_bad m_docs m_elems m_deep m_out m_openObject m_openStart m_openNext m_docStart m_docDepth m_docNeed m_docMeant m_elemDoc m_elemType m_elemName m_elemNameLen m_elemContent m_elemChild m_deepDoc
theorem l_all {L : Nat} (xs : AI) (hL : L ≤ 2560) : fL_18l 1000 L xs 1000 (0, 0, 0, fun _ => 0, fun _ => 0, fun _ => 0, fun _ => 0, fun _ => 0, 0, fun _ => 0, fun _ => 0, fun _ => 0, 0, fun _ => 0, 0, fun _ => 0, 0, 0, 0, fun _ => 0, fun _ => 0, fun _ => 0, fun _ => 0, fun _ => 0, fun _ => 0, fun _ => 0, 0, 0, 0, 0, 0, false, 0, 0, false, 0, 0, 0, fun _ => 0, fun _ => 0, fun _ => 0, fun _ => 0, fun _ => 0, fun _ => 0, fun _ => 0, fun _ => 0, fun _ => 0, fun _ => 0, fun _ => 0, fun _ => 0, fun _ => 0, fun _ => 0, fun _ => 0, fun _ => 0, fun _ => 0, fun _ => 0, fun _ => 0, fun _ => 0, fun _ => 0, fun _ => 0, fun _ => 0) = some true :=
  l_main (N := 1000) (xs := xs) (by omega) hL 1000 0 (by omega) (by omega) 0 0 0 0 (fun _ => 0) (fun _ => 0) (fun _ => 0) (fun _ => 0) (fun _ => 0) (fun _ => 0) (fun _ => 0) (fun _ => 0) (fun _ => 0) (fun _ => 0) ⟨by omega, by omega, fun i h => absurd h (by omega), fun x y h => absurd h (by omega), fun p h => absurd h (by omega)⟩ (oI_0 _ _ _ _ _ _ _) ⟨by omega, fun i h => absurd h (by omega)⟩ _ _ _ _ _ _ _ _ _ _ _ _ _ _ _ _ _ _ _ _ _ _ _ _ _ _ _ _ _ _ _ _ _ _ _
